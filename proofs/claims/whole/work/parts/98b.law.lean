/-! ===== printed by wip/whole/gen98.py: the law, case by case, the rest ===== -/
set_option maxHeartbeats 8000000 in
theorem lw_9 {Q : Option mV → mG → Prop} {G : mG} {c j : Nat} (hC : Cpl c G) (hky : ∀ i, i < 20 → G 71 i = ky i) (hj : ((j + 5 : Nat) : Int) < G 1001 0) (hl : G 1001 0 ≤ 3072) (h1k : ∀ i : Nat, (i : Int) < G 1001 0 → G 1000 i < 2147483648) (hN : ∀ G2, LV G G2 → WLw Q 820 [some (mR 1), some (mR 5), some (mR 69), some (mI ((j : Nat) : Int))] [] G2) : WLw Q 463 [some (mR 1), some (mR 5), some (mR 69), some (mI ((j : Nat) : Int))] [] G := by
  have e1 : w32 (((j : Nat) : Int) + 1) = ((j + 1 : Nat) : Int) := ix_n (k := 1) (by omega) (by decide)
  have e2 : w32 (((j : Nat) : Int) + 2) = ((j + 2 : Nat) : Int) := ix_n (k := 2) (by omega) (by decide)
  have e3 : w32 (((j : Nat) : Int) + 3) = ((j + 3 : Nat) : Int) := ix_n (k := 3) (by omega) (by decide)
  have e4 : w32 (((j : Nat) : Int) + 4) = ((j + 4 : Nat) : Int) := ix_n (k := 4) (by omega) (by decide)
  have e5 : w32 (((j : Nat) : Int) + 5) = ((j + 5 : Nat) : Int) := ix_n (k := 5) (by omega) (by decide)
  refine wl_vc [479, 482, 498, 501, 820] 400 ?_
  refine ⟨(show 0 ≤ (w32 (((j : Nat) : Int) + 1)) ∧ (w32 (((j : Nat) : Int) + 1)) < G 1001 0 from by rw [e1]; omega), ?_⟩
  refine ⟨(show 0 ≤ (w32 (((j : Nat) : Int) + 2)) ∧ (w32 (((j : Nat) : Int) + 2)) < G 1001 0 from by rw [e2]; omega), ?_⟩
  refine ⟨(show 0 ≤ (w32 (((j : Nat) : Int) + 3)) ∧ (w32 (((j : Nat) : Int) + 3)) < G 1001 0 from by rw [e3]; omega), ?_⟩
  refine (show WLw Q 479 [some (mR 1), some (mR 5), some (mR 69), some (mI ((j : Nat) : Int))] [mI (G 1000 (Int.toNat (w32 (((j : Nat) : Int) + 3)))), mI (G 1000 (Int.toNat (w32 (((j : Nat) : Int) + 2)))), mI (G 1000 (Int.toNat (w32 (((j : Nat) : Int) + 1)))), mR 5] G from ?_)
  rw [e1, e2, e3, st_nat, st_nat, st_nat]
  refine (show WLw Q 479 [some (mR 1), some (mR 5), some (mR 69), some (mI ((j : Nat) : Int))] [mI (G 1000 (j + 3)), mI (G 1000 (j + 2)), mI (G 1000 (j + 1)), mR 5] G from ?_)
  refine wl_vc [479, 482, 498, 501, 820] 400 ?_
  refine bth_1 (pm_given hC (G 1000 (j + 1)) (G 1000 (j + 2)) (G 1000 (j + 3))) (fun a G1 h2 s0 s1 s2 => ?_)
  refine (show WLw Q 482 [some (mR 1), some (mR 5), some (mR 69), some (mI ((j : Nat) : Int))] [mI a] G1 from ?_)
  refine wl_vc [479, 482, 498, 501, 820] 400 ?_
  refine ⟨(show 0 ≤ (w32 (((j : Nat) : Int) + 1)) ∧ (w32 (((j : Nat) : Int) + 1)) < G1 1001 0 from by rw [e1, s1]; omega), ?_⟩
  refine ⟨(show 0 ≤ (w32 (((j : Nat) : Int) + 2)) ∧ (w32 (((j : Nat) : Int) + 2)) < G1 1001 0 from by rw [e2, s1]; omega), ?_⟩
  refine ⟨(show 0 ≤ (w32 (((j : Nat) : Int) + 3)) ∧ (w32 (((j : Nat) : Int) + 3)) < G1 1001 0 from by rw [e3, s1]; omega), ?_⟩
  refine (show WLw Q 498 [some (mR 1), some (mR 5), some (mR 69), some (mI ((j : Nat) : Int))] [mI (G1 1000 (Int.toNat (w32 (((j : Nat) : Int) + 3)))), mI (G1 1000 (Int.toNat (w32 (((j : Nat) : Int) + 2)))), mI (G1 1000 (Int.toNat (w32 (((j : Nat) : Int) + 1)))), mR 69, mI a] G1 from ?_)
  rw [e1, e2, e3, st_nat, st_nat, st_nat]
  rw [s2 (j + 1) (by omega), s2 (j + 2) (by omega), s2 (j + 3) (by omega)]
  refine (show WLw Q 498 [some (mR 1), some (mR 5), some (mR 69), some (mI ((j : Nat) : Int))] [mI (G 1000 (j + 3)), mI (G 1000 (j + 2)), mI (G 1000 (j + 1)), mR 69, mI a] G1 from ?_)
  refine wl_vc [479, 482, 498, 501, 820] 400 ?_
  refine bth_2 h2 (fun G2 b0 b1 b2 b3 => ?_)
  refine (show WLw Q 501 [some (mR 1), some (mR 5), some (mR 69), some (mI ((j : Nat) : Int))] [mI a, mI a] G2 from ?_)
  refine wl_vc [479, 482, 498, 501, 820] 400 ?_
  refine ⟨fun _ => ?_, fun (c : ¬ a = a) => absurd rfl c⟩
  refine (show WLw Q 820 [some (mR 1), some (mR 5), some (mR 69), some (mI ((j : Nat) : Int))] [] G2 from ?_)
  exact hN G2 (LV_tr hky s0 s1 s2 b0 b1 b2 b3)
set_option maxHeartbeats 8000000 in
theorem lw_10 {Q : Option mV → mG → Prop} {G : mG} {c j : Nat} (hC : Cpl c G) (hky : ∀ i, i < 20 → G 71 i = ky i) (hj : ((j + 5 : Nat) : Int) < G 1001 0) (hl : G 1001 0 ≤ 3072) (h1k : ∀ i : Nat, (i : Int) < G 1001 0 → G 1000 i < 2147483648) (hN : ∀ G2, LV G G2 → WLw Q 820 [some (mR 1), some (mR 5), some (mR 69), some (mI ((j : Nat) : Int))] [] G2) : WLw Q 506 [some (mR 1), some (mR 5), some (mR 69), some (mI ((j : Nat) : Int))] [] G := by
  have e1 : w32 (((j : Nat) : Int) + 1) = ((j + 1 : Nat) : Int) := ix_n (k := 1) (by omega) (by decide)
  have e2 : w32 (((j : Nat) : Int) + 2) = ((j + 2 : Nat) : Int) := ix_n (k := 2) (by omega) (by decide)
  have e3 : w32 (((j : Nat) : Int) + 3) = ((j + 3 : Nat) : Int) := ix_n (k := 3) (by omega) (by decide)
  have e4 : w32 (((j : Nat) : Int) + 4) = ((j + 4 : Nat) : Int) := ix_n (k := 4) (by omega) (by decide)
  have e5 : w32 (((j : Nat) : Int) + 5) = ((j + 5 : Nat) : Int) := ix_n (k := 5) (by omega) (by decide)
  refine wl_vc [517, 520, 531, 534, 820] 400 ?_
  refine ⟨(show 0 ≤ (w32 (((j : Nat) : Int) + 1)) ∧ (w32 (((j : Nat) : Int) + 1)) < G 1001 0 from by rw [e1]; omega), ?_⟩
  refine ⟨(show 0 ≤ (w32 (((j : Nat) : Int) + 2)) ∧ (w32 (((j : Nat) : Int) + 2)) < G 1001 0 from by rw [e2]; omega), ?_⟩
  refine (show WLw Q 517 [some (mR 1), some (mR 5), some (mR 69), some (mI ((j : Nat) : Int))] [mI (G 1000 (Int.toNat (w32 (((j : Nat) : Int) + 2)))), mI (G 1000 (Int.toNat (w32 (((j : Nat) : Int) + 1)))), mR 5] G from ?_)
  rw [e1, e2, st_nat, st_nat]
  refine (show WLw Q 517 [some (mR 1), some (mR 5), some (mR 69), some (mI ((j : Nat) : Int))] [mI (G 1000 (j + 2)), mI (G 1000 (j + 1)), mR 5] G from ?_)
  refine wl_vc [517, 520, 531, 534, 820] 400 ?_
  refine bth_1 ((pm_bars hC (G 1000 (j + 1)) (G 1000 (j + 2))).1) (fun a G1 h2 s0 s1 s2 => ?_)
  refine (show WLw Q 520 [some (mR 1), some (mR 5), some (mR 69), some (mI ((j : Nat) : Int))] [mI a] G1 from ?_)
  refine wl_vc [517, 520, 531, 534, 820] 400 ?_
  refine ⟨(show 0 ≤ (w32 (((j : Nat) : Int) + 1)) ∧ (w32 (((j : Nat) : Int) + 1)) < G1 1001 0 from by rw [e1, s1]; omega), ?_⟩
  refine ⟨(show 0 ≤ (w32 (((j : Nat) : Int) + 2)) ∧ (w32 (((j : Nat) : Int) + 2)) < G1 1001 0 from by rw [e2, s1]; omega), ?_⟩
  refine (show WLw Q 531 [some (mR 1), some (mR 5), some (mR 69), some (mI ((j : Nat) : Int))] [mI (G1 1000 (Int.toNat (w32 (((j : Nat) : Int) + 2)))), mI (G1 1000 (Int.toNat (w32 (((j : Nat) : Int) + 1)))), mR 69, mI a] G1 from ?_)
  rw [e1, e2, st_nat, st_nat]
  rw [s2 (j + 1) (by omega), s2 (j + 2) (by omega)]
  refine (show WLw Q 531 [some (mR 1), some (mR 5), some (mR 69), some (mI ((j : Nat) : Int))] [mI (G 1000 (j + 2)), mI (G 1000 (j + 1)), mR 69, mI a] G1 from ?_)
  refine wl_vc [517, 520, 531, 534, 820] 400 ?_
  refine bth_2 h2 (fun G2 b0 b1 b2 b3 => ?_)
  refine (show WLw Q 534 [some (mR 1), some (mR 5), some (mR 69), some (mI ((j : Nat) : Int))] [mI a, mI a] G2 from ?_)
  refine wl_vc [517, 520, 531, 534, 820] 400 ?_
  refine ⟨fun _ => ?_, fun (c : ¬ a = a) => absurd rfl c⟩
  refine (show WLw Q 820 [some (mR 1), some (mR 5), some (mR 69), some (mI ((j : Nat) : Int))] [] G2 from ?_)
  exact hN G2 (LV_tr hky s0 s1 s2 b0 b1 b2 b3)
set_option maxHeartbeats 8000000 in
theorem lw_11 {Q : Option mV → mG → Prop} {G : mG} {c j : Nat} (hC : Cpl c G) (hky : ∀ i, i < 20 → G 71 i = ky i) (hj : ((j + 5 : Nat) : Int) < G 1001 0) (hl : G 1001 0 ≤ 3072) (h1k : ∀ i : Nat, (i : Int) < G 1001 0 → G 1000 i < 2147483648) (hN : ∀ G2, LV G G2 → WLw Q 820 [some (mR 1), some (mR 5), some (mR 69), some (mI ((j : Nat) : Int))] [] G2) : WLw Q 539 [some (mR 1), some (mR 5), some (mR 69), some (mI ((j : Nat) : Int))] [] G := by
  have e1 : w32 (((j : Nat) : Int) + 1) = ((j + 1 : Nat) : Int) := ix_n (k := 1) (by omega) (by decide)
  have e2 : w32 (((j : Nat) : Int) + 2) = ((j + 2 : Nat) : Int) := ix_n (k := 2) (by omega) (by decide)
  have e3 : w32 (((j : Nat) : Int) + 3) = ((j + 3 : Nat) : Int) := ix_n (k := 3) (by omega) (by decide)
  have e4 : w32 (((j : Nat) : Int) + 4) = ((j + 4 : Nat) : Int) := ix_n (k := 4) (by omega) (by decide)
  have e5 : w32 (((j : Nat) : Int) + 5) = ((j + 5 : Nat) : Int) := ix_n (k := 5) (by omega) (by decide)
  refine wl_vc [550, 553, 564, 567, 820] 400 ?_
  refine ⟨(show 0 ≤ (w32 (((j : Nat) : Int) + 1)) ∧ (w32 (((j : Nat) : Int) + 1)) < G 1001 0 from by rw [e1]; omega), ?_⟩
  refine ⟨(show 0 ≤ (w32 (((j : Nat) : Int) + 2)) ∧ (w32 (((j : Nat) : Int) + 2)) < G 1001 0 from by rw [e2]; omega), ?_⟩
  refine (show WLw Q 550 [some (mR 1), some (mR 5), some (mR 69), some (mI ((j : Nat) : Int))] [mI (G 1000 (Int.toNat (w32 (((j : Nat) : Int) + 2)))), mI (G 1000 (Int.toNat (w32 (((j : Nat) : Int) + 1)))), mR 5] G from ?_)
  rw [e1, e2, st_nat, st_nat]
  refine (show WLw Q 550 [some (mR 1), some (mR 5), some (mR 69), some (mI ((j : Nat) : Int))] [mI (G 1000 (j + 2)), mI (G 1000 (j + 1)), mR 5] G from ?_)
  refine wl_vc [550, 553, 564, 567, 820] 400 ?_
  refine bth_1 ((pm_bars hC (G 1000 (j + 1)) (G 1000 (j + 2))).2) (fun a G1 h2 s0 s1 s2 => ?_)
  refine (show WLw Q 553 [some (mR 1), some (mR 5), some (mR 69), some (mI ((j : Nat) : Int))] [mI a] G1 from ?_)
  refine wl_vc [550, 553, 564, 567, 820] 400 ?_
  refine ⟨(show 0 ≤ (w32 (((j : Nat) : Int) + 1)) ∧ (w32 (((j : Nat) : Int) + 1)) < G1 1001 0 from by rw [e1, s1]; omega), ?_⟩
  refine ⟨(show 0 ≤ (w32 (((j : Nat) : Int) + 2)) ∧ (w32 (((j : Nat) : Int) + 2)) < G1 1001 0 from by rw [e2, s1]; omega), ?_⟩
  refine (show WLw Q 564 [some (mR 1), some (mR 5), some (mR 69), some (mI ((j : Nat) : Int))] [mI (G1 1000 (Int.toNat (w32 (((j : Nat) : Int) + 2)))), mI (G1 1000 (Int.toNat (w32 (((j : Nat) : Int) + 1)))), mR 69, mI a] G1 from ?_)
  rw [e1, e2, st_nat, st_nat]
  rw [s2 (j + 1) (by omega), s2 (j + 2) (by omega)]
  refine (show WLw Q 564 [some (mR 1), some (mR 5), some (mR 69), some (mI ((j : Nat) : Int))] [mI (G 1000 (j + 2)), mI (G 1000 (j + 1)), mR 69, mI a] G1 from ?_)
  refine wl_vc [550, 553, 564, 567, 820] 400 ?_
  refine bth_2 h2 (fun G2 b0 b1 b2 b3 => ?_)
  refine (show WLw Q 567 [some (mR 1), some (mR 5), some (mR 69), some (mI ((j : Nat) : Int))] [mI a, mI a] G2 from ?_)
  refine wl_vc [550, 553, 564, 567, 820] 400 ?_
  refine ⟨fun _ => ?_, fun (c : ¬ a = a) => absurd rfl c⟩
  refine (show WLw Q 820 [some (mR 1), some (mR 5), some (mR 69), some (mI ((j : Nat) : Int))] [] G2 from ?_)
  exact hN G2 (LV_tr hky s0 s1 s2 b0 b1 b2 b3)
set_option maxHeartbeats 8000000 in
theorem lw_12 {Q : Option mV → mG → Prop} {G : mG} {c j : Nat} (hC : Cpl c G) (hky : ∀ i, i < 20 → G 71 i = ky i) (hj : ((j + 5 : Nat) : Int) < G 1001 0) (hl : G 1001 0 ≤ 3072) (h1k : ∀ i : Nat, (i : Int) < G 1001 0 → G 1000 i < 2147483648) (hN : ∀ G2, LV G G2 → WLw Q 820 [some (mR 1), some (mR 5), some (mR 69), some (mI ((j : Nat) : Int))] [] G2) : WLw Q 572 [some (mR 1), some (mR 5), some (mR 69), some (mI ((j : Nat) : Int))] [] G := by
  have e1 : w32 (((j : Nat) : Int) + 1) = ((j + 1 : Nat) : Int) := ix_n (k := 1) (by omega) (by decide)
  have e2 : w32 (((j : Nat) : Int) + 2) = ((j + 2 : Nat) : Int) := ix_n (k := 2) (by omega) (by decide)
  have e3 : w32 (((j : Nat) : Int) + 3) = ((j + 3 : Nat) : Int) := ix_n (k := 3) (by omega) (by decide)
  have e4 : w32 (((j : Nat) : Int) + 4) = ((j + 4 : Nat) : Int) := ix_n (k := 4) (by omega) (by decide)
  have e5 : w32 (((j : Nat) : Int) + 5) = ((j + 5 : Nat) : Int) := ix_n (k := 5) (by omega) (by decide)
  refine wl_vc [588, 591, 607, 610, 820] 400 ?_
  refine ⟨(show 0 ≤ (w32 (((j : Nat) : Int) + 1)) ∧ (w32 (((j : Nat) : Int) + 1)) < G 1001 0 from by rw [e1]; omega), ?_⟩
  refine ⟨(show 0 ≤ (w32 (((j : Nat) : Int) + 2)) ∧ (w32 (((j : Nat) : Int) + 2)) < G 1001 0 from by rw [e2]; omega), ?_⟩
  refine ⟨(show 0 ≤ (w32 (((j : Nat) : Int) + 3)) ∧ (w32 (((j : Nat) : Int) + 3)) < G 1001 0 from by rw [e3]; omega), ?_⟩
  refine (show WLw Q 588 [some (mR 1), some (mR 5), some (mR 69), some (mI ((j : Nat) : Int))] [mI (G 1000 (Int.toNat (w32 (((j : Nat) : Int) + 3)))), mI (G 1000 (Int.toNat (w32 (((j : Nat) : Int) + 2)))), mI (G 1000 (Int.toNat (w32 (((j : Nat) : Int) + 1)))), mR 5] G from ?_)
  rw [e1, e2, e3, st_nat, st_nat, st_nat]
  refine (show WLw Q 588 [some (mR 1), some (mR 5), some (mR 69), some (mI ((j : Nat) : Int))] [mI (G 1000 (j + 3)), mI (G 1000 (j + 2)), mI (G 1000 (j + 1)), mR 5] G from ?_)
  refine wl_vc [588, 591, 607, 610, 820] 400 ?_
  refine bth_1 (pm_lacks hC (G 1000 (j + 1)) (G 1000 (j + 2)) (G 1000 (j + 3))) (fun a G1 h2 s0 s1 s2 => ?_)
  refine (show WLw Q 591 [some (mR 1), some (mR 5), some (mR 69), some (mI ((j : Nat) : Int))] [mI a] G1 from ?_)
  refine wl_vc [588, 591, 607, 610, 820] 400 ?_
  refine ⟨(show 0 ≤ (w32 (((j : Nat) : Int) + 1)) ∧ (w32 (((j : Nat) : Int) + 1)) < G1 1001 0 from by rw [e1, s1]; omega), ?_⟩
  refine ⟨(show 0 ≤ (w32 (((j : Nat) : Int) + 2)) ∧ (w32 (((j : Nat) : Int) + 2)) < G1 1001 0 from by rw [e2, s1]; omega), ?_⟩
  refine ⟨(show 0 ≤ (w32 (((j : Nat) : Int) + 3)) ∧ (w32 (((j : Nat) : Int) + 3)) < G1 1001 0 from by rw [e3, s1]; omega), ?_⟩
  refine (show WLw Q 607 [some (mR 1), some (mR 5), some (mR 69), some (mI ((j : Nat) : Int))] [mI (G1 1000 (Int.toNat (w32 (((j : Nat) : Int) + 3)))), mI (G1 1000 (Int.toNat (w32 (((j : Nat) : Int) + 2)))), mI (G1 1000 (Int.toNat (w32 (((j : Nat) : Int) + 1)))), mR 69, mI a] G1 from ?_)
  rw [e1, e2, e3, st_nat, st_nat, st_nat]
  rw [s2 (j + 1) (by omega), s2 (j + 2) (by omega), s2 (j + 3) (by omega)]
  refine (show WLw Q 607 [some (mR 1), some (mR 5), some (mR 69), some (mI ((j : Nat) : Int))] [mI (G 1000 (j + 3)), mI (G 1000 (j + 2)), mI (G 1000 (j + 1)), mR 69, mI a] G1 from ?_)
  refine wl_vc [588, 591, 607, 610, 820] 400 ?_
  refine bth_2 h2 (fun G2 b0 b1 b2 b3 => ?_)
  refine (show WLw Q 610 [some (mR 1), some (mR 5), some (mR 69), some (mI ((j : Nat) : Int))] [mI a, mI a] G2 from ?_)
  refine wl_vc [588, 591, 607, 610, 820] 400 ?_
  refine ⟨fun _ => ?_, fun (c : ¬ a = a) => absurd rfl c⟩
  refine (show WLw Q 820 [some (mR 1), some (mR 5), some (mR 69), some (mI ((j : Nat) : Int))] [] G2 from ?_)
  exact hN G2 (LV_tr hky s0 s1 s2 b0 b1 b2 b3)
set_option maxHeartbeats 8000000 in
theorem lw_13 {Q : Option mV → mG → Prop} {G : mG} {c j : Nat} (hC : Cpl c G) (hky : ∀ i, i < 20 → G 71 i = ky i) (hj : ((j + 5 : Nat) : Int) < G 1001 0) (hl : G 1001 0 ≤ 3072) (h1k : ∀ i : Nat, (i : Int) < G 1001 0 → G 1000 i < 2147483648) (hN : ∀ G2, LV G G2 → WLw Q 820 [some (mR 1), some (mR 5), some (mR 69), some (mI ((j : Nat) : Int))] [] G2) : WLw Q 615 [some (mR 1), some (mR 5), some (mR 69), some (mI ((j : Nat) : Int))] [] G := by
  have e1 : w32 (((j : Nat) : Int) + 1) = ((j + 1 : Nat) : Int) := ix_n (k := 1) (by omega) (by decide)
  have e2 : w32 (((j : Nat) : Int) + 2) = ((j + 2 : Nat) : Int) := ix_n (k := 2) (by omega) (by decide)
  have e3 : w32 (((j : Nat) : Int) + 3) = ((j + 3 : Nat) : Int) := ix_n (k := 3) (by omega) (by decide)
  have e4 : w32 (((j : Nat) : Int) + 4) = ((j + 4 : Nat) : Int) := ix_n (k := 4) (by omega) (by decide)
  have e5 : w32 (((j : Nat) : Int) + 5) = ((j + 5 : Nat) : Int) := ix_n (k := 5) (by omega) (by decide)
  have r4 : G 1000 (j + 4) < 2147483648 := h1k (j + 4) (by omega)
  refine wl_vc [636, 639, 660, 663, 820] 400 ?_
  refine ⟨(show 0 ≤ (w32 (((j : Nat) : Int) + 1)) ∧ (w32 (((j : Nat) : Int) + 1)) < G 1001 0 from by rw [e1]; omega), ?_⟩
  refine ⟨(show 0 ≤ (w32 (((j : Nat) : Int) + 2)) ∧ (w32 (((j : Nat) : Int) + 2)) < G 1001 0 from by rw [e2]; omega), ?_⟩
  refine ⟨(show 0 ≤ (w32 (((j : Nat) : Int) + 3)) ∧ (w32 (((j : Nat) : Int) + 3)) < G 1001 0 from by rw [e3]; omega), ?_⟩
  refine ⟨(show 0 ≤ (w32 (((j : Nat) : Int) + 4)) ∧ (w32 (((j : Nat) : Int) + 4)) < G 1001 0 from by rw [e4]; omega), ?_⟩
  refine (show WLw Q 636 [some (mR 1), some (mR 5), some (mR 69), some (mI ((j : Nat) : Int))] [mI (G 1000 (Int.toNat (w32 (((j : Nat) : Int) + 4)))), mI (G 1000 (Int.toNat (w32 (((j : Nat) : Int) + 3)))), mI (G 1000 (Int.toNat (w32 (((j : Nat) : Int) + 2)))), mI (G 1000 (Int.toNat (w32 (((j : Nat) : Int) + 1)))), mR 5] G from ?_)
  rw [e1, e2, e3, e4, st_nat, st_nat, st_nat, st_nat]
  refine (show WLw Q 636 [some (mR 1), some (mR 5), some (mR 69), some (mI ((j : Nat) : Int))] [mI (G 1000 (j + 4)), mI (G 1000 (j + 3)), mI (G 1000 (j + 2)), mI (G 1000 (j + 1)), mR 5] G from ?_)
  refine wl_vc [636, 639, 660, 663, 820] 400 ?_
  refine bth_1 (pm_state hC (G 1000 (j + 1)) (G 1000 (j + 2)) (G 1000 (j + 3)) (G 1000 (j + 4)) r4) (fun a G1 h2 s0 s1 s2 => ?_)
  refine (show WLw Q 639 [some (mR 1), some (mR 5), some (mR 69), some (mI ((j : Nat) : Int))] [mI a] G1 from ?_)
  refine wl_vc [636, 639, 660, 663, 820] 400 ?_
  refine ⟨(show 0 ≤ (w32 (((j : Nat) : Int) + 1)) ∧ (w32 (((j : Nat) : Int) + 1)) < G1 1001 0 from by rw [e1, s1]; omega), ?_⟩
  refine ⟨(show 0 ≤ (w32 (((j : Nat) : Int) + 2)) ∧ (w32 (((j : Nat) : Int) + 2)) < G1 1001 0 from by rw [e2, s1]; omega), ?_⟩
  refine ⟨(show 0 ≤ (w32 (((j : Nat) : Int) + 3)) ∧ (w32 (((j : Nat) : Int) + 3)) < G1 1001 0 from by rw [e3, s1]; omega), ?_⟩
  refine ⟨(show 0 ≤ (w32 (((j : Nat) : Int) + 4)) ∧ (w32 (((j : Nat) : Int) + 4)) < G1 1001 0 from by rw [e4, s1]; omega), ?_⟩
  refine (show WLw Q 660 [some (mR 1), some (mR 5), some (mR 69), some (mI ((j : Nat) : Int))] [mI (G1 1000 (Int.toNat (w32 (((j : Nat) : Int) + 4)))), mI (G1 1000 (Int.toNat (w32 (((j : Nat) : Int) + 3)))), mI (G1 1000 (Int.toNat (w32 (((j : Nat) : Int) + 2)))), mI (G1 1000 (Int.toNat (w32 (((j : Nat) : Int) + 1)))), mR 69, mI a] G1 from ?_)
  rw [e1, e2, e3, e4, st_nat, st_nat, st_nat, st_nat]
  rw [s2 (j + 1) (by omega), s2 (j + 2) (by omega), s2 (j + 3) (by omega), s2 (j + 4) (by omega)]
  refine (show WLw Q 660 [some (mR 1), some (mR 5), some (mR 69), some (mI ((j : Nat) : Int))] [mI (G 1000 (j + 4)), mI (G 1000 (j + 3)), mI (G 1000 (j + 2)), mI (G 1000 (j + 1)), mR 69, mI a] G1 from ?_)
  refine wl_vc [636, 639, 660, 663, 820] 400 ?_
  refine bth_2 h2 (fun G2 b0 b1 b2 b3 => ?_)
  refine (show WLw Q 663 [some (mR 1), some (mR 5), some (mR 69), some (mI ((j : Nat) : Int))] [mI a, mI a] G2 from ?_)
  refine wl_vc [636, 639, 660, 663, 820] 400 ?_
  refine ⟨fun _ => ?_, fun (c : ¬ a = a) => absurd rfl c⟩
  refine (show WLw Q 820 [some (mR 1), some (mR 5), some (mR 69), some (mI ((j : Nat) : Int))] [] G2 from ?_)
  exact hN G2 (LV_tr hky s0 s1 s2 b0 b1 b2 b3)
set_option maxHeartbeats 8000000 in
theorem lw_14 {Q : Option mV → mG → Prop} {G : mG} {c j : Nat} (hC : Cpl c G) (hky : ∀ i, i < 20 → G 71 i = ky i) (hj : ((j + 5 : Nat) : Int) < G 1001 0) (hl : G 1001 0 ≤ 3072) (h1k : ∀ i : Nat, (i : Int) < G 1001 0 → G 1000 i < 2147483648) (hN : ∀ G2, LV G G2 → WLw Q 820 [some (mR 1), some (mR 5), some (mR 69), some (mI ((j : Nat) : Int))] [] G2) : WLw Q 668 [some (mR 1), some (mR 5), some (mR 69), some (mI ((j : Nat) : Int))] [] G := by
  have e1 : w32 (((j : Nat) : Int) + 1) = ((j + 1 : Nat) : Int) := ix_n (k := 1) (by omega) (by decide)
  have e2 : w32 (((j : Nat) : Int) + 2) = ((j + 2 : Nat) : Int) := ix_n (k := 2) (by omega) (by decide)
  have e3 : w32 (((j : Nat) : Int) + 3) = ((j + 3 : Nat) : Int) := ix_n (k := 3) (by omega) (by decide)
  have e4 : w32 (((j : Nat) : Int) + 4) = ((j + 4 : Nat) : Int) := ix_n (k := 4) (by omega) (by decide)
  have e5 : w32 (((j : Nat) : Int) + 5) = ((j + 5 : Nat) : Int) := ix_n (k := 5) (by omega) (by decide)
  refine wl_vc [684, 687, 703, 706, 820] 400 ?_
  refine ⟨(show 0 ≤ (w32 (((j : Nat) : Int) + 1)) ∧ (w32 (((j : Nat) : Int) + 1)) < G 1001 0 from by rw [e1]; omega), ?_⟩
  refine ⟨(show 0 ≤ (w32 (((j : Nat) : Int) + 2)) ∧ (w32 (((j : Nat) : Int) + 2)) < G 1001 0 from by rw [e2]; omega), ?_⟩
  refine ⟨(show 0 ≤ (w32 (((j : Nat) : Int) + 3)) ∧ (w32 (((j : Nat) : Int) + 3)) < G 1001 0 from by rw [e3]; omega), ?_⟩
  refine (show WLw Q 684 [some (mR 1), some (mR 5), some (mR 69), some (mI ((j : Nat) : Int))] [mI (G 1000 (Int.toNat (w32 (((j : Nat) : Int) + 3)))), mI (G 1000 (Int.toNat (w32 (((j : Nat) : Int) + 2)))), mI (G 1000 (Int.toNat (w32 (((j : Nat) : Int) + 1)))), mR 5] G from ?_)
  rw [e1, e2, e3, st_nat, st_nat, st_nat]
  refine (show WLw Q 684 [some (mR 1), some (mR 5), some (mR 69), some (mI ((j : Nat) : Int))] [mI (G 1000 (j + 3)), mI (G 1000 (j + 2)), mI (G 1000 (j + 1)), mR 5] G from ?_)
  refine wl_vc [684, 687, 703, 706, 820] 400 ?_
  refine bth_1 (pm_refund hC (G 1000 (j + 1)) (G 1000 (j + 2)) (G 1000 (j + 3))) (fun a G1 h2 s0 s1 s2 => ?_)
  refine (show WLw Q 687 [some (mR 1), some (mR 5), some (mR 69), some (mI ((j : Nat) : Int))] [mI a] G1 from ?_)
  refine wl_vc [684, 687, 703, 706, 820] 400 ?_
  refine ⟨(show 0 ≤ (w32 (((j : Nat) : Int) + 1)) ∧ (w32 (((j : Nat) : Int) + 1)) < G1 1001 0 from by rw [e1, s1]; omega), ?_⟩
  refine ⟨(show 0 ≤ (w32 (((j : Nat) : Int) + 2)) ∧ (w32 (((j : Nat) : Int) + 2)) < G1 1001 0 from by rw [e2, s1]; omega), ?_⟩
  refine ⟨(show 0 ≤ (w32 (((j : Nat) : Int) + 3)) ∧ (w32 (((j : Nat) : Int) + 3)) < G1 1001 0 from by rw [e3, s1]; omega), ?_⟩
  refine (show WLw Q 703 [some (mR 1), some (mR 5), some (mR 69), some (mI ((j : Nat) : Int))] [mI (G1 1000 (Int.toNat (w32 (((j : Nat) : Int) + 3)))), mI (G1 1000 (Int.toNat (w32 (((j : Nat) : Int) + 2)))), mI (G1 1000 (Int.toNat (w32 (((j : Nat) : Int) + 1)))), mR 69, mI a] G1 from ?_)
  rw [e1, e2, e3, st_nat, st_nat, st_nat]
  rw [s2 (j + 1) (by omega), s2 (j + 2) (by omega), s2 (j + 3) (by omega)]
  refine (show WLw Q 703 [some (mR 1), some (mR 5), some (mR 69), some (mI ((j : Nat) : Int))] [mI (G 1000 (j + 3)), mI (G 1000 (j + 2)), mI (G 1000 (j + 1)), mR 69, mI a] G1 from ?_)
  refine wl_vc [684, 687, 703, 706, 820] 400 ?_
  refine bth_2 h2 (fun G2 b0 b1 b2 b3 => ?_)
  refine (show WLw Q 706 [some (mR 1), some (mR 5), some (mR 69), some (mI ((j : Nat) : Int))] [mI a, mI a] G2 from ?_)
  refine wl_vc [684, 687, 703, 706, 820] 400 ?_
  refine ⟨fun _ => ?_, fun (c : ¬ a = a) => absurd rfl c⟩
  refine (show WLw Q 820 [some (mR 1), some (mR 5), some (mR 69), some (mI ((j : Nat) : Int))] [] G2 from ?_)
  exact hN G2 (LV_tr hky s0 s1 s2 b0 b1 b2 b3)
set_option maxHeartbeats 8000000 in
theorem lw_15 {Q : Option mV → mG → Prop} {G : mG} {c j : Nat} (hC : Cpl c G) (hky : ∀ i, i < 20 → G 71 i = ky i) (hj : ((j + 5 : Nat) : Int) < G 1001 0) (hl : G 1001 0 ≤ 3072) (h1k : ∀ i : Nat, (i : Int) < G 1001 0 → G 1000 i < 2147483648) (hN : ∀ G2, LV G G2 → WLw Q 820 [some (mR 1), some (mR 5), some (mR 69), some (mI ((j : Nat) : Int))] [] G2) : WLw Q 711 [some (mR 1), some (mR 5), some (mR 69), some (mI ((j : Nat) : Int))] [] G := by
  have e1 : w32 (((j : Nat) : Int) + 1) = ((j + 1 : Nat) : Int) := ix_n (k := 1) (by omega) (by decide)
  have e2 : w32 (((j : Nat) : Int) + 2) = ((j + 2 : Nat) : Int) := ix_n (k := 2) (by omega) (by decide)
  have e3 : w32 (((j : Nat) : Int) + 3) = ((j + 3 : Nat) : Int) := ix_n (k := 3) (by omega) (by decide)
  have e4 : w32 (((j : Nat) : Int) + 4) = ((j + 4 : Nat) : Int) := ix_n (k := 4) (by omega) (by decide)
  have e5 : w32 (((j : Nat) : Int) + 5) = ((j + 5 : Nat) : Int) := ix_n (k := 5) (by omega) (by decide)
  refine wl_vc [727, 730, 746, 749, 820] 400 ?_
  refine ⟨(show 0 ≤ (w32 (((j : Nat) : Int) + 1)) ∧ (w32 (((j : Nat) : Int) + 1)) < G 1001 0 from by rw [e1]; omega), ?_⟩
  refine ⟨(show 0 ≤ (w32 (((j : Nat) : Int) + 2)) ∧ (w32 (((j : Nat) : Int) + 2)) < G 1001 0 from by rw [e2]; omega), ?_⟩
  refine ⟨(show 0 ≤ (w32 (((j : Nat) : Int) + 3)) ∧ (w32 (((j : Nat) : Int) + 3)) < G 1001 0 from by rw [e3]; omega), ?_⟩
  refine (show WLw Q 727 [some (mR 1), some (mR 5), some (mR 69), some (mI ((j : Nat) : Int))] [mI (G 1000 (Int.toNat (w32 (((j : Nat) : Int) + 3)))), mI (G 1000 (Int.toNat (w32 (((j : Nat) : Int) + 2)))), mI (G 1000 (Int.toNat (w32 (((j : Nat) : Int) + 1)))), mR 5] G from ?_)
  rw [e1, e2, e3, st_nat, st_nat, st_nat]
  refine (show WLw Q 727 [some (mR 1), some (mR 5), some (mR 69), some (mI ((j : Nat) : Int))] [mI (G 1000 (j + 3)), mI (G 1000 (j + 2)), mI (G 1000 (j + 1)), mR 5] G from ?_)
  refine wl_vc [727, 730, 746, 749, 820] 400 ?_
  refine bth_1 (pm_ground hC (G 1000 (j + 1)) (G 1000 (j + 2)) (G 1000 (j + 3))) (fun a G1 h2 s0 s1 s2 => ?_)
  refine (show WLw Q 730 [some (mR 1), some (mR 5), some (mR 69), some (mI ((j : Nat) : Int))] [mI a] G1 from ?_)
  refine wl_vc [727, 730, 746, 749, 820] 400 ?_
  refine ⟨(show 0 ≤ (w32 (((j : Nat) : Int) + 1)) ∧ (w32 (((j : Nat) : Int) + 1)) < G1 1001 0 from by rw [e1, s1]; omega), ?_⟩
  refine ⟨(show 0 ≤ (w32 (((j : Nat) : Int) + 2)) ∧ (w32 (((j : Nat) : Int) + 2)) < G1 1001 0 from by rw [e2, s1]; omega), ?_⟩
  refine ⟨(show 0 ≤ (w32 (((j : Nat) : Int) + 3)) ∧ (w32 (((j : Nat) : Int) + 3)) < G1 1001 0 from by rw [e3, s1]; omega), ?_⟩
  refine (show WLw Q 746 [some (mR 1), some (mR 5), some (mR 69), some (mI ((j : Nat) : Int))] [mI (G1 1000 (Int.toNat (w32 (((j : Nat) : Int) + 3)))), mI (G1 1000 (Int.toNat (w32 (((j : Nat) : Int) + 2)))), mI (G1 1000 (Int.toNat (w32 (((j : Nat) : Int) + 1)))), mR 69, mI a] G1 from ?_)
  rw [e1, e2, e3, st_nat, st_nat, st_nat]
  rw [s2 (j + 1) (by omega), s2 (j + 2) (by omega), s2 (j + 3) (by omega)]
  refine (show WLw Q 746 [some (mR 1), some (mR 5), some (mR 69), some (mI ((j : Nat) : Int))] [mI (G 1000 (j + 3)), mI (G 1000 (j + 2)), mI (G 1000 (j + 1)), mR 69, mI a] G1 from ?_)
  refine wl_vc [727, 730, 746, 749, 820] 400 ?_
  refine bth_2 h2 (fun G2 b0 b1 b2 b3 => ?_)
  refine (show WLw Q 749 [some (mR 1), some (mR 5), some (mR 69), some (mI ((j : Nat) : Int))] [mI a, mI a] G2 from ?_)
  refine wl_vc [727, 730, 746, 749, 820] 400 ?_
  refine ⟨fun _ => ?_, fun (c : ¬ a = a) => absurd rfl c⟩
  refine (show WLw Q 820 [some (mR 1), some (mR 5), some (mR 69), some (mI ((j : Nat) : Int))] [] G2 from ?_)
  exact hN G2 (LV_tr hky s0 s1 s2 b0 b1 b2 b3)
set_option maxHeartbeats 8000000 in
theorem lw_16 {Q : Option mV → mG → Prop} {G : mG} {c j : Nat} (hC : Cpl c G) (hky : ∀ i, i < 20 → G 71 i = ky i) (hj : ((j + 5 : Nat) : Int) < G 1001 0) (hl : G 1001 0 ≤ 3072) (h1k : ∀ i : Nat, (i : Int) < G 1001 0 → G 1000 i < 2147483648) (hN : ∀ G2, LV G G2 → WLw Q 820 [some (mR 1), some (mR 5), some (mR 69), some (mI ((j : Nat) : Int))] [] G2) : WLw Q 754 [some (mR 1), some (mR 5), some (mR 69), some (mI ((j : Nat) : Int))] [] G := by
  have e1 : w32 (((j : Nat) : Int) + 1) = ((j + 1 : Nat) : Int) := ix_n (k := 1) (by omega) (by decide)
  have e2 : w32 (((j : Nat) : Int) + 2) = ((j + 2 : Nat) : Int) := ix_n (k := 2) (by omega) (by decide)
  have e3 : w32 (((j : Nat) : Int) + 3) = ((j + 3 : Nat) : Int) := ix_n (k := 3) (by omega) (by decide)
  have e4 : w32 (((j : Nat) : Int) + 4) = ((j + 4 : Nat) : Int) := ix_n (k := 4) (by omega) (by decide)
  have e5 : w32 (((j : Nat) : Int) + 5) = ((j + 5 : Nat) : Int) := ix_n (k := 5) (by omega) (by decide)
  refine wl_vc [770, 773, 789, 792, 820] 400 ?_
  refine ⟨(show 0 ≤ (w32 (((j : Nat) : Int) + 1)) ∧ (w32 (((j : Nat) : Int) + 1)) < G 1001 0 from by rw [e1]; omega), ?_⟩
  refine ⟨(show 0 ≤ (w32 (((j : Nat) : Int) + 2)) ∧ (w32 (((j : Nat) : Int) + 2)) < G 1001 0 from by rw [e2]; omega), ?_⟩
  refine ⟨(show 0 ≤ (w32 (((j : Nat) : Int) + 3)) ∧ (w32 (((j : Nat) : Int) + 3)) < G 1001 0 from by rw [e3]; omega), ?_⟩
  refine (show WLw Q 770 [some (mR 1), some (mR 5), some (mR 69), some (mI ((j : Nat) : Int))] [mI (G 1000 (Int.toNat (w32 (((j : Nat) : Int) + 3)))), mI (G 1000 (Int.toNat (w32 (((j : Nat) : Int) + 2)))), mI (G 1000 (Int.toNat (w32 (((j : Nat) : Int) + 1)))), mR 5] G from ?_)
  rw [e1, e2, e3, st_nat, st_nat, st_nat]
  refine (show WLw Q 770 [some (mR 1), some (mR 5), some (mR 69), some (mI ((j : Nat) : Int))] [mI (G 1000 (j + 3)), mI (G 1000 (j + 2)), mI (G 1000 (j + 1)), mR 5] G from ?_)
  refine wl_vc [770, 773, 789, 792, 820] 400 ?_
  refine bth_1 (pm_reach hC (G 1000 (j + 1)) (G 1000 (j + 2)) (G 1000 (j + 3))) (fun a G1 h2 s0 s1 s2 => ?_)
  refine (show WLw Q 773 [some (mR 1), some (mR 5), some (mR 69), some (mI ((j : Nat) : Int))] [mI a] G1 from ?_)
  refine wl_vc [770, 773, 789, 792, 820] 400 ?_
  refine ⟨(show 0 ≤ (w32 (((j : Nat) : Int) + 1)) ∧ (w32 (((j : Nat) : Int) + 1)) < G1 1001 0 from by rw [e1, s1]; omega), ?_⟩
  refine ⟨(show 0 ≤ (w32 (((j : Nat) : Int) + 2)) ∧ (w32 (((j : Nat) : Int) + 2)) < G1 1001 0 from by rw [e2, s1]; omega), ?_⟩
  refine ⟨(show 0 ≤ (w32 (((j : Nat) : Int) + 3)) ∧ (w32 (((j : Nat) : Int) + 3)) < G1 1001 0 from by rw [e3, s1]; omega), ?_⟩
  refine (show WLw Q 789 [some (mR 1), some (mR 5), some (mR 69), some (mI ((j : Nat) : Int))] [mI (G1 1000 (Int.toNat (w32 (((j : Nat) : Int) + 3)))), mI (G1 1000 (Int.toNat (w32 (((j : Nat) : Int) + 2)))), mI (G1 1000 (Int.toNat (w32 (((j : Nat) : Int) + 1)))), mR 69, mI a] G1 from ?_)
  rw [e1, e2, e3, st_nat, st_nat, st_nat]
  rw [s2 (j + 1) (by omega), s2 (j + 2) (by omega), s2 (j + 3) (by omega)]
  refine (show WLw Q 789 [some (mR 1), some (mR 5), some (mR 69), some (mI ((j : Nat) : Int))] [mI (G 1000 (j + 3)), mI (G 1000 (j + 2)), mI (G 1000 (j + 1)), mR 69, mI a] G1 from ?_)
  refine wl_vc [770, 773, 789, 792, 820] 400 ?_
  refine bth_2 h2 (fun G2 b0 b1 b2 b3 => ?_)
  refine (show WLw Q 792 [some (mR 1), some (mR 5), some (mR 69), some (mI ((j : Nat) : Int))] [mI a, mI a] G2 from ?_)
  refine wl_vc [770, 773, 789, 792, 820] 400 ?_
  refine ⟨fun _ => ?_, fun (c : ¬ a = a) => absurd rfl c⟩
  refine (show WLw Q 820 [some (mR 1), some (mR 5), some (mR 69), some (mI ((j : Nat) : Int))] [] G2 from ?_)
  exact hN G2 (LV_tr hky s0 s1 s2 b0 b1 b2 b3)
set_option maxHeartbeats 8000000 in
theorem lw_17 {Q : Option mV → mG → Prop} {G : mG} {c j : Nat} (hC : Cpl c G) (hky : ∀ i, i < 20 → G 71 i = ky i) (hj : ((j + 5 : Nat) : Int) < G 1001 0) (hl : G 1001 0 ≤ 3072) (h1k : ∀ i : Nat, (i : Int) < G 1001 0 → G 1000 i < 2147483648) (hN : ∀ G2, LV G G2 → WLw Q 820 [some (mR 1), some (mR 5), some (mR 69), some (mI ((j : Nat) : Int))] [] G2) : WLw Q 797 [some (mR 1), some (mR 5), some (mR 69), some (mI ((j : Nat) : Int))] [] G := by
  have e1 : w32 (((j : Nat) : Int) + 1) = ((j + 1 : Nat) : Int) := ix_n (k := 1) (by omega) (by decide)
  have e2 : w32 (((j : Nat) : Int) + 2) = ((j + 2 : Nat) : Int) := ix_n (k := 2) (by omega) (by decide)
  have e3 : w32 (((j : Nat) : Int) + 3) = ((j + 3 : Nat) : Int) := ix_n (k := 3) (by omega) (by decide)
  have e4 : w32 (((j : Nat) : Int) + 4) = ((j + 4 : Nat) : Int) := ix_n (k := 4) (by omega) (by decide)
  have e5 : w32 (((j : Nat) : Int) + 5) = ((j + 5 : Nat) : Int) := ix_n (k := 5) (by omega) (by decide)
  refine wl_vc [803, 806, 812, 815, 820] 400 ?_
  refine ⟨(show 0 ≤ (w32 (((j : Nat) : Int) + 1)) ∧ (w32 (((j : Nat) : Int) + 1)) < G 1001 0 from by rw [e1]; omega), ?_⟩
  refine (show WLw Q 803 [some (mR 1), some (mR 5), some (mR 69), some (mI ((j : Nat) : Int))] [mI (G 1000 (Int.toNat (w32 (((j : Nat) : Int) + 1)))), mR 5] G from ?_)
  rw [e1, st_nat]
  refine (show WLw Q 803 [some (mR 1), some (mR 5), some (mR 69), some (mI ((j : Nat) : Int))] [mI (G 1000 (j + 1)), mR 5] G from ?_)
  refine wl_vc [803, 806, 812, 815, 820] 400 ?_
  refine bth_1 (pm_count hC (G 1000 (j + 1))) (fun a G1 h2 s0 s1 s2 => ?_)
  refine (show WLw Q 806 [some (mR 1), some (mR 5), some (mR 69), some (mI ((j : Nat) : Int))] [mI a] G1 from ?_)
  refine wl_vc [803, 806, 812, 815, 820] 400 ?_
  refine ⟨(show 0 ≤ (w32 (((j : Nat) : Int) + 1)) ∧ (w32 (((j : Nat) : Int) + 1)) < G1 1001 0 from by rw [e1, s1]; omega), ?_⟩
  refine (show WLw Q 812 [some (mR 1), some (mR 5), some (mR 69), some (mI ((j : Nat) : Int))] [mI (G1 1000 (Int.toNat (w32 (((j : Nat) : Int) + 1)))), mR 69, mI a] G1 from ?_)
  rw [e1, st_nat]
  rw [s2 (j + 1) (by omega)]
  refine (show WLw Q 812 [some (mR 1), some (mR 5), some (mR 69), some (mI ((j : Nat) : Int))] [mI (G 1000 (j + 1)), mR 69, mI a] G1 from ?_)
  refine wl_vc [803, 806, 812, 815, 820] 400 ?_
  refine bth_2 h2 (fun G2 b0 b1 b2 b3 => ?_)
  refine (show WLw Q 815 [some (mR 1), some (mR 5), some (mR 69), some (mI ((j : Nat) : Int))] [mI a, mI a] G2 from ?_)
  refine wl_vc [803, 806, 812, 815, 820] 400 ?_
  refine ⟨fun _ => ?_, fun (c : ¬ a = a) => absurd rfl c⟩
  refine (show WLw Q 820 [some (mR 1), some (mR 5), some (mR 69), some (mI ((j : Nat) : Int))] [] G2 from ?_)
  exact hN G2 (LV_tr hky s0 s1 s2 b0 b1 b2 b3)
