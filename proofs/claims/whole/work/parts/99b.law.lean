/-! ===== the law's loop, its beginning ===== -/
section LAW
variable {Q : Option mV → mG → Prop} {G0 G : mG}
/-- behind the constructors the references that never change are known -/
theorem WP.up {o : mO} {M : mM} {d mc ms n ce sl pc : Nat} {L : List (Option mV)} {S : List mV} (hQ : ∀ v G1 G2, Q v G1 → Q v G2) (hcr : ∀ k j : Nat, ¬ crf k j = 0 → G k j = ((crf k j : Nat) : Int)) (h : WP o M tD d mc ms true 119 Q n ce sl pc L S G) : WP o M tD d mc ms false 119 Q n ce sl pc L S G := by
  intro l X p e R s m args below meth c H locs ls Z a1 a2 a3 a4 a5 a6 a7 a8
  have ef : ∀ A : mG, gx false A = A := fun A => funext (fun k => funext (fun j => gx_0 (fun q => by cases q)))
  have et : ∀ (A : mG) (k j : Nat), gx true A k j = if crf k j = 0 then A k j else ((crf k j : Nat) : Int) := by
    intro A k j
    unfold gx
    cases hq : crf k j with
    | zero => rfl
    | succ r => rfl
  have eg : gx true G = G := funext (fun k => funext (fun j => by
    rw [et]
    by_cases z : crf k j = 0
    · rw [if_pos z]
    · rw [if_neg z, hcr k j z]))
  obtain ⟨b1, b2, b3, b4, b5⟩ := a3
  rw [ef] at b2 b3
  refine h l X p e R s m args below meth c H locs ls Z a1 a2 ⟨b1, by rw [eg]; exact b2, by rw [eg]; exact b3, b4, b5⟩ a4 a5 a6 a7 ?_
  intro v G' H' locs' pc' ls' q ok fr w sS r
  obtain ⟨c1, c2, c3, c4, c5⟩ := w
  have hi : ∀ k j : Nat, 65 ≤ k → gx true G' k j = G' k j := fun k j hk => by rw [et, if_pos (crf_hi hk)]
  exact a8 v (gx true G') H' locs' pc' ls' (hQ v G' _ q) ok (fun _ z => by cases z) ⟨c1, by rw [ef]; exact c2, by rw [ef]; exact c3, ⟨c4.1, fun k k1 k2 j => by rw [hi k j (by omega)]; exact c4.2 k k1 k2 j⟩, by rw [hi 1001 0 (by decide)]; exact c5.1, fun j hj => by rw [hi 1000 j (by decide)]; exact c5.2 j hj⟩ sS r
theorem LV_2 {G2 : mG} (h1 : LV G0 G) (h2 : LV G G2) : LV G0 G2 :=
  ⟨h2.1, h2.2.1, h2.2.2.1.trans h1.2.2.1, fun j hj => (h2.2.2.2 j (by rw [h1.2.2.1]; exact hj)).trans (h1.2.2.2 j hj)⟩
set_option maxHeartbeats 8000000 in
theorem lw_loop (hQ : ∀ G, Q (some (mI 1)) G) (hl : 0 ≤ G0 1001 0 ∧ G0 1001 0 ≤ 3072) (h1k : ∀ i : Nat, (i : Int) < G0 1001 0 → G0 1000 i < 2147483648) : ∀ d j : Nat, 3100 - j ≤ d → j ≤ 3090 → ∀ G, LV G0 G → WLw Q 18 [some (mR 1), some (mR 5), some (mR 69), some (mI ((j : Nat) : Int))] [] G := by
  intro d
  induction d with
  | zero => intro j hd hj G h; omega
  | succ d ih =>
    intro j hd hj G h
    obtain ⟨⟨c, hC⟩, hky, hlen, hxs⟩ := id h
    have ew : w32 (G 1001 0 - 6) = G 1001 0 - 6 := w32_i (by omega) (by omega)
    have hk : ∀ i : Nat, (i : Int) < G 1001 0 → G 1000 i < 2147483648 := fun i hi => by rw [hxs i (by omega)]; exact h1k i (by omega)
    refine wl_vc [18, 33, 820, 826, 120, 183, 206, 219, 232, 311, 344, 397, 430, 463, 506, 539, 572, 615, 668, 711, 754, 797] 400 ?_
    refine ⟨(show G 1001 0 < 2147483648 from by omega), ?_⟩
    refine ⟨fun (c1 : w32 (G 1001 0 - 6) < ((j : Nat) : Int)) => ?_, fun (c1 : ((j : Nat) : Int) ≤ w32 (G 1001 0 - 6)) => ?_⟩
    · refine (show WLw Q 826 [some (mR 1), some (mR 5), some (mR 69), some (mI ((j : Nat) : Int))] [] G from ?_)
      refine wl_vc [18, 33, 820, 826, 120, 183, 206, 219, 232, 311, 344, 397, 430, 463, 506, 539, 572, 615, 668, 711, 754, 797] 400 ?_
      exact ⟨Or.inr rfl, hQ G⟩
    · rw [ew] at c1
      have hN : ∀ G2, LV G G2 → WLw Q 820 [some (mR 1), some (mR 5), some (mR 69), some (mI ((j : Nat) : Int))] [] G2 := by
        intro G2 h2
        refine wl_vc [18, 33, 820, 826, 120, 183, 206, 219, 232, 311, 344, 397, 430, 463, 506, 539, 572, 615, 668, 711, 754, 797] 400 ?_
        refine (show WLw Q 18 [some (mR 1), some (mR 5), some (mR 69), some (mI (w32 (((j : Nat) : Int) + 6)))] [] G2 from ?_)
        rw [show w32 (((j : Nat) : Int) + 6) = ((j + 6 : Nat) : Int) from ix_n (k := 6) (by omega) (by decide)]
        exact ih (j + 6) (by omega) (by omega) G2 (LV_2 h h2)
      have hj5 : ((j + 5 : Nat) : Int) < G 1001 0 := by omega
      have hl2 : G 1001 0 ≤ 3072 := by omega
      refine ⟨(show 0 ≤ ((j : Nat) : Int) ∧ ((j : Nat) : Int) < G 1001 0 from by omega), ?_⟩
      refine (show WLw Q 33 [some (mR 1), some (mR 5), some (mR 69), some (mI ((j : Nat) : Int))] [mI (mAnd (G 1000 (Int.toNat ((j : Nat) : Int))) 31)] G from ?_)
      refine wl_vc [18, 33, 820, 826, 120, 183, 206, 219, 232, 311, 344, 397, 430, 463, 506, 539, 572, 615, 668, 711, 754, 797] 400 ?_
      generalize mAnd (G 1000 (Int.toNat ((j : Nat) : Int))) 31 = x
      refine ⟨fun _ => hN G ⟨⟨c, hC⟩, hky, rfl, fun _ _ => rfl⟩, ?_⟩
      refine ⟨fun _ => (show WLw Q 120 [some (mR 1), some (mR 5), some (mR 69), some (mI ((j : Nat) : Int))] [] G from lw_0 hC hky hj5 hl2 hk hN), ?_⟩
      refine ⟨fun _ => (show WLw Q 183 [some (mR 1), some (mR 5), some (mR 69), some (mI ((j : Nat) : Int))] [] G from lw_1 hC hky hj5 hl2 hk hN), ?_⟩
      refine ⟨fun _ => (show WLw Q 206 [some (mR 1), some (mR 5), some (mR 69), some (mI ((j : Nat) : Int))] [] G from lw_2 hC hky hj5 hl2 hk hN), ?_⟩
      refine ⟨fun _ => (show WLw Q 219 [some (mR 1), some (mR 5), some (mR 69), some (mI ((j : Nat) : Int))] [] G from lw_3 hC hky hj5 hl2 hk hN), ?_⟩
      refine ⟨fun _ => (show WLw Q 232 [some (mR 1), some (mR 5), some (mR 69), some (mI ((j : Nat) : Int))] [] G from lw_4 hC hky hj5 hl2 hk hN), ?_⟩
      refine ⟨fun _ => (show WLw Q 311 [some (mR 1), some (mR 5), some (mR 69), some (mI ((j : Nat) : Int))] [] G from lw_5 hC hky hj5 hl2 hk hN), ?_⟩
      refine ⟨fun _ => (show WLw Q 344 [some (mR 1), some (mR 5), some (mR 69), some (mI ((j : Nat) : Int))] [] G from lw_6 hC hky hj5 hl2 hk hN), ?_⟩
      refine ⟨fun _ => (show WLw Q 397 [some (mR 1), some (mR 5), some (mR 69), some (mI ((j : Nat) : Int))] [] G from lw_7 hC hky hj5 hl2 hk hN), ?_⟩
      refine ⟨fun _ => (show WLw Q 430 [some (mR 1), some (mR 5), some (mR 69), some (mI ((j : Nat) : Int))] [] G from lw_8 hC hky hj5 hl2 hk hN), ?_⟩
      refine ⟨fun _ => (show WLw Q 463 [some (mR 1), some (mR 5), some (mR 69), some (mI ((j : Nat) : Int))] [] G from lw_9 hC hky hj5 hl2 hk hN), ?_⟩
      refine ⟨fun _ => (show WLw Q 506 [some (mR 1), some (mR 5), some (mR 69), some (mI ((j : Nat) : Int))] [] G from lw_10 hC hky hj5 hl2 hk hN), ?_⟩
      refine ⟨fun _ => (show WLw Q 539 [some (mR 1), some (mR 5), some (mR 69), some (mI ((j : Nat) : Int))] [] G from lw_11 hC hky hj5 hl2 hk hN), ?_⟩
      refine ⟨fun _ => (show WLw Q 572 [some (mR 1), some (mR 5), some (mR 69), some (mI ((j : Nat) : Int))] [] G from lw_12 hC hky hj5 hl2 hk hN), ?_⟩
      refine ⟨fun _ => (show WLw Q 615 [some (mR 1), some (mR 5), some (mR 69), some (mI ((j : Nat) : Int))] [] G from lw_13 hC hky hj5 hl2 hk hN), ?_⟩
      refine ⟨fun _ => (show WLw Q 668 [some (mR 1), some (mR 5), some (mR 69), some (mI ((j : Nat) : Int))] [] G from lw_14 hC hky hj5 hl2 hk hN), ?_⟩
      refine ⟨fun _ => (show WLw Q 711 [some (mR 1), some (mR 5), some (mR 69), some (mI ((j : Nat) : Int))] [] G from lw_15 hC hky hj5 hl2 hk hN), ?_⟩
      refine ⟨fun _ => (show WLw Q 754 [some (mR 1), some (mR 5), some (mR 69), some (mI ((j : Nat) : Int))] [] G from lw_16 hC hky hj5 hl2 hk hN), ?_⟩
      refine ⟨fun _ => (show WLw Q 797 [some (mR 1), some (mR 5), some (mR 69), some (mI ((j : Nat) : Int))] [] G from lw_17 hC hky hj5 hl2 hk hN), ?_⟩
      trivial
set_option maxRecDepth 20000 in
theorem zs_1 : ZF G 1001 0 = G 1001 0 := rfl
set_option maxRecDepth 20000 in
theorem zs_0 (j : Nat) : ZF G 1000 j = G 1000 j := rfl
set_option maxHeartbeats 8000000 in
theorem lw_start (hQ : ∀ G, Q (some (mI 1)) G) (hQ2 : ∀ v G1 G2, Q v G1 → Q v G2) (hz : ∀ k j : Nat, k < 1000 → G k j = 0) (hl : 0 ≤ G 1001 0 ∧ G 1001 0 ≤ 3072) (h1k : ∀ i : Nat, (i : Int) < G 1001 0 → G 1000 i < 2147483648) : WP o_L M_L_law tD 61 119 29112 false 119 Q 0 0 0 0 [some (mR 1), none, none, none] [] G := by
  have n_vc : ∀ {n ce sl pc : Nat} {L : List (Option mV)} {S : List mV} {G : mG}, vc o_L M_L_law tD 60 119 29112 false false 119 Q k_L_law [3, 4, 7, 8, 11, 12, 15, 18] 400 false n ce sl pc L S G → WP o_L M_L_law tD 61 119 29112 false 119 Q n ce sl pc L S G := fun h => vc_sound oo_L (fun h => by cases h) q_L_law 400 false _ _ _ _ _ _ _ h
  refine n_vc ?_
  refine (show WP o_L M_L_law tD 61 119 29112 false 119 Q 1 1 11 3 [some (mR 1), none, none, none] [mR 5] G from ?_)
  refine n_vc ?_
  refine (show WP o_L M_L_law tD 61 119 29112 false 119 Q 1 1 11 4 [some (mR 1), none, none, none] [mR 5, mR 5] G from ?_)
  refine n_vc ?_
  refine sp_i0 (q := 57) ?_
  refine (show WP o_L M_L_law tD 61 119 29112 false 119 Q 64 64 8308 7 [some (mR 1), none, none, none] [mR 5] (E_i0 G) from ?_)
  refine n_vc ?_
  refine (show WP o_L M_L_law tD 61 119 29112 false 119 Q 64 64 8308 8 [some (mR 1), some (mR 5), none, none] [] (E_i0 G) from ?_)
  refine n_vc ?_
  refine (show WP o_L M_L_law tD 61 119 29112 false 119 Q 65 65 8381 11 [some (mR 1), some (mR 5), none, none] [mR 69] (E_i0 G) from ?_)
  refine n_vc ?_
  refine (show WP o_L M_L_law tD 61 119 29112 false 119 Q 65 65 8381 12 [some (mR 1), some (mR 5), none, none] [mR 69, mR 69] (E_i0 G) from ?_)
  refine n_vc ?_
  refine sp_i64 (q := 57) ?_
  refine (show WP o_L M_L_law tD 61 119 29112 false 119 Q 119 119 29112 15 [some (mR 1), some (mR 5), none, none] [mR 69] (ZF G) from ?_)
  refine n_vc ?_
  refine (show WP o_L M_L_law tD 61 119 29112 false 119 Q 119 119 29112 18 [some (mR 1), some (mR 5), some (mR 69), some (mI ((0 : Nat) : Int))] [] (ZF G) from ?_)
  refine WP.up hQ2 (fun k j h => ZF_crf h) ?_
  have s1 : ZF G 1001 0 = G 1001 0 := zs_1
  have s2 : ∀ j, ZF G 1000 j = G 1000 j := fun j => zs_0 j
  exact lw_loop (G0 := ZF G) hQ (by rw [s1]; exact hl) (fun i hi => by rw [s2]; exact h1k i (by rw [← s1]; exact hi)) 3100 0 (by omega) (by omega) (ZF G) ⟨⟨40, ZF_cpl hz⟩, ZF_ky, rfl, fun _ _ => rfl⟩
end LAW
