/-! ===== printed by wip/whole/gen91.py: the reference reads ===== -/
set_option maxHeartbeats 8000000 in
theorem nm_0 {D : Nat → Bool} {q : Nat} {H : mG} {Q : Option mV → mG → Prop} (hD : ∀ k, D k = false → inN [64] k = false) {e i : Nat} (he : e < 80) (hi : H 84 e = (i : Int)) (hs : 0 ≤ H 64 19 ∧ H 64 19 ≤ 1) (h : W2 o_X12 M_X12_named (inN [64]) (q + 3) Q 22 [some (mR 69), some (mI ((e : Nat) : Int)), some (mI ((i : Nat) : Int)), some (mI (-1)), some (mI (w32 ((H 72 (Int.toNat (H 64 19))) - 1)))] [] H) : P2 D (q + 3) M_X12_named [mR 69, mI ((e : Nat) : Int)] H Q := by
  refine MP.to (D2 := inN [64]) (Q2 := Q) ?_ hD (fun v G' q _ => q)
  refine p2_vc [22] 400 oo_X12 q_X12_named (by decide) rfl (Nat.le_of_ble_eq_true rfl) ?_
  refine ⟨(show 0 ≤ ((e : Nat) : Int) ∧ ((e : Nat) : Int) < ((80 : Nat) : Int) from by first | omega | (simp (disch := omega) only [w32_i]; omega)), ?_⟩
  refine ⟨(show 0 ≤ (H 64 19) ∧ (H 64 19) < ((2 : Nat) : Int) from by first | omega | (simp (disch := omega) only [w32_i]; omega)), ?_⟩
  refine (show W2 o_X12 M_X12_named (inN [64]) (q + 3) Q 22 [some (mR 69), some (mI ((e : Nat) : Int)), some (mI (H 84 (Int.toNat ((e : Nat) : Int)))), some (mI (-1)), some (mI (w32 ((H 72 (Int.toNat (H 64 19))) - 1)))] [] H from ?_)
  rw [st_nat, hi]
  exact h
set_option maxHeartbeats 8000000 in
theorem nm_22z {q : Nat} {H : mG} {Q : Option mV → mG → Prop} {e i : Nat} {x y : Int} (hy : y < 0) (h : W2 o_X12 M_X12_named (inN [64]) (q + 3) Q 61 [some (mR 69), some (mI ((e : Nat) : Int)), some (mI ((i : Nat) : Int)), some (mI x), none] [] H) : W2 o_X12 M_X12_named (inN [64]) (q + 3) Q 22 [some (mR 69), some (mI ((e : Nat) : Int)), some (mI ((i : Nat) : Int)), some (mI x), some (mI y)] [] H := by
  refine w2_vc [27, 61] 400 oo_X12 q_X12_named ?_
  refine ⟨fun (c1 : y < 0) => ?_, fun (c1 : 0 ≤ y) => ?_⟩
  · skip
    refine (show W2 o_X12 M_X12_named (inN [64]) (q + 3) Q 61 [some (mR 69), some (mI ((e : Nat) : Int)), some (mI ((i : Nat) : Int)), some (mI x), some (mI y)] [] H from ?_)
    refine WP.fg (L' := [some (mR 69), some (mI ((e : Nat) : Int)), some (mI ((i : Nat) : Int)), some (mI x), none]) ⟨rfl, rfl, rfl, rfl, trivial⟩ ?_
    exact h
  · skip
    refine (show W2 o_X12 M_X12_named (inN [64]) (q + 3) Q 27 [some (mR 69), some (mI ((e : Nat) : Int)), some (mI ((i : Nat) : Int)), some (mI x), some (mI y)] [] H from ?_)
    exfalso; omega
set_option maxHeartbeats 8000000 in
theorem nm_22s {q : Nat} {H : mG} {Q : Option mV → mG → Prop} {e i j : Nat} {x : Int} (hi : i ≤ 600) (hj : j < 8) (hs : 0 ≤ H 64 19 ∧ H 64 19 ≤ 1) (h1 : (H 73 (Int.toNat (w32 ((w32 (8 * (H 64 19))) + ((j : Nat) : Int)))) = H 70 i) → W2 o_X12 M_X12_named (inN [64]) (q + 3) Q 22 [some (mR 69), some (mI ((e : Nat) : Int)), some (mI ((i : Nat) : Int)), some (mI ((j : Nat) : Int)), some (mI (w32 (((j : Nat) : Int) + (-1))))] [] H) (h2 : ¬ (H 73 (Int.toNat (w32 ((w32 (8 * (H 64 19))) + ((j : Nat) : Int)))) = H 70 i) → W2 o_X12 M_X12_named (inN [64]) (q + 3) Q 22 [some (mR 69), some (mI ((e : Nat) : Int)), some (mI ((i : Nat) : Int)), some (mI x), some (mI (w32 (((j : Nat) : Int) + (-1))))] [] H) : W2 o_X12 M_X12_named (inN [64]) (q + 3) Q 22 [some (mR 69), some (mI ((e : Nat) : Int)), some (mI ((i : Nat) : Int)), some (mI x), some (mI ((j : Nat) : Int))] [] H := by
  refine w2_vc [22, 48, 61] 400 oo_X12 q_X12_named ?_
  refine ⟨fun (c1 : ((j : Nat) : Int) < 0) => ?_, fun (c1 : 0 ≤ ((j : Nat) : Int)) => ?_⟩
  · skip
    refine (show W2 o_X12 M_X12_named (inN [64]) (q + 3) Q 61 [some (mR 69), some (mI ((e : Nat) : Int)), some (mI ((i : Nat) : Int)), some (mI x), some (mI ((j : Nat) : Int))] [] H from ?_)
    exfalso; omega
  · skip
    refine ⟨(show 0 ≤ (w32 ((w32 (8 * (H 64 19))) + ((j : Nat) : Int))) ∧ (w32 ((w32 (8 * (H 64 19))) + ((j : Nat) : Int))) < ((16 : Nat) : Int) from by first | omega | (rw [show (w32 ((w32 (8 * (H 64 19))) + ((j : Nat) : Int))) = (8 * (H 64 19)) + ((j : Nat) : Int) from by rw [w32_i (x := (8 * (H 64 19))) (by omega) (by omega), w32_i (x := (8 * (H 64 19)) + ((j : Nat) : Int)) (by omega) (by omega)]]; omega) | (simp (disch := omega) only [w32_i]; omega)), ?_⟩
    refine ⟨(show 0 ≤ ((i : Nat) : Int) ∧ ((i : Nat) : Int) < ((603 : Nat) : Int) from by first | omega | (simp (disch := omega) only [w32_i]; omega)), ?_⟩
    refine (show W2 o_X12 M_X12_named (inN [64]) (q + 3) Q 48 [some (mR 69), some (mI ((e : Nat) : Int)), some (mI ((i : Nat) : Int)), some (mI x), some (mI ((j : Nat) : Int))] [mJ (H 70 (Int.toNat ((i : Nat) : Int))), mJ (H 73 (Int.toNat (w32 ((w32 (8 * (H 64 19))) + ((j : Nat) : Int)))))] H from ?_)
    refine w2_vc [22, 48, 61] 400 oo_X12 q_X12_named ?_
    refine ⟨fun (c2 : ¬ (mLcmp (H 73 (Int.toNat (w32 ((w32 (8 * (H 64 19))) + ((j : Nat) : Int))))) (H 70 (Int.toNat ((i : Nat) : Int)))) = 0) => ?_, fun (c2 : (mLcmp (H 73 (Int.toNat (w32 ((w32 (8 * (H 64 19))) + ((j : Nat) : Int))))) (H 70 (Int.toNat ((i : Nat) : Int)))) = 0) => ?_⟩
    · skip
      refine (show W2 o_X12 M_X12_named (inN [64]) (q + 3) Q 22 [some (mR 69), some (mI ((e : Nat) : Int)), some (mI ((i : Nat) : Int)), some (mI x), some (mI (w32 (((j : Nat) : Int) + (-1))))] [] H from ?_)
      rw [st_nat] at c2
      exact h2 (fun y => c2 (lcmp_e.mpr y))
    · skip
      refine (show W2 o_X12 M_X12_named (inN [64]) (q + 3) Q 22 [some (mR 69), some (mI ((e : Nat) : Int)), some (mI ((i : Nat) : Int)), some (mI ((j : Nat) : Int)), some (mI (w32 (((j : Nat) : Int) + (-1))))] [] H from ?_)
      rw [st_nat] at c2
      exact h1 (lcmp_e.mp c2)
set_option maxHeartbeats 8000000 in
theorem nm_61 {q : Nat} {H : mG} {Q : Option mV → mG → Prop} {e i : Nat} {x : Int} (he : e < 80) (hi : i ≤ 600) (hs : 0 ≤ H 64 19 ∧ H 64 19 ≤ 1) (h78 : 0 ≤ H 78 (Int.toNat ((e : Nat) : Int)) ∧ H 78 (Int.toNat ((e : Nat) : Int)) < 8) (h1 : x = -1 → Q (some (mI x)) (e_X12_wrong H 4 ((i : Nat) : Int))) (h2 : ¬ x = -1 → (H 73 (Int.toNat (w32 ((w32 (8 * (H 64 19))) + (H 78 e)))) = H 70 i) → Q (some (mI x)) (e_X12_wrong H 5 ((i : Nat) : Int))) (h3 : ¬ x = -1 → ¬ (H 73 (Int.toNat (w32 ((w32 (8 * (H 64 19))) + (H 78 e)))) = H 70 i) → Q (some (mI x)) H) : W2 o_X12 M_X12_named (inN [64]) (q + 3) Q 61 [some (mR 69), some (mI ((e : Nat) : Int)), some (mI ((i : Nat) : Int)), some (mI x), none] [] H := by
  refine w2_vc [100] 400 oo_X12 q_X12_named ?_
  refine ⟨fun (c1 : ¬ x = (-1)) => ?_, fun (c1 : x = (-1)) => ?_⟩
  · skip
    refine ⟨(show 0 ≤ ((e : Nat) : Int) ∧ ((e : Nat) : Int) < ((80 : Nat) : Int) from by first | omega | (simp (disch := omega) only [w32_i]; omega)), ?_⟩
    refine ⟨(show 0 ≤ (w32 ((w32 (8 * (H 64 19))) + (H 78 (Int.toNat ((e : Nat) : Int))))) ∧ (w32 ((w32 (8 * (H 64 19))) + (H 78 (Int.toNat ((e : Nat) : Int))))) < ((16 : Nat) : Int) from by first | omega | (rw [show (w32 ((w32 (8 * (H 64 19))) + (H 78 (Int.toNat ((e : Nat) : Int))))) = (8 * (H 64 19)) + (H 78 (Int.toNat ((e : Nat) : Int))) from by rw [w32_i (x := (8 * (H 64 19))) (by omega) (by omega), w32_i (x := (8 * (H 64 19)) + (H 78 (Int.toNat ((e : Nat) : Int)))) (by omega) (by omega)]]; omega) | (simp (disch := omega) only [w32_i]; omega)), ?_⟩
    refine ⟨(show 0 ≤ ((i : Nat) : Int) ∧ ((i : Nat) : Int) < ((603 : Nat) : Int) from by first | omega | (simp (disch := omega) only [w32_i]; omega)), ?_⟩
    refine (show W2 o_X12 M_X12_named (inN [64]) (q + 3) Q 100 [some (mR 69), some (mI ((e : Nat) : Int)), some (mI ((i : Nat) : Int)), some (mI x), none] [mJ (H 70 (Int.toNat ((i : Nat) : Int))), mJ (H 73 (Int.toNat (w32 ((w32 (8 * (H 64 19))) + (H 78 (Int.toNat ((e : Nat) : Int)))))))] H from ?_)
    refine w2_vc [100] 400 oo_X12 q_X12_named ?_
    refine ⟨fun (c2 : ¬ (mLcmp (H 73 (Int.toNat (w32 ((w32 (8 * (H 64 19))) + (H 78 (Int.toNat ((e : Nat) : Int))))))) (H 70 (Int.toNat ((i : Nat) : Int)))) = 0) => ?_, fun (c2 : (mLcmp (H 73 (Int.toNat (w32 ((w32 (8 * (H 64 19))) + (H 78 (Int.toNat ((e : Nat) : Int))))))) (H 70 (Int.toNat ((i : Nat) : Int)))) = 0) => ?_⟩
    · skip
      exact h3 (by omega) (fun y => c2 (by rw [st_nat, st_nat]; exact lcmp_e.mpr y))
    · skip
      refine sp_X12_wrong (by first | omega | (simp (disch := decide) only [gs_ne, gs_at_ne, gs_at]; omega)) (insub (by decide)) ?_
      exact h2 (by omega) (by rw [st_nat, st_nat] at c2; exact lcmp_e.mp c2)
  · skip
    refine sp_X12_wrong (by first | omega | (simp (disch := decide) only [gs_ne, gs_at_ne, gs_at]; omega)) (insub (by decide)) ?_
    exact h1 (by omega)
set_option maxHeartbeats 8000000 in
theorem rd_0 {D : Nat → Bool} {q : Nat} {H : mG} {Q : Option mV → mG → Prop} (hD : ∀ k, D k = false → inN [64, 66, 67, 68, 69, 70, 72, 73, 74, 75, 76, 77, 78, 79, 80, 81, 82, 83, 84, 85, 86, 87, 88, 89, 90, 91, 92, 93, 104] k = false) (h : W2 o_X12 M_X12_read (inN [64, 66, 67, 68, 69, 70, 72, 73, 74, 75, 76, 77, 78, 79, 80, 81, 82, 83, 84, 85, 86, 87, 88, 89, 90, 91, 92, 93, 104]) (q + 20) Q 10 [some (mR 69), some (mI 0)] [] (gs H 64 4 (H 64 2))) : P2 D (q + 20) M_X12_read [mR 69] H Q := by
  refine MP.to (D2 := inN [64, 66, 67, 68, 69, 70, 72, 73, 74, 75, 76, 77, 78, 79, 80, 81, 82, 83, 84, 85, 86, 87, 88, 89, 90, 91, 92, 93, 104]) (Q2 := Q) ?_ hD (fun v G' q _ => q)
  refine p2_vc [8, 10] 400 oo_X12 q_X12_read (by decide) rfl (Nat.le_of_ble_eq_true rfl) ?_
  refine (show W2 o_X12 M_X12_read (inN [64, 66, 67, 68, 69, 70, 72, 73, 74, 75, 76, 77, 78, 79, 80, 81, 82, 83, 84, 85, 86, 87, 88, 89, 90, 91, 92, 93, 104]) (q + 20) Q 8 [some (mR 69), none] [] (gs H 64 4 (H 64 2)) from ?_)
  refine w2_vc [8, 10] 400 oo_X12 q_X12_read ?_
  refine (show W2 o_X12 M_X12_read (inN [64, 66, 67, 68, 69, 70, 72, 73, 74, 75, 76, 77, 78, 79, 80, 81, 82, 83, 84, 85, 86, 87, 88, 89, 90, 91, 92, 93, 104]) (q + 20) Q 10 [some (mR 69), some (mI 0)] [] (gs H 64 4 (H 64 2)) from ?_)
  exact h
set_option maxHeartbeats 8000000 in
theorem rd_10 {q : Nat} {H : mG} {Q : Option mV → mG → Prop} {j : Nat} (hs : H 64 4 ≤ 3000) (h1 : H 64 4 ≤ (j : Int) → W2 o_X12 M_X12_read (inN [64, 66, 67, 68, 69, 70, 72, 73, 74, 75, 76, 77, 78, 79, 80, 81, 82, 83, 84, 85, 86, 87, 88, 89, 90, 91, 92, 93, 104]) (q + 20) Q 36 [some (mR 69), none] [] H) (h2 : (j : Int) < H 64 4 → W2 o_X12 M_X12_read (inN [64, 66, 67, 68, 69, 70, 72, 73, 74, 75, 76, 77, 78, 79, 80, 81, 82, 83, 84, 85, 86, 87, 88, 89, 90, 91, 92, 93, 104]) (q + 20) Q 10 [some (mR 69), some (mI ((j + 1 : Nat) : Int))] [] (gs H 66 j (w8 (H 65 j)))) : W2 o_X12 M_X12_read (inN [64, 66, 67, 68, 69, 70, 72, 73, 74, 75, 76, 77, 78, 79, 80, 81, 82, 83, 84, 85, 86, 87, 88, 89, 90, 91, 92, 93, 104]) (q + 20) Q 10 [some (mR 69), some (mI ((j : Nat) : Int))] [] H := by
  refine w2_vc [10, 30, 36] 400 oo_X12 q_X12_read ?_
  refine ⟨fun (c1 : (H 64 4) ≤ ((j : Nat) : Int)) => ?_, fun (c1 : ((j : Nat) : Int) < (H 64 4)) => ?_⟩
  · skip
    refine (show W2 o_X12 M_X12_read (inN [64, 66, 67, 68, 69, 70, 72, 73, 74, 75, 76, 77, 78, 79, 80, 81, 82, 83, 84, 85, 86, 87, 88, 89, 90, 91, 92, 93, 104]) (q + 20) Q 36 [some (mR 69), some (mI ((j : Nat) : Int))] [] H from ?_)
    refine WP.fg (L' := [some (mR 69), none]) ⟨rfl, trivial⟩ ?_
    exact h1 (by omega)
  · skip
    refine ⟨(show 0 ≤ ((j : Nat) : Int) ∧ ((j : Nat) : Int) < ((3000 : Nat) : Int) from by first | omega | (simp (disch := omega) only [w32_i]; omega)), ?_⟩
    refine ⟨(show 0 ≤ ((j : Nat) : Int) ∧ ((j : Nat) : Int) < ((3000 : Nat) : Int) from by first | omega | (simp (disch := omega) only [w32_i]; omega)), ?_⟩
    refine (show W2 o_X12 M_X12_read (inN [64, 66, 67, 68, 69, 70, 72, 73, 74, 75, 76, 77, 78, 79, 80, 81, 82, 83, 84, 85, 86, 87, 88, 89, 90, 91, 92, 93, 104]) (q + 20) Q 30 [some (mR 69), some (mI ((j : Nat) : Int))] [] (gs H 66 (Int.toNat ((j : Nat) : Int)) (w8 (H 65 (Int.toNat ((j : Nat) : Int))))) from ?_)
    refine w2_vc [10, 30, 36] 400 oo_X12 q_X12_read ?_
    refine (show W2 o_X12 M_X12_read (inN [64, 66, 67, 68, 69, 70, 72, 73, 74, 75, 76, 77, 78, 79, 80, 81, 82, 83, 84, 85, 86, 87, 88, 89, 90, 91, 92, 93, 104]) (q + 20) Q 10 [some (mR 69), some (mI (w32 (((j : Nat) : Int) + 1)))] [] (gs H 66 (Int.toNat ((j : Nat) : Int)) (w8 (H 65 (Int.toNat ((j : Nat) : Int))))) from ?_)
    rw [w32_nat (by omega)]
    rw [st_nat]
    exact h2 (by omega)
set_option maxHeartbeats 8000000 in
theorem rd_36 {q : Nat} {H : mG} {Q : Option mV → mG → Prop} {R : mG → Prop} (hE : (∀ Q' : Option mV → mG → Prop, (∀ H', R H' → Q' none H') → P2 (inN [64, 66, 67, 68, 69, 70, 72, 73, 74, 75, 76, 77, 78, 79, 80, 81, 82, 83, 84, 85, 86, 87, 88, 89, 90, 91, 92, 93, 104]) (q + 19) M_X12_cut [mR 69] (gs H 64 2 0) Q')) (h : ∀ H2, R H2 → W2 o_X12 M_X12_read (inN [64, 66, 67, 68, 69, 70, 72, 73, 74, 75, 76, 77, 78, 79, 80, 81, 82, 83, 84, 85, 86, 87, 88, 89, 90, 91, 92, 93, 104]) (q + 20) Q 45 [some (mR 69), none] [] H2) : W2 o_X12 M_X12_read (inN [64, 66, 67, 68, 69, 70, 72, 73, 74, 75, 76, 77, 78, 79, 80, 81, 82, 83, 84, 85, 86, 87, 88, 89, 90, 91, 92, 93, 104]) (q + 20) Q 36 [some (mR 69), none] [] H := by
  refine w2_vc [41, 45] 400 oo_X12 q_X12_read ?_
  refine (show W2 o_X12 M_X12_read (inN [64, 66, 67, 68, 69, 70, 72, 73, 74, 75, 76, 77, 78, 79, 80, 81, 82, 83, 84, 85, 86, 87, 88, 89, 90, 91, 92, 93, 104]) (q + 20) Q 41 [some (mR 69), none] [] (gs H 64 2 0) from ?_)
  refine w2_vc [41, 45] 400 oo_X12 q_X12_read ?_
  refine hE _ (fun H' hH' => ?_)
  refine (show W2 o_X12 M_X12_read (inN [64, 66, 67, 68, 69, 70, 72, 73, 74, 75, 76, 77, 78, 79, 80, 81, 82, 83, 84, 85, 86, 87, 88, 89, 90, 91, 92, 93, 104]) (q + 20) Q 45 [some (mR 69), none] [] H' from ?_)
  exact h H' hH'
set_option maxHeartbeats 8000000 in
theorem rd_45 {q : Nat} {H : mG} {Q : Option mV → mG → Prop} (hl : 0 ≤ w32 (1 - (H 64 18)) ∧ w32 (1 - (H 64 18)) < 2) (h : W2 o_X12 M_X12_read (inN [64, 66, 67, 68, 69, 70, 72, 73, 74, 75, 76, 77, 78, 79, 80, 81, 82, 83, 84, 85, 86, 87, 88, 89, 90, 91, 92, 93, 104]) (q + 20) Q 117 [some (mR 69), none] [] (gs (gs (gs (gs (gs (gs (gs (gs (gs H 64 11 0) 64 12 0) 64 13 0) 64 15 0) 64 19 (w32 (1 - (H 64 18)))) 72 (Int.toNat (w32 (1 - (H 64 18)))) 0) 76 (Int.toNat (w32 (1 - (H 64 18)))) 0) 85 (Int.toNat (w32 (1 - (H 64 18)))) 0) 64 39 (w32 (700 * (w32 (1 - (H 64 18))))))) : W2 o_X12 M_X12_read (inN [64, 66, 67, 68, 69, 70, 72, 73, 74, 75, 76, 77, 78, 79, 80, 81, 82, 83, 84, 85, 86, 87, 88, 89, 90, 91, 92, 93, 104]) (q + 20) Q 45 [some (mR 69), none] [] H := by
  refine w2_vc [50, 55, 60, 65, 75, 85, 95, 105, 117] 400 oo_X12 q_X12_read ?_
  refine (show W2 o_X12 M_X12_read (inN [64, 66, 67, 68, 69, 70, 72, 73, 74, 75, 76, 77, 78, 79, 80, 81, 82, 83, 84, 85, 86, 87, 88, 89, 90, 91, 92, 93, 104]) (q + 20) Q 50 [some (mR 69), none] [] (gs H 64 11 0) from ?_)
  refine w2_vc [50, 55, 60, 65, 75, 85, 95, 105, 117] 400 oo_X12 q_X12_read ?_
  refine (show W2 o_X12 M_X12_read (inN [64, 66, 67, 68, 69, 70, 72, 73, 74, 75, 76, 77, 78, 79, 80, 81, 82, 83, 84, 85, 86, 87, 88, 89, 90, 91, 92, 93, 104]) (q + 20) Q 55 [some (mR 69), none] [] (gs (gs H 64 11 0) 64 12 0) from ?_)
  refine w2_vc [50, 55, 60, 65, 75, 85, 95, 105, 117] 400 oo_X12 q_X12_read ?_
  refine (show W2 o_X12 M_X12_read (inN [64, 66, 67, 68, 69, 70, 72, 73, 74, 75, 76, 77, 78, 79, 80, 81, 82, 83, 84, 85, 86, 87, 88, 89, 90, 91, 92, 93, 104]) (q + 20) Q 60 [some (mR 69), none] [] (gs (gs (gs H 64 11 0) 64 12 0) 64 13 0) from ?_)
  refine w2_vc [50, 55, 60, 65, 75, 85, 95, 105, 117] 400 oo_X12 q_X12_read ?_
  refine (show W2 o_X12 M_X12_read (inN [64, 66, 67, 68, 69, 70, 72, 73, 74, 75, 76, 77, 78, 79, 80, 81, 82, 83, 84, 85, 86, 87, 88, 89, 90, 91, 92, 93, 104]) (q + 20) Q 65 [some (mR 69), none] [] (gs (gs (gs (gs H 64 11 0) 64 12 0) 64 13 0) 64 15 0) from ?_)
  refine w2_vc [50, 55, 60, 65, 75, 85, 95, 105, 117] 400 oo_X12 q_X12_read ?_
  refine (show W2 o_X12 M_X12_read (inN [64, 66, 67, 68, 69, 70, 72, 73, 74, 75, 76, 77, 78, 79, 80, 81, 82, 83, 84, 85, 86, 87, 88, 89, 90, 91, 92, 93, 104]) (q + 20) Q 75 [some (mR 69), none] [] (gs (gs (gs (gs (gs H 64 11 0) 64 12 0) 64 13 0) 64 15 0) 64 19 (w32 (1 - (H 64 18)))) from ?_)
  refine w2_vc [50, 55, 60, 65, 75, 85, 95, 105, 117] 400 oo_X12 q_X12_read ?_
  refine ⟨(show 0 ≤ (w32 (1 - (H 64 18))) ∧ (w32 (1 - (H 64 18))) < ((2 : Nat) : Int) from by first | omega | (simp (disch := omega) only [w32_i]; omega)), ?_⟩
  refine (show W2 o_X12 M_X12_read (inN [64, 66, 67, 68, 69, 70, 72, 73, 74, 75, 76, 77, 78, 79, 80, 81, 82, 83, 84, 85, 86, 87, 88, 89, 90, 91, 92, 93, 104]) (q + 20) Q 85 [some (mR 69), none] [] (gs (gs (gs (gs (gs (gs H 64 11 0) 64 12 0) 64 13 0) 64 15 0) 64 19 (w32 (1 - (H 64 18)))) 72 (Int.toNat (w32 (1 - (H 64 18)))) 0) from ?_)
  refine w2_vc [50, 55, 60, 65, 75, 85, 95, 105, 117] 400 oo_X12 q_X12_read ?_
  refine ⟨(show 0 ≤ (w32 (1 - (H 64 18))) ∧ (w32 (1 - (H 64 18))) < ((2 : Nat) : Int) from by first | omega | (simp (disch := omega) only [w32_i]; omega)), ?_⟩
  refine (show W2 o_X12 M_X12_read (inN [64, 66, 67, 68, 69, 70, 72, 73, 74, 75, 76, 77, 78, 79, 80, 81, 82, 83, 84, 85, 86, 87, 88, 89, 90, 91, 92, 93, 104]) (q + 20) Q 95 [some (mR 69), none] [] (gs (gs (gs (gs (gs (gs (gs H 64 11 0) 64 12 0) 64 13 0) 64 15 0) 64 19 (w32 (1 - (H 64 18)))) 72 (Int.toNat (w32 (1 - (H 64 18)))) 0) 76 (Int.toNat (w32 (1 - (H 64 18)))) 0) from ?_)
  refine w2_vc [50, 55, 60, 65, 75, 85, 95, 105, 117] 400 oo_X12 q_X12_read ?_
  refine ⟨(show 0 ≤ (w32 (1 - (H 64 18))) ∧ (w32 (1 - (H 64 18))) < ((2 : Nat) : Int) from by first | omega | (simp (disch := omega) only [w32_i]; omega)), ?_⟩
  refine (show W2 o_X12 M_X12_read (inN [64, 66, 67, 68, 69, 70, 72, 73, 74, 75, 76, 77, 78, 79, 80, 81, 82, 83, 84, 85, 86, 87, 88, 89, 90, 91, 92, 93, 104]) (q + 20) Q 105 [some (mR 69), none] [] (gs (gs (gs (gs (gs (gs (gs (gs H 64 11 0) 64 12 0) 64 13 0) 64 15 0) 64 19 (w32 (1 - (H 64 18)))) 72 (Int.toNat (w32 (1 - (H 64 18)))) 0) 76 (Int.toNat (w32 (1 - (H 64 18)))) 0) 85 (Int.toNat (w32 (1 - (H 64 18)))) 0) from ?_)
  refine w2_vc [50, 55, 60, 65, 75, 85, 95, 105, 117] 400 oo_X12 q_X12_read ?_
  refine (show W2 o_X12 M_X12_read (inN [64, 66, 67, 68, 69, 70, 72, 73, 74, 75, 76, 77, 78, 79, 80, 81, 82, 83, 84, 85, 86, 87, 88, 89, 90, 91, 92, 93, 104]) (q + 20) Q 117 [some (mR 69), none] [] (gs (gs (gs (gs (gs (gs (gs (gs (gs H 64 11 0) 64 12 0) 64 13 0) 64 15 0) 64 19 (w32 (1 - (H 64 18)))) 72 (Int.toNat (w32 (1 - (H 64 18)))) 0) 76 (Int.toNat (w32 (1 - (H 64 18)))) 0) 85 (Int.toNat (w32 (1 - (H 64 18)))) 0) 64 39 (w32 (700 * (w32 (1 - (H 64 18)))))) from ?_)
  exact h
set_option maxHeartbeats 8000000 in
theorem rd_117 {q : Nat} {H : mG} {Q : Option mV → mG → Prop} {R : mG → Prop} (hT : 0 ≤ H 64 11 ∧ H 64 11 ≤ 600) (h1 : ¬ (H 64 13 = 0 ∧ ¬ (H 67 (Int.toNat (H 64 11))) = 0) → W2 o_X12 M_X12_read (inN [64, 66, 67, 68, 69, 70, 72, 73, 74, 75, 76, 77, 78, 79, 80, 81, 82, 83, 84, 85, 86, 87, 88, 89, 90, 91, 92, 93, 104]) (q + 20) Q 139 [some (mR 69), none] [] H) (hE : (H 64 13 = 0 ∧ ¬ (H 67 (Int.toNat (H 64 11))) = 0) → (∀ Q' : Option mV → mG → Prop, (∀ H', R H' → Q' none H') → P2 (inN [64, 66, 67, 68, 69, 70, 72, 73, 74, 75, 76, 77, 78, 79, 80, 81, 82, 83, 84, 85, 86, 87, 88, 89, 90, 91, 92, 93, 104]) (q + 19) M_X12_tellCampaign [mR 69] H Q')) (h2 : ∀ H2, R H2 → W2 o_X12 M_X12_read (inN [64, 66, 67, 68, 69, 70, 72, 73, 74, 75, 76, 77, 78, 79, 80, 81, 82, 83, 84, 85, 86, 87, 88, 89, 90, 91, 92, 93, 104]) (q + 20) Q 117 [some (mR 69), none] [] H2) : W2 o_X12 M_X12_read (inN [64, 66, 67, 68, 69, 70, 72, 73, 74, 75, 76, 77, 78, 79, 80, 81, 82, 83, 84, 85, 86, 87, 88, 89, 90, 91, 92, 93, 104]) (q + 20) Q 117 [some (mR 69), none] [] H := by
  refine w2_vc [117, 136, 139] 400 oo_X12 q_X12_read ?_
  refine ⟨fun (c1 : ¬ (H 64 13) = 0) => ?_, fun (c1 : (H 64 13) = 0) => ?_⟩
  · skip
    refine (show W2 o_X12 M_X12_read (inN [64, 66, 67, 68, 69, 70, 72, 73, 74, 75, 76, 77, 78, 79, 80, 81, 82, 83, 84, 85, 86, 87, 88, 89, 90, 91, 92, 93, 104]) (q + 20) Q 139 [some (mR 69), none] [] H from ?_)
    exact h1 (by omega)
  · skip
    refine sp_X12_is (by first | omega | (simp (disch := decide) only [gs_ne, gs_at_ne, gs_at]; omega)) ?_
    have c3 := fa_X12_is H 0
    refine ⟨fun (c4 : ¬ (f_X12_is H 0) = 0) => ?_, fun (c4 : (f_X12_is H 0) = 0) => ?_⟩
    · skip
      refine (show W2 o_X12 M_X12_read (inN [64, 66, 67, 68, 69, 70, 72, 73, 74, 75, 76, 77, 78, 79, 80, 81, 82, 83, 84, 85, 86, 87, 88, 89, 90, 91, 92, 93, 104]) (q + 20) Q 139 [some (mR 69), none] [] H from ?_)
      exact h1 (by omega)
    · skip
      refine hE (by omega) _ (fun H' hH' => ?_)
      refine (show W2 o_X12 M_X12_read (inN [64, 66, 67, 68, 69, 70, 72, 73, 74, 75, 76, 77, 78, 79, 80, 81, 82, 83, 84, 85, 86, 87, 88, 89, 90, 91, 92, 93, 104]) (q + 20) Q 136 [some (mR 69), none] [] H' from ?_)
      refine w2_vc [117, 136, 139] 400 oo_X12 q_X12_read ?_
      refine (show W2 o_X12 M_X12_read (inN [64, 66, 67, 68, 69, 70, 72, 73, 74, 75, 76, 77, 78, 79, 80, 81, 82, 83, 84, 85, 86, 87, 88, 89, 90, 91, 92, 93, 104]) (q + 20) Q 117 [some (mR 69), none] [] H' from ?_)
      exact h2 H' hH'
set_option maxHeartbeats 8000000 in
theorem rd_139 {q : Nat} {H : mG} {Q : Option mV → mG → Prop} (h1 : ¬ H 64 13 = 0 → W2 o_X12 M_X12_read (inN [64, 66, 67, 68, 69, 70, 72, 73, 74, 75, 76, 77, 78, 79, 80, 81, 82, 83, 84, 85, 86, 87, 88, 89, 90, 91, 92, 93, 104]) (q + 20) Q 202 [some (mR 69), none] [] H) (h2 : H 64 13 = 0 → W2 o_X12 M_X12_read (inN [64, 66, 67, 68, 69, 70, 72, 73, 74, 75, 76, 77, 78, 79, 80, 81, 82, 83, 84, 85, 86, 87, 88, 89, 90, 91, 92, 93, 104]) (q + 20) Q 154 [some (mR 69), some (mI (w32 (40 * (H 64 19))))] [] H) : W2 o_X12 M_X12_read (inN [64, 66, 67, 68, 69, 70, 72, 73, 74, 75, 76, 77, 78, 79, 80, 81, 82, 83, 84, 85, 86, 87, 88, 89, 90, 91, 92, 93, 104]) (q + 20) Q 139 [some (mR 69), none] [] H := by
  refine w2_vc [154, 202] 400 oo_X12 q_X12_read ?_
  refine ⟨fun (c1 : ¬ (H 64 13) = 0) => ?_, fun (c1 : (H 64 13) = 0) => ?_⟩
  · skip
    refine (show W2 o_X12 M_X12_read (inN [64, 66, 67, 68, 69, 70, 72, 73, 74, 75, 76, 77, 78, 79, 80, 81, 82, 83, 84, 85, 86, 87, 88, 89, 90, 91, 92, 93, 104]) (q + 20) Q 202 [some (mR 69), none] [] H from ?_)
    exact h1 (by omega)
  · skip
    refine (show W2 o_X12 M_X12_read (inN [64, 66, 67, 68, 69, 70, 72, 73, 74, 75, 76, 77, 78, 79, 80, 81, 82, 83, 84, 85, 86, 87, 88, 89, 90, 91, 92, 93, 104]) (q + 20) Q 154 [some (mR 69), some (mI (w32 (40 * (H 64 19))))] [] H from ?_)
    exact h2 (by omega)
set_option maxHeartbeats 8000000 in
theorem rd_154 {q : Nat} {H : mG} {Q : Option mV → mG → Prop} {R : Int → mG → Prop} {e : Nat} (he : e < 80 ∨ (e = 80)) (hs : 0 ≤ H 64 19 ∧ H 64 19 ≤ 1) (ht : (w32 ((w32 (40 * (H 64 19))) + (H 76 (Int.toNat (H 64 19))))) ≤ 80) (h1 : (w32 ((w32 (40 * (H 64 19))) + (H 76 (Int.toNat (H 64 19))))) ≤ (e : Int) → W2 o_X12 M_X12_read (inN [64, 66, 67, 68, 69, 70, 72, 73, 74, 75, 76, 77, 78, 79, 80, 81, 82, 83, 84, 85, 86, 87, 88, 89, 90, 91, 92, 93, 104]) (q + 20) Q 202 [some (mR 69), none] [] H) (h2 : (e : Int) < (w32 ((w32 (40 * (H 64 19))) + (H 76 (Int.toNat (H 64 19))))) → ¬ H 77 e = 2 → W2 o_X12 M_X12_read (inN [64, 66, 67, 68, 69, 70, 72, 73, 74, 75, 76, 77, 78, 79, 80, 81, 82, 83, 84, 85, 86, 87, 88, 89, 90, 91, 92, 93, 104]) (q + 20) Q 154 [some (mR 69), some (mI ((e + 1 : Nat) : Int))] [] H) (hE : (e : Int) < (w32 ((w32 (40 * (H 64 19))) + (H 76 (Int.toNat (H 64 19))))) → H 77 e = 2 → ∀ Q' : Option mV → mG → Prop, (∀ x H', R x H' → Q' (some (mI x)) H') → P2 (inN [64, 66, 67, 68, 69, 70, 72, 73, 74, 75, 76, 77, 78, 79, 80, 81, 82, 83, 84, 85, 86, 87, 88, 89, 90, 91, 92, 93, 104]) (q + 19) M_X12_named [mR 69, mI ((e : Nat) : Int)] H Q') (h3 : (e : Int) < (w32 ((w32 (40 * (H 64 19))) + (H 76 (Int.toNat (H 64 19))))) → H 77 e = 2 → ∀ x H2, R x H2 → W2 o_X12 M_X12_read (inN [64, 66, 67, 68, 69, 70, 72, 73, 74, 75, 76, 77, 78, 79, 80, 81, 82, 83, 84, 85, 86, 87, 88, 89, 90, 91, 92, 93, 104]) (q + 20) Q 154 [some (mR 69), some (mI ((e + 1 : Nat) : Int))] [] (gs H2 79 e x)) : W2 o_X12 M_X12_read (inN [64, 66, 67, 68, 69, 70, 72, 73, 74, 75, 76, 77, 78, 79, 80, 81, 82, 83, 84, 85, 86, 87, 88, 89, 90, 91, 92, 93, 104]) (q + 20) Q 154 [some (mR 69), some (mI ((e : Nat) : Int))] [] H := by
  refine w2_vc [154, 195, 196, 202] 400 oo_X12 q_X12_read ?_
  refine ⟨(show 0 ≤ (H 64 19) ∧ (H 64 19) < ((2 : Nat) : Int) from by first | omega | (simp (disch := omega) only [w32_i]; omega)), ?_⟩
  refine ⟨fun (c1 : (w32 ((w32 (40 * (H 64 19))) + (H 76 (Int.toNat (H 64 19))))) ≤ ((e : Nat) : Int)) => ?_, fun (c1 : ((e : Nat) : Int) < (w32 ((w32 (40 * (H 64 19))) + (H 76 (Int.toNat (H 64 19)))))) => ?_⟩
  · skip
    refine (show W2 o_X12 M_X12_read (inN [64, 66, 67, 68, 69, 70, 72, 73, 74, 75, 76, 77, 78, 79, 80, 81, 82, 83, 84, 85, 86, 87, 88, 89, 90, 91, 92, 93, 104]) (q + 20) Q 202 [some (mR 69), some (mI ((e : Nat) : Int))] [] H from ?_)
    refine WP.fg (L' := [some (mR 69), none]) ⟨rfl, trivial⟩ ?_
    exact h1 (by omega)
  · skip
    refine ⟨(show 0 ≤ ((e : Nat) : Int) ∧ ((e : Nat) : Int) < ((80 : Nat) : Int) from by first | omega | (simp (disch := omega) only [w32_i]; omega)), ?_⟩
    refine ⟨fun (c2 : ¬ (H 77 (Int.toNat ((e : Nat) : Int))) = 2) => ?_, fun (c2 : (H 77 (Int.toNat ((e : Nat) : Int))) = 2) => ?_⟩
    · skip
      refine (show W2 o_X12 M_X12_read (inN [64, 66, 67, 68, 69, 70, 72, 73, 74, 75, 76, 77, 78, 79, 80, 81, 82, 83, 84, 85, 86, 87, 88, 89, 90, 91, 92, 93, 104]) (q + 20) Q 196 [some (mR 69), some (mI ((e : Nat) : Int))] [] H from ?_)
      refine w2_vc [154, 195, 196, 202] 400 oo_X12 q_X12_read ?_
      refine (show W2 o_X12 M_X12_read (inN [64, 66, 67, 68, 69, 70, 72, 73, 74, 75, 76, 77, 78, 79, 80, 81, 82, 83, 84, 85, 86, 87, 88, 89, 90, 91, 92, 93, 104]) (q + 20) Q 154 [some (mR 69), some (mI (w32 (((e : Nat) : Int) + 1)))] [] H from ?_)
      rw [w32_nat (by omega)]
      exact h2 (by omega) (by rw [st_nat] at c2; omega)
    · skip
      refine hE (by omega) (by rw [st_nat] at c2; omega) _ (fun x H' hH' => ?_)
      refine (show W2 o_X12 M_X12_read (inN [64, 66, 67, 68, 69, 70, 72, 73, 74, 75, 76, 77, 78, 79, 80, 81, 82, 83, 84, 85, 86, 87, 88, 89, 90, 91, 92, 93, 104]) (q + 20) Q 195 [some (mR 69), some (mI ((e : Nat) : Int))] [mI x, mI ((e : Nat) : Int), mR 84] H' from ?_)
      refine w2_vc [154, 195, 196, 202] 400 oo_X12 q_X12_read ?_
      refine ⟨(show 0 ≤ ((e : Nat) : Int) ∧ ((e : Nat) : Int) < ((80 : Nat) : Int) from by first | omega | (simp (disch := omega) only [w32_i]; omega)), ?_⟩
      refine (show W2 o_X12 M_X12_read (inN [64, 66, 67, 68, 69, 70, 72, 73, 74, 75, 76, 77, 78, 79, 80, 81, 82, 83, 84, 85, 86, 87, 88, 89, 90, 91, 92, 93, 104]) (q + 20) Q 196 [some (mR 69), some (mI ((e : Nat) : Int))] [] (gs H' 79 (Int.toNat ((e : Nat) : Int)) x) from ?_)
      refine w2_vc [154, 195, 196, 202] 400 oo_X12 q_X12_read ?_
      refine (show W2 o_X12 M_X12_read (inN [64, 66, 67, 68, 69, 70, 72, 73, 74, 75, 76, 77, 78, 79, 80, 81, 82, 83, 84, 85, 86, 87, 88, 89, 90, 91, 92, 93, 104]) (q + 20) Q 154 [some (mR 69), some (mI (w32 (((e : Nat) : Int) + 1)))] [] (gs H' 79 (Int.toNat ((e : Nat) : Int)) x) from ?_)
      rw [w32_nat (by omega)]
      rw [st_nat]
      exact h3 (by omega) (by rw [st_nat] at c2; omega) x H' hH'
set_option maxHeartbeats 8000000 in
theorem rd_202 {q : Nat} {H : mG} {Q : Option mV → mG → Prop} (h1 : 0 < H 64 13 → Q (some (mI (H 64 13))) (gs H 64 17 (H 64 14))) (h2 : H 64 13 ≤ 0 → 0 < H 64 15 → Q (some (mI (H 64 15))) (gs H 64 17 (H 64 16))) (h3 : H 64 13 ≤ 0 → H 64 15 ≤ 0 → W2 o_X12 M_X12_read (inN [64, 66, 67, 68, 69, 70, 72, 73, 74, 75, 76, 77, 78, 79, 80, 81, 82, 83, 84, 85, 86, 87, 88, 89, 90, 91, 92, 93, 104]) (q + 20) Q 269 [some (mR 69), some (mI 0)] [] (gs (gs H 64 17 (-1)) 64 18 (H 64 19))) : W2 o_X12 M_X12_read (inN [64, 66, 67, 68, 69, 70, 72, 73, 74, 75, 76, 77, 78, 79, 80, 81, 82, 83, 84, 85, 86, 87, 88, 89, 90, 91, 92, 93, 104]) (q + 20) Q 202 [some (mR 69), none] [] H := by
  refine w2_vc [235, 267, 269] 400 oo_X12 q_X12_read ?_
  refine ⟨fun (c1 : (H 64 13) ≤ 0) => ?_, fun (c1 : 0 < (H 64 13)) => ?_⟩
  · skip
    refine ⟨fun (c2 : (H 64 15) ≤ 0) => ?_, fun (c2 : 0 < (H 64 15)) => ?_⟩
    · skip
      refine (show W2 o_X12 M_X12_read (inN [64, 66, 67, 68, 69, 70, 72, 73, 74, 75, 76, 77, 78, 79, 80, 81, 82, 83, 84, 85, 86, 87, 88, 89, 90, 91, 92, 93, 104]) (q + 20) Q 235 [some (mR 69), none] [] (gs H 64 17 (-1)) from ?_)
      refine w2_vc [235, 267, 269] 400 oo_X12 q_X12_read ?_
      refine ⟨fun (c3 : (H 64 13) ≤ 0) => ?_, fun (c3 : 0 < (H 64 13)) => ?_⟩
      · skip
        refine ⟨fun (c4 : (H 64 15) ≤ 0) => ?_, fun (c4 : 0 < (H 64 15)) => ?_⟩
        · skip
          refine (show W2 o_X12 M_X12_read (inN [64, 66, 67, 68, 69, 70, 72, 73, 74, 75, 76, 77, 78, 79, 80, 81, 82, 83, 84, 85, 86, 87, 88, 89, 90, 91, 92, 93, 104]) (q + 20) Q 267 [some (mR 69), none] [] (gs (gs H 64 17 (-1)) 64 18 (H 64 19)) from ?_)
          refine w2_vc [235, 267, 269] 400 oo_X12 q_X12_read ?_
          refine (show W2 o_X12 M_X12_read (inN [64, 66, 67, 68, 69, 70, 72, 73, 74, 75, 76, 77, 78, 79, 80, 81, 82, 83, 84, 85, 86, 87, 88, 89, 90, 91, 92, 93, 104]) (q + 20) Q 269 [some (mR 69), some (mI 0)] [] (gs (gs H 64 17 (-1)) 64 18 (H 64 19)) from ?_)
          exact h3 (by omega) (by omega)
        · skip
          exfalso; omega
      · skip
        exfalso; omega
    · skip
      refine (show W2 o_X12 M_X12_read (inN [64, 66, 67, 68, 69, 70, 72, 73, 74, 75, 76, 77, 78, 79, 80, 81, 82, 83, 84, 85, 86, 87, 88, 89, 90, 91, 92, 93, 104]) (q + 20) Q 235 [some (mR 69), none] [] (gs H 64 17 (H 64 16)) from ?_)
      refine w2_vc [235, 267, 269] 400 oo_X12 q_X12_read ?_
      refine ⟨fun (c5 : (H 64 13) ≤ 0) => ?_, fun (c5 : 0 < (H 64 13)) => ?_⟩
      · skip
        refine ⟨fun (c6 : (H 64 15) ≤ 0) => ?_, fun (c6 : 0 < (H 64 15)) => ?_⟩
        · skip
          refine (show W2 o_X12 M_X12_read (inN [64, 66, 67, 68, 69, 70, 72, 73, 74, 75, 76, 77, 78, 79, 80, 81, 82, 83, 84, 85, 86, 87, 88, 89, 90, 91, 92, 93, 104]) (q + 20) Q 267 [some (mR 69), none] [] (gs (gs H 64 17 (H 64 16)) 64 18 (H 64 19)) from ?_)
          refine w2_vc [235, 267, 269] 400 oo_X12 q_X12_read ?_
          refine (show W2 o_X12 M_X12_read (inN [64, 66, 67, 68, 69, 70, 72, 73, 74, 75, 76, 77, 78, 79, 80, 81, 82, 83, 84, 85, 86, 87, 88, 89, 90, 91, 92, 93, 104]) (q + 20) Q 269 [some (mR 69), some (mI 0)] [] (gs (gs H 64 17 (H 64 16)) 64 18 (H 64 19)) from ?_)
          exfalso; omega
        · skip
          first | exact h2 (by omega) (by omega) | (exfalso; omega)
      · skip
        first | exact h2 (by omega) (by omega) | (exfalso; omega)
  · skip
    refine (show W2 o_X12 M_X12_read (inN [64, 66, 67, 68, 69, 70, 72, 73, 74, 75, 76, 77, 78, 79, 80, 81, 82, 83, 84, 85, 86, 87, 88, 89, 90, 91, 92, 93, 104]) (q + 20) Q 235 [some (mR 69), none] [] (gs H 64 17 (H 64 14)) from ?_)
    refine w2_vc [235, 267, 269] 400 oo_X12 q_X12_read ?_
    refine ⟨fun (c7 : (H 64 13) ≤ 0) => ?_, fun (c7 : 0 < (H 64 13)) => ?_⟩
    · skip
      refine ⟨fun (c8 : (H 64 15) ≤ 0) => ?_, fun (c8 : 0 < (H 64 15)) => ?_⟩
      · skip
        refine (show W2 o_X12 M_X12_read (inN [64, 66, 67, 68, 69, 70, 72, 73, 74, 75, 76, 77, 78, 79, 80, 81, 82, 83, 84, 85, 86, 87, 88, 89, 90, 91, 92, 93, 104]) (q + 20) Q 267 [some (mR 69), none] [] (gs (gs H 64 17 (H 64 14)) 64 18 (H 64 19)) from ?_)
        refine w2_vc [235, 267, 269] 400 oo_X12 q_X12_read ?_
        refine (show W2 o_X12 M_X12_read (inN [64, 66, 67, 68, 69, 70, 72, 73, 74, 75, 76, 77, 78, 79, 80, 81, 82, 83, 84, 85, 86, 87, 88, 89, 90, 91, 92, 93, 104]) (q + 20) Q 269 [some (mR 69), some (mI 0)] [] (gs (gs H 64 17 (H 64 14)) 64 18 (H 64 19)) from ?_)
        exfalso; omega
      · skip
        first | exact h1 (by omega) | (exfalso; omega)
    · skip
      first | exact h1 (by omega) | (exfalso; omega)
set_option maxHeartbeats 8000000 in
theorem rd_269 {q : Nat} {H : mG} {Q : Option mV → mG → Prop} {j : Nat} (hj : j ≤ 26) (h1 : 26 ≤ j → Q (some (mI 0)) H) (h2 : j < 26 → W2 o_X12 M_X12_read (inN [64, 66, 67, 68, 69, 70, 72, 73, 74, 75, 76, 77, 78, 79, 80, 81, 82, 83, 84, 85, 86, 87, 88, 89, 90, 91, 92, 93, 104]) (q + 20) Q 269 [some (mR 69), some (mI ((j + 1 : Nat) : Int))] [] (gs H 104 j 0)) : W2 o_X12 M_X12_read (inN [64, 66, 67, 68, 69, 70, 72, 73, 74, 75, 76, 77, 78, 79, 80, 81, 82, 83, 84, 85, 86, 87, 88, 89, 90, 91, 92, 93, 104]) (q + 20) Q 269 [some (mR 69), some (mI ((j : Nat) : Int))] [] H := by
  refine w2_vc [269, 282] 400 oo_X12 q_X12_read ?_
  refine ⟨fun (c1 : 26 ≤ ((j : Nat) : Int)) => ?_, fun (c1 : ((j : Nat) : Int) < 26) => ?_⟩
  · skip
    exact h1 (by omega)
  · skip
    refine ⟨(show 0 ≤ ((j : Nat) : Int) ∧ ((j : Nat) : Int) < ((26 : Nat) : Int) from by first | omega | (simp (disch := omega) only [w32_i]; omega)), by omega, ?_⟩
    refine (show W2 o_X12 M_X12_read (inN [64, 66, 67, 68, 69, 70, 72, 73, 74, 75, 76, 77, 78, 79, 80, 81, 82, 83, 84, 85, 86, 87, 88, 89, 90, 91, 92, 93, 104]) (q + 20) Q 282 [some (mR 69), some (mI ((j : Nat) : Int))] [] (gs H 104 (Int.toNat ((j : Nat) : Int)) 0) from ?_)
    refine w2_vc [269, 282] 400 oo_X12 q_X12_read ?_
    refine (show W2 o_X12 M_X12_read (inN [64, 66, 67, 68, 69, 70, 72, 73, 74, 75, 76, 77, 78, 79, 80, 81, 82, 83, 84, 85, 86, 87, 88, 89, 90, 91, 92, 93, 104]) (q + 20) Q 269 [some (mR 69), some (mI (w32 (((j : Nat) : Int) + 1)))] [] (gs H 104 (Int.toNat ((j : Nat) : Int)) 0) from ?_)
    rw [w32_nat (by omega)]
    rw [st_nat]
    exact h2 (by omega)
