/-! ===== printed by wip/whole/gen73.py: the reference tells its text: literal, condition ===== -/
theorem nx_39 (G : mG) : (e_X12_next G) 64 39 = G 64 39 := by
  unfold e_X12_next
  by_cases z : G 64 11 = 600
  · rw [if_neg (fun y => y z), (fx_fail G 2).2.2.2.1]
  · rw [if_pos z, gs_at_ne (by decide)]
set_option maxHeartbeats 8000000 in
theorem lt_00 {D : Nat → Bool} {q : Nat} {H : mG} {Q : Option mV → mG → Prop} (hD : ∀ k, D k = false → inN [64, 72, 73, 74, 75, 76, 77, 78, 79, 80, 81, 82, 83, 84, 85, 86, 87, 88, 89, 90, 91, 92, 93] k = false) {o : Int} {R : mG → Prop} (hf : H 64 13 = 0) (hT : 0 ≤ H 64 11 ∧ H 64 11 ≤ 600) (h1 : (H 67 (Int.toNat (H 64 11))) = 33 → W2 o_X12 M_X12_literal (inN [64, 72, 73, 74, 75, 76, 77, 78, 79, 80, 81, 82, 83, 84, 85, 86, 87, 88, 89, 90, 91, 92, 93]) (q + 7) Q 22 [some (mR 69), some (mI o), some (mI (H 64 39)), some (mI (H 64 39)), some (mI 4), none] [] H) (hE : ¬ (H 67 (Int.toNat (H 64 11))) = 33 → (∀ Q' : Option mV → mG → Prop, (∀ H', R H' → Q' none H') → P2 (inN [64, 72, 73, 74, 75, 76, 77, 78, 79, 80, 81, 82, 83, 84, 85, 86, 87, 88, 89, 90, 91, 92, 93]) (q + 6) M_X12_expression [mR 69] H Q')) (h4 : ∀ H2, R H2 → W2 o_X12 M_X12_literal (inN [64, 72, 73, 74, 75, 76, 77, 78, 79, 80, 81, 82, 83, 84, 85, 86, 87, 88, 89, 90, 91, 92, 93]) (q + 7) Q 83 [some (mR 69), some (mI o), some (mI (H 64 39)), some (mI (H 64 39)), some (mI 4), none] [] H2) : P2 D (q + 7) M_X12_literal [mR 69, mI o] H Q := by
  refine MP.to (D2 := inN [64, 72, 73, 74, 75, 76, 77, 78, 79, 80, 81, 82, 83, 84, 85, 86, 87, 88, 89, 90, 91, 92, 93]) (Q2 := Q) ?_ hD (fun v G' q _ => q)
  refine p2_vc [22, 83] 400 oo_X12 q_X12_literal (by decide) rfl (Nat.le_of_ble_eq_true rfl) ?_
  refine sp_X12_is (by first | omega | (simp (disch := decide) only [gs_ne, gs_at_ne, gs_at]; omega)) ?_
  have c2 := fa_X12_is H 33
  refine ⟨fun (c3 : (f_X12_is H 33) = 0) => ?_, fun (c3 : ¬ (f_X12_is H 33) = 0) => ?_⟩
  · skip
    refine hE (by omega) _ (fun H' hH' => ?_)
    refine (show W2 o_X12 M_X12_literal (inN [64, 72, 73, 74, 75, 76, 77, 78, 79, 80, 81, 82, 83, 84, 85, 86, 87, 88, 89, 90, 91, 92, 93]) (q + 7) Q 83 [some (mR 69), some (mI o), some (mI (H 64 39)), some (mI (H 64 39)), some (mI 4), none] [] H' from ?_)
    exact h4 _ hH'
  · skip
    refine (show W2 o_X12 M_X12_literal (inN [64, 72, 73, 74, 75, 76, 77, 78, 79, 80, 81, 82, 83, 84, 85, 86, 87, 88, 89, 90, 91, 92, 93]) (q + 7) Q 22 [some (mR 69), some (mI o), some (mI (H 64 39)), some (mI (H 64 39)), some (mI 4), none] [] H from ?_)
    exact h1 (by omega)
set_option maxHeartbeats 8000000 in
theorem lt_22 {q : Nat} {H : mG} {Q : Option mV → mG → Prop} {o a1 a2 so : Int} (hT : 0 ≤ H 64 11 ∧ H 64 11 ≤ 600) (h : W2 o_X12 M_X12_literal (inN [64, 72, 73, 74, 75, 76, 77, 78, 79, 80, 81, 82, 83, 84, 85, 86, 87, 88, 89, 90, 91, 92, 93]) (q + 7) Q 37 [some (mR 69), some (mI o), some (mI a1), some (mI a2), some (mI so), some (mI ((e_X12_next H) 64 11))] [] (e_X12_must (e_X12_next H) 2)) : W2 o_X12 M_X12_literal (inN [64, 72, 73, 74, 75, 76, 77, 78, 79, 80, 81, 82, 83, 84, 85, 86, 87, 88, 89, 90, 91, 92, 93]) (q + 7) Q 22 [some (mR 69), some (mI o), some (mI a1), some (mI a2), some (mI so), none] [] H := by
  refine w2_vc [37] 400 oo_X12 q_X12_literal ?_
  refine sp_X12_next (by first | omega | (simp (disch := decide) only [gs_ne, gs_at_ne, gs_at]; omega)) (insub (by decide)) ?_
  have c2 := fx_next H
  refine sp_X12_must (by first | omega | (simp (disch := decide) only [gs_ne, gs_at_ne, gs_at]; omega)) (insub (by decide)) ?_
  have c4 := fx_must (e_X12_next H ) 2
  refine (show W2 o_X12 M_X12_literal (inN [64, 72, 73, 74, 75, 76, 77, 78, 79, 80, 81, 82, 83, 84, 85, 86, 87, 88, 89, 90, 91, 92, 93]) (q + 7) Q 37 [some (mR 69), some (mI o), some (mI a1), some (mI a2), some (mI so), some (mI ((e_X12_next H ) 64 11))] [] (e_X12_must (e_X12_next H ) 2) from ?_)
  exact h
set_option maxHeartbeats 8000000 in
theorem lt_37 {q : Nat} {H : mG} {Q : Option mV → mG → Prop} {o a1 a2 so : Int} {i : Nat} (hi : i ≤ 600) (h1 : 0 < H 64 13 → Q none H) (h2 : H 64 13 ≤ 0 → 7 < H 69 i → W2 o_X12 M_X12_literal (inN [64, 72, 73, 74, 75, 76, 77, 78, 79, 80, 81, 82, 83, 84, 85, 86, 87, 88, 89, 90, 91, 92, 93]) (q + 7) Q 64 [some (mR 69), some (mI o), some (mI a1), some (mI a2), some (mI so), some (mI ((i : Nat) : Int))] [] (e_X12_wrong H 5 ((i : Nat) : Int))) (h3 : H 64 13 ≤ 0 → H 69 i ≤ 7 → W2 o_X12 M_X12_literal (inN [64, 72, 73, 74, 75, 76, 77, 78, 79, 80, 81, 82, 83, 84, 85, 86, 87, 88, 89, 90, 91, 92, 93]) (q + 7) Q 64 [some (mR 69), some (mI o), some (mI a1), some (mI a2), some (mI so), some (mI ((i : Nat) : Int))] [] H) : W2 o_X12 M_X12_literal (inN [64, 72, 73, 74, 75, 76, 77, 78, 79, 80, 81, 82, 83, 84, 85, 86, 87, 88, 89, 90, 91, 92, 93]) (q + 7) Q 37 [some (mR 69), some (mI o), some (mI a1), some (mI a2), some (mI so), some (mI ((i : Nat) : Int))] [] H := by
  refine w2_vc [64] 400 oo_X12 q_X12_literal ?_
  refine ⟨fun (c1 : (H 64 13) ≤ 0) => ?_, fun (c1 : 0 < (H 64 13)) => ?_⟩
  · skip
    refine ⟨(show 0 ≤ ((i : Nat) : Int) ∧ ((i : Nat) : Int) < ((603 : Nat) : Int) from by first | omega | (simp (disch := omega) only [w32_i]; omega)), ?_⟩
    refine ⟨fun (c2 : (H 69 (Int.toNat ((i : Nat) : Int))) ≤ 7) => ?_, fun (c2 : 7 < (H 69 (Int.toNat ((i : Nat) : Int)))) => ?_⟩
    · skip
      refine (show W2 o_X12 M_X12_literal (inN [64, 72, 73, 74, 75, 76, 77, 78, 79, 80, 81, 82, 83, 84, 85, 86, 87, 88, 89, 90, 91, 92, 93]) (q + 7) Q 64 [some (mR 69), some (mI o), some (mI a1), some (mI a2), some (mI so), some (mI ((i : Nat) : Int))] [] H from ?_)
      exact h3 (by omega) (by rw [st_nat] at c2; omega)
    · skip
      refine sp_X12_wrong (by first | omega | (simp (disch := decide) only [gs_ne, gs_at_ne, gs_at]; omega)) (insub (by decide)) ?_
      refine (show W2 o_X12 M_X12_literal (inN [64, 72, 73, 74, 75, 76, 77, 78, 79, 80, 81, 82, 83, 84, 85, 86, 87, 88, 89, 90, 91, 92, 93]) (q + 7) Q 64 [some (mR 69), some (mI o), some (mI a1), some (mI a2), some (mI so), some (mI ((i : Nat) : Int))] [] (e_X12_wrong H 5 ((i : Nat) : Int)) from ?_)
      exact h2 (by omega) (by rw [st_nat] at c2; omega)
  · skip
    exact h1 (by omega)
set_option maxHeartbeats 8000000 in
theorem lt_64 {q : Nat} {H : mG} {Q : Option mV → mG → Prop} {o a1 a2 so : Int} {i : Nat} (hi : i ≤ 600) (hc : 0 ≤ H 64 39 ∧ H 64 39 < 1400) (h : W2 o_X12 M_X12_literal (inN [64, 72, 73, 74, 75, 76, 77, 78, 79, 80, 81, 82, 83, 84, 85, 86, 87, 88, 89, 90, 91, 92, 93]) (q + 7) Q 144 [some (mR 69), some (mI o), some (mI a1), some (mI a2), some (mI so), none] [] (e_X12_emit H 0 (H 69 i))) : W2 o_X12 M_X12_literal (inN [64, 72, 73, 74, 75, 76, 77, 78, 79, 80, 81, 82, 83, 84, 85, 86, 87, 88, 89, 90, 91, 92, 93]) (q + 7) Q 64 [some (mR 69), some (mI o), some (mI a1), some (mI a2), some (mI so), some (mI ((i : Nat) : Int))] [] H := by
  refine w2_vc [144] 400 oo_X12 q_X12_literal ?_
  refine ⟨(show 0 ≤ ((i : Nat) : Int) ∧ ((i : Nat) : Int) < ((603 : Nat) : Int) from by first | omega | (simp (disch := omega) only [w32_i]; omega)), ?_⟩
  refine sp_X12_emit (by first | omega | (simp (disch := decide) only [gs_ne, gs_at_ne, gs_at]; omega)) (insub (by decide)) ?_
  have c2 := fx_emit H 0 (H 69 (Int.toNat ((i : Nat) : Int)))
  refine (show W2 o_X12 M_X12_literal (inN [64, 72, 73, 74, 75, 76, 77, 78, 79, 80, 81, 82, 83, 84, 85, 86, 87, 88, 89, 90, 91, 92, 93]) (q + 7) Q 144 [some (mR 69), some (mI o), some (mI a1), some (mI a2), some (mI so), some (mI ((i : Nat) : Int))] [] (e_X12_emit H 0 (H 69 (Int.toNat ((i : Nat) : Int)))) from ?_)
  refine WP.fg (L' := [some (mR 69), some (mI o), some (mI a1), some (mI a2), some (mI so), none]) ⟨rfl, rfl, rfl, rfl, rfl, trivial⟩ ?_
  rw [st_nat]
  exact h
set_option maxHeartbeats 8000000 in
theorem lt_83 {q : Nat} {H : mG} {Q : Option mV → mG → Prop} {o a1 a2 so : Int} (hT : 0 ≤ H 64 11 ∧ H 64 11 ≤ 600) (hf : 0 ≤ H 64 13) (hk : 0 ≤ (H 67 (Int.toNat (H 64 11))) ∧ (H 67 (Int.toNat (H 64 11))) ≤ 39) (h1 : 0 < H 64 13 → W2 o_X12 M_X12_literal (inN [64, 72, 73, 74, 75, 76, 77, 78, 79, 80, 81, 82, 83, 84, 85, 86, 87, 88, 89, 90, 91, 92, 93]) (q + 7) Q 140 [some (mR 69), some (mI o), some (mI a1), some (mI ((e_X12_next H) 64 39)), some (mI 0), none] [] (e_X12_next H)) (h2 : H 64 13 = 0 → ¬ (11 ≤ (H 67 (Int.toNat (H 64 11))) ∧ (H 67 (Int.toNat (H 64 11))) ≤ 14) → W2 o_X12 M_X12_literal (inN [64, 72, 73, 74, 75, 76, 77, 78, 79, 80, 81, 82, 83, 84, 85, 86, 87, 88, 89, 90, 91, 92, 93]) (q + 7) Q 140 [some (mR 69), some (mI o), some (mI a1), some (mI ((e_X12_next (e_X12_fail H 1)) 64 39)), some (mI (w32 ((H 67 (Int.toNat (H 64 11))) - 11))), none] [] (e_X12_next (e_X12_fail H 1))) (h3 : H 64 13 = 0 → (11 ≤ (H 67 (Int.toNat (H 64 11))) ∧ (H 67 (Int.toNat (H 64 11))) ≤ 14) → W2 o_X12 M_X12_literal (inN [64, 72, 73, 74, 75, 76, 77, 78, 79, 80, 81, 82, 83, 84, 85, 86, 87, 88, 89, 90, 91, 92, 93]) (q + 7) Q 140 [some (mR 69), some (mI o), some (mI a1), some (mI ((e_X12_next H) 64 39)), some (mI (w32 ((H 67 (Int.toNat (H 64 11))) - 11))), none] [] (e_X12_next H)) : W2 o_X12 M_X12_literal (inN [64, 72, 73, 74, 75, 76, 77, 78, 79, 80, 81, 82, 83, 84, 85, 86, 87, 88, 89, 90, 91, 92, 93]) (q + 7) Q 83 [some (mR 69), some (mI o), some (mI a1), some (mI a2), some (mI so), none] [] H := by
  have w11 : w32 ((H 67 (Int.toNat (H 64 11))) - 11) = (H 67 (Int.toNat (H 64 11))) - 11 := w32_i (by omega) (by omega)
  refine w2_vc [140] 400 oo_X12 q_X12_literal ?_
  refine ⟨fun (c1 : (H 64 13) ≤ 0) => ?_, fun (c1 : 0 < (H 64 13)) => ?_⟩
  · skip
    refine ⟨(show 0 ≤ (H 64 11) ∧ (H 64 11) < ((603 : Nat) : Int) from by first | omega | (simp (disch := omega) only [w32_i]; omega)), ?_⟩
    refine ⟨fun (c2 : ¬ (H 64 13) = 0) => ?_, fun (c2 : (H 64 13) = 0) => ?_⟩
    · skip
      refine sp_X12_next (by first | omega | (simp (disch := decide) only [gs_ne, gs_at_ne, gs_at]; omega)) (insub (by decide)) ?_
      have c4 := fx_next H
      refine (show W2 o_X12 M_X12_literal (inN [64, 72, 73, 74, 75, 76, 77, 78, 79, 80, 81, 82, 83, 84, 85, 86, 87, 88, 89, 90, 91, 92, 93]) (q + 7) Q 140 [some (mR 69), some (mI o), some (mI a1), some (mI ((e_X12_next H ) 64 39)), some (mI (w32 ((H 67 (Int.toNat (H 64 11))) - 11))), none] [] (e_X12_next H ) from ?_)
      first | exact h3 (by omega) (by omega) | (exfalso; omega)
    · skip
      refine ⟨fun (c5 : (w32 ((H 67 (Int.toNat (H 64 11))) - 11)) < 0) => ?_, fun (c5 : 0 ≤ (w32 ((H 67 (Int.toNat (H 64 11))) - 11))) => ?_⟩
      · skip
        refine sp_X12_fail (by first | omega | (simp (disch := decide) only [gs_ne, gs_at_ne, gs_at]; omega)) (insub (by decide)) ?_
        have c7 := fx_fail H 1
        refine sp_X12_next (by first | omega | (simp (disch := decide) only [gs_ne, gs_at_ne, gs_at]; omega)) (insub (by decide)) ?_
        have c9 := fx_next (e_X12_fail H 1)
        refine (show W2 o_X12 M_X12_literal (inN [64, 72, 73, 74, 75, 76, 77, 78, 79, 80, 81, 82, 83, 84, 85, 86, 87, 88, 89, 90, 91, 92, 93]) (q + 7) Q 140 [some (mR 69), some (mI o), some (mI a1), some (mI ((e_X12_next (e_X12_fail H 1) ) 64 39)), some (mI (w32 ((H 67 (Int.toNat (H 64 11))) - 11))), none] [] (e_X12_next (e_X12_fail H 1) ) from ?_)
        exact h2 (by omega) (by omega)
      · skip
        refine ⟨fun (c10 : (w32 ((H 67 (Int.toNat (H 64 11))) - 11)) ≤ 3) => ?_, fun (c10 : 3 < (w32 ((H 67 (Int.toNat (H 64 11))) - 11))) => ?_⟩
        · skip
          refine sp_X12_next (by first | omega | (simp (disch := decide) only [gs_ne, gs_at_ne, gs_at]; omega)) (insub (by decide)) ?_
          have c12 := fx_next H
          refine (show W2 o_X12 M_X12_literal (inN [64, 72, 73, 74, 75, 76, 77, 78, 79, 80, 81, 82, 83, 84, 85, 86, 87, 88, 89, 90, 91, 92, 93]) (q + 7) Q 140 [some (mR 69), some (mI o), some (mI a1), some (mI ((e_X12_next H ) 64 39)), some (mI (w32 ((H 67 (Int.toNat (H 64 11))) - 11))), none] [] (e_X12_next H ) from ?_)
          first | exact h3 (by omega) (by omega) | (exfalso; omega)
        · skip
          refine sp_X12_fail (by first | omega | (simp (disch := decide) only [gs_ne, gs_at_ne, gs_at]; omega)) (insub (by decide)) ?_
          have c14 := fx_fail H 1
          refine sp_X12_next (by first | omega | (simp (disch := decide) only [gs_ne, gs_at_ne, gs_at]; omega)) (insub (by decide)) ?_
          have c16 := fx_next (e_X12_fail H 1)
          refine (show W2 o_X12 M_X12_literal (inN [64, 72, 73, 74, 75, 76, 77, 78, 79, 80, 81, 82, 83, 84, 85, 86, 87, 88, 89, 90, 91, 92, 93]) (q + 7) Q 140 [some (mR 69), some (mI o), some (mI a1), some (mI ((e_X12_next (e_X12_fail H 1) ) 64 39)), some (mI (w32 ((H 67 (Int.toNat (H 64 11))) - 11))), none] [] (e_X12_next (e_X12_fail H 1) ) from ?_)
          exact h2 (by omega) (by omega)
  · skip
    refine ⟨fun (c17 : ¬ (H 64 13) = 0) => ?_, fun (c17 : (H 64 13) = 0) => ?_⟩
    · skip
      refine sp_X12_next (by first | omega | (simp (disch := decide) only [gs_ne, gs_at_ne, gs_at]; omega)) (insub (by decide)) ?_
      have c19 := fx_next H
      refine (show W2 o_X12 M_X12_literal (inN [64, 72, 73, 74, 75, 76, 77, 78, 79, 80, 81, 82, 83, 84, 85, 86, 87, 88, 89, 90, 91, 92, 93]) (q + 7) Q 140 [some (mR 69), some (mI o), some (mI a1), some (mI ((e_X12_next H ) 64 39)), some (mI 0), none] [] (e_X12_next H ) from ?_)
      exact h1 (by omega)
    · skip
      refine ⟨fun (c : (0 : Int) < 0) => absurd c (by decide), fun _ => ?_⟩
      refine ⟨fun _ => ?_, fun (c : 3 < (0 : Int)) => absurd c (by decide)⟩
      refine sp_X12_next (by first | omega | (simp (disch := decide) only [gs_ne, gs_at_ne, gs_at]; omega)) (insub (by decide)) ?_
      have c21 := fx_next H
      refine (show W2 o_X12 M_X12_literal (inN [64, 72, 73, 74, 75, 76, 77, 78, 79, 80, 81, 82, 83, 84, 85, 86, 87, 88, 89, 90, 91, 92, 93]) (q + 7) Q 140 [some (mR 69), some (mI o), some (mI a1), some (mI ((e_X12_next H ) 64 39)), some (mI 0), none] [] (e_X12_next H ) from ?_)
      exact h1 (by omega)
set_option maxHeartbeats 8000000 in
theorem lt_140 {q : Nat} {H : mG} {Q : Option mV → mG → Prop} {o a1 a2 so : Int} {R : mG → Prop} (hE : (∀ Q' : Option mV → mG → Prop, (∀ H', R H' → Q' none H') → P2 (inN [64, 72, 73, 74, 75, 76, 77, 78, 79, 80, 81, 82, 83, 84, 85, 86, 87, 88, 89, 90, 91, 92, 93]) (q + 6) M_X12_expression [mR 69] H Q')) (h : ∀ H2, R H2 → W2 o_X12 M_X12_literal (inN [64, 72, 73, 74, 75, 76, 77, 78, 79, 80, 81, 82, 83, 84, 85, 86, 87, 88, 89, 90, 91, 92, 93]) (q + 7) Q 144 [some (mR 69), some (mI o), some (mI a1), some (mI a2), some (mI so), none] [] H2) : W2 o_X12 M_X12_literal (inN [64, 72, 73, 74, 75, 76, 77, 78, 79, 80, 81, 82, 83, 84, 85, 86, 87, 88, 89, 90, 91, 92, 93]) (q + 7) Q 140 [some (mR 69), some (mI o), some (mI a1), some (mI a2), some (mI so), none] [] H := by
  refine w2_vc [144] 400 oo_X12 q_X12_literal ?_
  refine hE _ (fun H' hH' => ?_)
  refine (show W2 o_X12 M_X12_literal (inN [64, 72, 73, 74, 75, 76, 77, 78, 79, 80, 81, 82, 83, 84, 85, 86, 87, 88, 89, 90, 91, 92, 93]) (q + 7) Q 144 [some (mR 69), some (mI o), some (mI a1), some (mI a2), some (mI so), none] [] H' from ?_)
  exact h H' hH'
set_option maxHeartbeats 8000000 in
theorem lt_144 {q : Nat} {H : mG} {Q : Option mV → mG → Prop} {o a1 a2 so : Int} (ho : o = 0 ∨ o = 1) (hs : 0 ≤ H 64 19 ∧ H 64 19 ≤ 1) (hl : 0 ≤ H 85 (Int.toNat (H 64 19)) ∧ H 85 (Int.toNat (H 64 19)) < 600) (h1 : 0 < H 64 13 → Q none H) (h2 : H 64 13 ≤ 0 → Q none (gs (gs (gs (gs (gs (gs H 86 (Int.toNat (w32 ((w32 (600 * (H 64 19))) + (H 85 (Int.toNat (H 64 19)))))) so) 87 (Int.toNat (w32 ((w32 (600 * (H 64 19))) + (H 85 (Int.toNat (H 64 19)))))) a1) 88 (Int.toNat (w32 ((w32 (600 * (H 64 19))) + (H 85 (Int.toNat (H 64 19)))))) a2) 89 (Int.toNat (w32 ((w32 (600 * (H 64 19))) + (H 85 (Int.toNat (H 64 19)))))) (H 64 39)) 90 (Int.toNat (w32 ((w32 (600 * (H 64 19))) + (H 85 (Int.toNat (H 64 19)))))) o) 85 (Int.toNat (H 64 19)) (w32 ((H 85 (Int.toNat (H 64 19))) + 1)))) : W2 o_X12 M_X12_literal (inN [64, 72, 73, 74, 75, 76, 77, 78, 79, 80, 81, 82, 83, 84, 85, 86, 87, 88, 89, 90, 91, 92, 93]) (q + 7) Q 144 [some (mR 69), some (mI o), some (mI a1), some (mI a2), some (mI so), none] [] H := by
  refine w2_vc [181, 189, 197, 208, 216, 226, 229] 400 oo_X12 q_X12_literal ?_
  refine ⟨fun (c1 : (H 64 13) ≤ 0) => ?_, fun (c1 : 0 < (H 64 13)) => ?_⟩
  · skip
    refine ⟨(show 0 ≤ (H 64 19) ∧ (H 64 19) < ((2 : Nat) : Int) from by first | omega | (simp (disch := omega) only [w32_i]; omega)), ?_⟩
    refine ⟨(show 0 ≤ (w32 ((w32 (600 * (H 64 19))) + (H 85 (Int.toNat (H 64 19))))) ∧ (w32 ((w32 (600 * (H 64 19))) + (H 85 (Int.toNat (H 64 19))))) < ((1200 : Nat) : Int) from by first | omega | (rw [show (w32 ((w32 (600 * (H 64 19))) + (H 85 (Int.toNat (H 64 19))))) = (600 * (H 64 19)) + (H 85 (Int.toNat (H 64 19))) from by rw [w32_i (x := (600 * (H 64 19))) (by omega) (by omega), w32_i (x := (600 * (H 64 19)) + (H 85 (Int.toNat (H 64 19)))) (by omega) (by omega)]]; omega) | (simp (disch := omega) only [w32_i]; omega)), ?_⟩
    refine (show W2 o_X12 M_X12_literal (inN [64, 72, 73, 74, 75, 76, 77, 78, 79, 80, 81, 82, 83, 84, 85, 86, 87, 88, 89, 90, 91, 92, 93]) (q + 7) Q 181 [some (mR 69), some (mI o), some (mI a1), some (mI a2), some (mI so), some (mI (w32 ((w32 (600 * (H 64 19))) + (H 85 (Int.toNat (H 64 19))))))] [] (gs H 86 (Int.toNat (w32 ((w32 (600 * (H 64 19))) + (H 85 (Int.toNat (H 64 19)))))) so) from ?_)
    refine w2_vc [181, 189, 197, 208, 216, 226, 229] 400 oo_X12 q_X12_literal ?_
    refine ⟨(show 0 ≤ (w32 ((w32 (600 * (H 64 19))) + (H 85 (Int.toNat (H 64 19))))) ∧ (w32 ((w32 (600 * (H 64 19))) + (H 85 (Int.toNat (H 64 19))))) < ((1200 : Nat) : Int) from by first | omega | (rw [show (w32 ((w32 (600 * (H 64 19))) + (H 85 (Int.toNat (H 64 19))))) = (600 * (H 64 19)) + (H 85 (Int.toNat (H 64 19))) from by rw [w32_i (x := (600 * (H 64 19))) (by omega) (by omega), w32_i (x := (600 * (H 64 19)) + (H 85 (Int.toNat (H 64 19)))) (by omega) (by omega)]]; omega) | (simp (disch := omega) only [w32_i]; omega)), ?_⟩
    refine (show W2 o_X12 M_X12_literal (inN [64, 72, 73, 74, 75, 76, 77, 78, 79, 80, 81, 82, 83, 84, 85, 86, 87, 88, 89, 90, 91, 92, 93]) (q + 7) Q 189 [some (mR 69), some (mI o), some (mI a1), some (mI a2), some (mI so), some (mI (w32 ((w32 (600 * (H 64 19))) + (H 85 (Int.toNat (H 64 19))))))] [] (gs (gs H 86 (Int.toNat (w32 ((w32 (600 * (H 64 19))) + (H 85 (Int.toNat (H 64 19)))))) so) 87 (Int.toNat (w32 ((w32 (600 * (H 64 19))) + (H 85 (Int.toNat (H 64 19)))))) a1) from ?_)
    refine w2_vc [181, 189, 197, 208, 216, 226, 229] 400 oo_X12 q_X12_literal ?_
    refine ⟨(show 0 ≤ (w32 ((w32 (600 * (H 64 19))) + (H 85 (Int.toNat (H 64 19))))) ∧ (w32 ((w32 (600 * (H 64 19))) + (H 85 (Int.toNat (H 64 19))))) < ((1200 : Nat) : Int) from by first | omega | (rw [show (w32 ((w32 (600 * (H 64 19))) + (H 85 (Int.toNat (H 64 19))))) = (600 * (H 64 19)) + (H 85 (Int.toNat (H 64 19))) from by rw [w32_i (x := (600 * (H 64 19))) (by omega) (by omega), w32_i (x := (600 * (H 64 19)) + (H 85 (Int.toNat (H 64 19)))) (by omega) (by omega)]]; omega) | (simp (disch := omega) only [w32_i]; omega)), ?_⟩
    refine (show W2 o_X12 M_X12_literal (inN [64, 72, 73, 74, 75, 76, 77, 78, 79, 80, 81, 82, 83, 84, 85, 86, 87, 88, 89, 90, 91, 92, 93]) (q + 7) Q 197 [some (mR 69), some (mI o), some (mI a1), some (mI a2), some (mI so), some (mI (w32 ((w32 (600 * (H 64 19))) + (H 85 (Int.toNat (H 64 19))))))] [] (gs (gs (gs H 86 (Int.toNat (w32 ((w32 (600 * (H 64 19))) + (H 85 (Int.toNat (H 64 19)))))) so) 87 (Int.toNat (w32 ((w32 (600 * (H 64 19))) + (H 85 (Int.toNat (H 64 19)))))) a1) 88 (Int.toNat (w32 ((w32 (600 * (H 64 19))) + (H 85 (Int.toNat (H 64 19)))))) a2) from ?_)
    refine w2_vc [181, 189, 197, 208, 216, 226, 229] 400 oo_X12 q_X12_literal ?_
    refine ⟨(show 0 ≤ (w32 ((w32 (600 * (H 64 19))) + (H 85 (Int.toNat (H 64 19))))) ∧ (w32 ((w32 (600 * (H 64 19))) + (H 85 (Int.toNat (H 64 19))))) < ((1200 : Nat) : Int) from by first | omega | (rw [show (w32 ((w32 (600 * (H 64 19))) + (H 85 (Int.toNat (H 64 19))))) = (600 * (H 64 19)) + (H 85 (Int.toNat (H 64 19))) from by rw [w32_i (x := (600 * (H 64 19))) (by omega) (by omega), w32_i (x := (600 * (H 64 19)) + (H 85 (Int.toNat (H 64 19)))) (by omega) (by omega)]]; omega) | (simp (disch := omega) only [w32_i]; omega)), ?_⟩
    refine (show W2 o_X12 M_X12_literal (inN [64, 72, 73, 74, 75, 76, 77, 78, 79, 80, 81, 82, 83, 84, 85, 86, 87, 88, 89, 90, 91, 92, 93]) (q + 7) Q 208 [some (mR 69), some (mI o), some (mI a1), some (mI a2), some (mI so), some (mI (w32 ((w32 (600 * (H 64 19))) + (H 85 (Int.toNat (H 64 19))))))] [] (gs (gs (gs (gs H 86 (Int.toNat (w32 ((w32 (600 * (H 64 19))) + (H 85 (Int.toNat (H 64 19)))))) so) 87 (Int.toNat (w32 ((w32 (600 * (H 64 19))) + (H 85 (Int.toNat (H 64 19)))))) a1) 88 (Int.toNat (w32 ((w32 (600 * (H 64 19))) + (H 85 (Int.toNat (H 64 19)))))) a2) 89 (Int.toNat (w32 ((w32 (600 * (H 64 19))) + (H 85 (Int.toNat (H 64 19)))))) (H 64 39)) from ?_)
    refine w2_vc [181, 189, 197, 208, 216, 226, 229] 400 oo_X12 q_X12_literal ?_
    refine ⟨(show 0 ≤ (w32 ((w32 (600 * (H 64 19))) + (H 85 (Int.toNat (H 64 19))))) ∧ (w32 ((w32 (600 * (H 64 19))) + (H 85 (Int.toNat (H 64 19))))) < ((1200 : Nat) : Int) from by first | omega | (rw [show (w32 ((w32 (600 * (H 64 19))) + (H 85 (Int.toNat (H 64 19))))) = (600 * (H 64 19)) + (H 85 (Int.toNat (H 64 19))) from by rw [w32_i (x := (600 * (H 64 19))) (by omega) (by omega), w32_i (x := (600 * (H 64 19)) + (H 85 (Int.toNat (H 64 19)))) (by omega) (by omega)]]; omega) | (simp (disch := omega) only [w32_i]; omega)), by omega, ?_⟩
    refine (show W2 o_X12 M_X12_literal (inN [64, 72, 73, 74, 75, 76, 77, 78, 79, 80, 81, 82, 83, 84, 85, 86, 87, 88, 89, 90, 91, 92, 93]) (q + 7) Q 216 [some (mR 69), some (mI o), some (mI a1), some (mI a2), some (mI so), some (mI (w32 ((w32 (600 * (H 64 19))) + (H 85 (Int.toNat (H 64 19))))))] [] (gs (gs (gs (gs (gs H 86 (Int.toNat (w32 ((w32 (600 * (H 64 19))) + (H 85 (Int.toNat (H 64 19)))))) so) 87 (Int.toNat (w32 ((w32 (600 * (H 64 19))) + (H 85 (Int.toNat (H 64 19)))))) a1) 88 (Int.toNat (w32 ((w32 (600 * (H 64 19))) + (H 85 (Int.toNat (H 64 19)))))) a2) 89 (Int.toNat (w32 ((w32 (600 * (H 64 19))) + (H 85 (Int.toNat (H 64 19)))))) (H 64 39)) 90 (Int.toNat (w32 ((w32 (600 * (H 64 19))) + (H 85 (Int.toNat (H 64 19)))))) o) from ?_)
    refine w2_vc [181, 189, 197, 208, 216, 226, 229] 400 oo_X12 q_X12_literal ?_
    refine ⟨(show 0 ≤ (H 64 19) ∧ (H 64 19) < ((2 : Nat) : Int) from by first | omega | (simp (disch := omega) only [w32_i]; omega)), ?_⟩
    refine (show W2 o_X12 M_X12_literal (inN [64, 72, 73, 74, 75, 76, 77, 78, 79, 80, 81, 82, 83, 84, 85, 86, 87, 88, 89, 90, 91, 92, 93]) (q + 7) Q 226 [some (mR 69), some (mI o), some (mI a1), some (mI a2), some (mI so), some (mI (w32 ((w32 (600 * (H 64 19))) + (H 85 (Int.toNat (H 64 19))))))] [mI (H 85 (Int.toNat (H 64 19))), mI (H 64 19), mR 90] (gs (gs (gs (gs (gs H 86 (Int.toNat (w32 ((w32 (600 * (H 64 19))) + (H 85 (Int.toNat (H 64 19)))))) so) 87 (Int.toNat (w32 ((w32 (600 * (H 64 19))) + (H 85 (Int.toNat (H 64 19)))))) a1) 88 (Int.toNat (w32 ((w32 (600 * (H 64 19))) + (H 85 (Int.toNat (H 64 19)))))) a2) 89 (Int.toNat (w32 ((w32 (600 * (H 64 19))) + (H 85 (Int.toNat (H 64 19)))))) (H 64 39)) 90 (Int.toNat (w32 ((w32 (600 * (H 64 19))) + (H 85 (Int.toNat (H 64 19)))))) o) from ?_)
    refine w2_vc [181, 189, 197, 208, 216, 226, 229] 400 oo_X12 q_X12_literal ?_
    refine ⟨(show 0 ≤ (H 64 19) ∧ (H 64 19) < ((2 : Nat) : Int) from by first | omega | (simp (disch := omega) only [w32_i]; omega)), ?_⟩
    refine (show W2 o_X12 M_X12_literal (inN [64, 72, 73, 74, 75, 76, 77, 78, 79, 80, 81, 82, 83, 84, 85, 86, 87, 88, 89, 90, 91, 92, 93]) (q + 7) Q 229 [some (mR 69), some (mI o), some (mI a1), some (mI a2), some (mI so), some (mI (w32 ((w32 (600 * (H 64 19))) + (H 85 (Int.toNat (H 64 19))))))] [] (gs (gs (gs (gs (gs (gs H 86 (Int.toNat (w32 ((w32 (600 * (H 64 19))) + (H 85 (Int.toNat (H 64 19)))))) so) 87 (Int.toNat (w32 ((w32 (600 * (H 64 19))) + (H 85 (Int.toNat (H 64 19)))))) a1) 88 (Int.toNat (w32 ((w32 (600 * (H 64 19))) + (H 85 (Int.toNat (H 64 19)))))) a2) 89 (Int.toNat (w32 ((w32 (600 * (H 64 19))) + (H 85 (Int.toNat (H 64 19)))))) (H 64 39)) 90 (Int.toNat (w32 ((w32 (600 * (H 64 19))) + (H 85 (Int.toNat (H 64 19)))))) o) 85 (Int.toNat (H 64 19)) (w32 ((H 85 (Int.toNat (H 64 19))) + 1))) from ?_)
    refine w2_vc [181, 189, 197, 208, 216, 226, 229] 400 oo_X12 q_X12_literal ?_
    exact h2 (by omega)
  · skip
    exact h1 (by omega)
set_option maxHeartbeats 8000000 in
theorem lt_144b {q : Nat} {H : mG} {Q : Option mV → mG → Prop} {o a1 a2 so : Int} (hf : 0 < H 64 13) (h : Q none H) : W2 o_X12 M_X12_literal (inN [64, 72, 73, 74, 75, 76, 77, 78, 79, 80, 81, 82, 83, 84, 85, 86, 87, 88, 89, 90, 91, 92, 93]) (q + 7) Q 144 [some (mR 69), some (mI o), some (mI a1), some (mI a2), some (mI so), none] [] H := by
  refine w2_vc [152] 400 oo_X12 q_X12_literal ?_
  refine ⟨fun (c1 : (H 64 13) ≤ 0) => ?_, fun (c1 : 0 < (H 64 13)) => ?_⟩
  · skip
    refine (show W2 o_X12 M_X12_literal (inN [64, 72, 73, 74, 75, 76, 77, 78, 79, 80, 81, 82, 83, 84, 85, 86, 87, 88, 89, 90, 91, 92, 93]) (q + 7) Q 152 [some (mR 69), some (mI o), some (mI a1), some (mI a2), some (mI so), none] [] H from ?_)
    exfalso; omega
  · skip
    exact h
set_option maxHeartbeats 8000000 in
theorem lt_83b {q : Nat} {H : mG} {Q : Option mV → mG → Prop} {o a1 a2 so : Int} (hT : 0 ≤ H 64 11 ∧ H 64 11 ≤ 600) (hf : 0 < H 64 13) (h : W2 o_X12 M_X12_literal (inN [64, 72, 73, 74, 75, 76, 77, 78, 79, 80, 81, 82, 83, 84, 85, 86, 87, 88, 89, 90, 91, 92, 93]) (q + 7) Q 140 [some (mR 69), some (mI o), some (mI a1), some (mI ((e_X12_next H) 64 39)), some (mI 0), none] [] (e_X12_next H)) : W2 o_X12 M_X12_literal (inN [64, 72, 73, 74, 75, 76, 77, 78, 79, 80, 81, 82, 83, 84, 85, 86, 87, 88, 89, 90, 91, 92, 93]) (q + 7) Q 83 [some (mR 69), some (mI o), some (mI a1), some (mI a2), some (mI so), none] [] H := by
  refine w2_vc [140] 400 oo_X12 q_X12_literal ?_
  refine ⟨fun (c1 : (H 64 13) ≤ 0) => ?_, fun (c1 : 0 < (H 64 13)) => ?_⟩
  · skip
    exfalso; first | omega | (rw [w32_i (by omega) (by omega)] at c1; omega) | (simp (disch := omega) only [w32_i] at *; omega)
  · skip
    refine ⟨fun (c2 : ¬ (H 64 13) = 0) => ?_, fun (c2 : (H 64 13) = 0) => ?_⟩
    · skip
      refine sp_X12_next (by first | omega | (simp (disch := decide) only [gs_ne, gs_at_ne, gs_at]; omega)) (insub (by decide)) ?_
      have c4 := fx_next H
      refine (show W2 o_X12 M_X12_literal (inN [64, 72, 73, 74, 75, 76, 77, 78, 79, 80, 81, 82, 83, 84, 85, 86, 87, 88, 89, 90, 91, 92, 93]) (q + 7) Q 140 [some (mR 69), some (mI o), some (mI a1), some (mI ((e_X12_next H ) 64 39)), some (mI 0), none] [] (e_X12_next H ) from ?_)
      first | exact h | (exfalso; omega)
    · skip
      exfalso; first | omega | (rw [w32_i (by omega) (by omega)] at c4; omega) | (simp (disch := omega) only [w32_i] at *; omega)
set_option maxHeartbeats 8000000 in
theorem cd_0 {D : Nat → Bool} {q : Nat} {H : mG} {Q : Option mV → mG → Prop} (hD : ∀ k, D k = false → inN [64, 72, 73, 74, 75, 76, 77, 78, 79, 80, 81, 82, 83, 84, 85, 86, 87, 88, 89, 90, 91, 92, 93] k = false) (h : W2 o_X12 M_X12_condition (inN [64, 72, 73, 74, 75, 76, 77, 78, 79, 80, 81, 82, 83, 84, 85, 86, 87, 88, 89, 90, 91, 92, 93]) (q + 9) Q 4 [some (mR 69), some (mI 1), some (mI 1)] [] H) : P2 D (q + 9) M_X12_condition [mR 69] H Q := by
  refine MP.to (D2 := inN [64, 72, 73, 74, 75, 76, 77, 78, 79, 80, 81, 82, 83, 84, 85, 86, 87, 88, 89, 90, 91, 92, 93]) (Q2 := Q) ?_ hD (fun v G' q _ => q)
  refine p2_vc [4] 400 oo_X12 q_X12_condition (by decide) rfl (Nat.le_of_ble_eq_true rfl) ?_
  refine (show W2 o_X12 M_X12_condition (inN [64, 72, 73, 74, 75, 76, 77, 78, 79, 80, 81, 82, 83, 84, 85, 86, 87, 88, 89, 90, 91, 92, 93]) (q + 9) Q 4 [some (mR 69), some (mI 1), some (mI 1)] [] H from ?_)
  exact h
set_option maxHeartbeats 8000000 in
theorem cd_4 {q : Nat} {H : mG} {Q : Option mV → mG → Prop} {o : Int} {R : mG → Prop} (hf : H 64 13 = 0) (hL : (∀ Q' : Option mV → mG → Prop, (∀ H', R H' → Q' none H') → P2 (inN [64, 72, 73, 74, 75, 76, 77, 78, 79, 80, 81, 82, 83, 84, 85, 86, 87, 88, 89, 90, 91, 92, 93]) (q + 8) M_X12_literal [mR 69, mI o] H Q')) (h : ∀ H2, R H2 → W2 o_X12 M_X12_condition (inN [64, 72, 73, 74, 75, 76, 77, 78, 79, 80, 81, 82, 83, 84, 85, 86, 87, 88, 89, 90, 91, 92, 93]) (q + 9) Q 20 [some (mR 69), some (mI o), some (mI 1)] [] H2) : W2 o_X12 M_X12_condition (inN [64, 72, 73, 74, 75, 76, 77, 78, 79, 80, 81, 82, 83, 84, 85, 86, 87, 88, 89, 90, 91, 92, 93]) (q + 9) Q 4 [some (mR 69), some (mI o), some (mI 1)] [] H := by
  refine w2_vc [20] 400 oo_X12 q_X12_condition ?_
  refine ⟨fun (c : (1 : Int) = 0) => absurd c (by decide), fun _ => ?_⟩
  refine ⟨fun (c1 : ¬ (H 64 13) = 0) => ?_, fun (c1 : (H 64 13) = 0) => ?_⟩
  · skip
    exfalso; omega
  · skip
    refine hL _ (fun H' hH' => ?_)
    refine (show W2 o_X12 M_X12_condition (inN [64, 72, 73, 74, 75, 76, 77, 78, 79, 80, 81, 82, 83, 84, 85, 86, 87, 88, 89, 90, 91, 92, 93]) (q + 9) Q 20 [some (mR 69), some (mI o), some (mI 1)] [] H' from ?_)
    exact h H' hH'
set_option maxHeartbeats 8000000 in
theorem cd_4b {q : Nat} {H : mG} {Q : Option mV → mG → Prop} {o : Int} (hf : ¬ H 64 13 = 0) (h : Q none H) : W2 o_X12 M_X12_condition (inN [64, 72, 73, 74, 75, 76, 77, 78, 79, 80, 81, 82, 83, 84, 85, 86, 87, 88, 89, 90, 91, 92, 93]) (q + 9) Q 4 [some (mR 69), some (mI o), some (mI 1)] [] H := by
  refine w2_vc [15] 400 oo_X12 q_X12_condition ?_
  refine ⟨fun (c : (1 : Int) = 0) => absurd c (by decide), fun _ => ?_⟩
  refine ⟨fun (c1 : ¬ (H 64 13) = 0) => ?_, fun (c1 : (H 64 13) = 0) => ?_⟩
  · skip
    exact h
  · skip
    refine (show W2 o_X12 M_X12_condition (inN [64, 72, 73, 74, 75, 76, 77, 78, 79, 80, 81, 82, 83, 84, 85, 86, 87, 88, 89, 90, 91, 92, 93]) (q + 9) Q 15 [some (mR 69), some (mI o), some (mI 1)] [] H from ?_)
    exfalso; omega
set_option maxHeartbeats 8000000 in
theorem cd_20 {q : Nat} {H : mG} {Q : Option mV → mG → Prop} {o : Int} (hT : 0 ≤ H 64 11 ∧ H 64 11 ≤ 600) (h2 : H 64 13 = 0 → (H 67 (Int.toNat (H 64 11))) = 31 → W2 o_X12 M_X12_condition (inN [64, 72, 73, 74, 75, 76, 77, 78, 79, 80, 81, 82, 83, 84, 85, 86, 87, 88, 89, 90, 91, 92, 93]) (q + 9) Q 4 [some (mR 69), some (mI 1), some (mI 1)] [] (e_X12_next H)) (h3 : H 64 13 = 0 → (H 67 (Int.toNat (H 64 11))) = 32 → W2 o_X12 M_X12_condition (inN [64, 72, 73, 74, 75, 76, 77, 78, 79, 80, 81, 82, 83, 84, 85, 86, 87, 88, 89, 90, 91, 92, 93]) (q + 9) Q 4 [some (mR 69), some (mI 0), some (mI 1)] [] (e_X12_next H)) (h4 : ∀ x : Int, ¬ (H 64 13 = 0 ∧ ((H 67 (Int.toNat (H 64 11))) = 31 ∨ (H 67 (Int.toNat (H 64 11))) = 32)) → W2 o_X12 M_X12_condition (inN [64, 72, 73, 74, 75, 76, 77, 78, 79, 80, 81, 82, 83, 84, 85, 86, 87, 88, 89, 90, 91, 92, 93]) (q + 9) Q 4 [some (mR 69), some (mI x), some (mI 0)] [] H) : W2 o_X12 M_X12_condition (inN [64, 72, 73, 74, 75, 76, 77, 78, 79, 80, 81, 82, 83, 84, 85, 86, 87, 88, 89, 90, 91, 92, 93]) (q + 9) Q 20 [some (mR 69), some (mI o), some (mI 1)] [] H := by
  refine w2_vc [4] 400 oo_X12 q_X12_condition ?_
  refine sp_X12_is (by first | omega | (simp (disch := decide) only [gs_ne, gs_at_ne, gs_at]; omega)) ?_
  have c2 := fa_X12_is H 31
  refine ⟨fun (c3 : ¬ (f_X12_is H 31) = 0) => ?_, fun (c3 : (f_X12_is H 31) = 0) => ?_⟩
  · skip
    refine ⟨fun (c : (1 : Int) = 0) => absurd c (by decide), fun _ => ?_⟩
    refine sp_X12_next (by first | omega | (simp (disch := decide) only [gs_ne, gs_at_ne, gs_at]; omega)) (insub (by decide)) ?_
    have c5 := fx_next H
    refine (show W2 o_X12 M_X12_condition (inN [64, 72, 73, 74, 75, 76, 77, 78, 79, 80, 81, 82, 83, 84, 85, 86, 87, 88, 89, 90, 91, 92, 93]) (q + 9) Q 4 [some (mR 69), some (mI (f_X12_is H 31)), some (mI 1)] [] (e_X12_next H ) from ?_)
    first | (rw [show f_X12_is H 31 = 1 from by omega]; exact h2 (by omega) (by omega)) | (rw [show f_X12_is H 31 = 0 from by omega]; exact h3 (by omega) (by omega)) | (exfalso; omega)
  · skip
    refine sp_X12_is (by first | omega | (simp (disch := decide) only [gs_ne, gs_at_ne, gs_at]; omega)) ?_
    have c7 := fa_X12_is H 32
    refine ⟨fun (c8 : (f_X12_is H 32) = 0) => ?_, fun (c8 : ¬ (f_X12_is H 32) = 0) => ?_⟩
    · skip
      refine ⟨fun _ => ?_, fun (c : ¬ (0 : Int) = 0) => absurd c (by decide)⟩
      refine (show W2 o_X12 M_X12_condition (inN [64, 72, 73, 74, 75, 76, 77, 78, 79, 80, 81, 82, 83, 84, 85, 86, 87, 88, 89, 90, 91, 92, 93]) (q + 9) Q 4 [some (mR 69), some (mI (f_X12_is H 31)), some (mI 0)] [] H from ?_)
      exact h4 _ (by omega)
    · skip
      refine ⟨fun (c : (1 : Int) = 0) => absurd c (by decide), fun _ => ?_⟩
      refine sp_X12_next (by first | omega | (simp (disch := decide) only [gs_ne, gs_at_ne, gs_at]; omega)) (insub (by decide)) ?_
      have c10 := fx_next H
      refine (show W2 o_X12 M_X12_condition (inN [64, 72, 73, 74, 75, 76, 77, 78, 79, 80, 81, 82, 83, 84, 85, 86, 87, 88, 89, 90, 91, 92, 93]) (q + 9) Q 4 [some (mR 69), some (mI (f_X12_is H 31)), some (mI 1)] [] (e_X12_next H ) from ?_)
      first | (rw [show f_X12_is H 31 = 1 from by omega]; exact h2 (by omega) (by omega)) | (rw [show f_X12_is H 31 = 0 from by omega]; exact h3 (by omega) (by omega)) | (exfalso; omega)
set_option maxHeartbeats 8000000 in
theorem cd_4c {q : Nat} {H : mG} {Q : Option mV → mG → Prop} {o : Int} (h : Q none H) : W2 o_X12 M_X12_condition (inN [64, 72, 73, 74, 75, 76, 77, 78, 79, 80, 81, 82, 83, 84, 85, 86, 87, 88, 89, 90, 91, 92, 93]) (q + 9) Q 4 [some (mR 69), some (mI o), some (mI 0)] [] H := by
  refine w2_vc [] 400 oo_X12 q_X12_condition ?_
  refine ⟨fun _ => ?_, fun (c : ¬ (0 : Int) = 0) => absurd c (by decide)⟩
  exact h
