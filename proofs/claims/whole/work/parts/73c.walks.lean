/-! ===== printed by wip/whole/gen73.py: the reference tells its text: a clause ===== -/
set_option maxHeartbeats 8000000 in
theorem tl_0 {D : Nat → Bool} {q : Nat} {H : mG} {Q : Option mV → mG → Prop} (hD : ∀ k, D k = false → inN [64, 72, 73, 74, 75, 76, 77, 78, 79, 80, 81, 82, 83, 84, 85, 86, 87, 88, 89, 90, 91, 92, 93] k = false) {cp : Int} (hf : H 64 13 = 0) (hT : 0 ≤ H 64 11 ∧ H 64 11 ≤ 600) (hs : 0 ≤ H 64 19 ∧ H 64 19 ≤ 1) (hm : 0 ≤ H 76 (Int.toNat (H 64 19)) ∧ H 76 (Int.toNat (H 64 19)) ≤ 40) (h1 : ¬ ((H 67 (Int.toNat (H 64 11))) = 24 ∨ (H 67 (Int.toNat (H 64 11))) = 27 ∨ (H 67 (Int.toNat (H 64 11))) = 28 ∨ (H 67 (Int.toNat (H 64 11))) = 29) → Q none (e_X12_fail H 1)) (h2 : ((H 67 (Int.toNat (H 64 11))) = 24 ∨ (H 67 (Int.toNat (H 64 11))) = 27 ∨ (H 67 (Int.toNat (H 64 11))) = 28 ∨ (H 67 (Int.toNat (H 64 11))) = 29) → H 76 (Int.toNat (H 64 19)) = 40 → Q none (e_X12_fail H 2)) (h3 : ((H 67 (Int.toNat (H 64 11))) = 24 ∨ (H 67 (Int.toNat (H 64 11))) = 27 ∨ (H 67 (Int.toNat (H 64 11))) = 28 ∨ (H 67 (Int.toNat (H 64 11))) = 29) → ¬ H 76 (Int.toNat (H 64 19)) = 40 → W2 o_X12 M_X12_tellClause (inN [64, 72, 73, 74, 75, 76, 77, 78, 79, 80, 81, 82, 83, 84, 85, 86, 87, 88, 89, 90, 91, 92, 93]) (q + 12) Q 81 [some (mR 69), some (mI cp), none, none, none, none, none, none] [] H) : P2 D (q + 12) M_X12_tellClause [mR 69, mI cp] H Q := by
  refine MP.to (D2 := inN [64, 72, 73, 74, 75, 76, 77, 78, 79, 80, 81, 82, 83, 84, 85, 86, 87, 88, 89, 90, 91, 92, 93]) (Q2 := Q) ?_ hD (fun v G' q _ => q)
  refine p2_vc [81] 400 oo_X12 q_X12_tellClause (by decide) rfl (Nat.le_of_ble_eq_true rfl) ?_
  refine sp_X12_is (by first | omega | (simp (disch := decide) only [gs_ne, gs_at_ne, gs_at]; omega)) ?_
  have c2 := fa_X12_is H 24
  refine ⟨fun (c3 : ¬ (f_X12_is H 24) = 0) => ?_, fun (c3 : (f_X12_is H 24) = 0) => ?_⟩
  · skip
    refine ⟨fun _ => ?_, fun (c : (1 : Int) = 0) => absurd c (by decide)⟩
    refine ⟨(show 0 ≤ (H 64 19) ∧ (H 64 19) < ((2 : Nat) : Int) from by first | omega | (simp (disch := omega) only [w32_i]; omega)), ?_⟩
    refine ⟨fun (c4 : ¬ (H 76 (Int.toNat (H 64 19))) = 40) => ?_, fun (c4 : (H 76 (Int.toNat (H 64 19))) = 40) => ?_⟩
    · skip
      refine ⟨fun (c5 : (H 64 13) ≤ 0) => ?_, fun (c5 : 0 < (H 64 13)) => ?_⟩
      · skip
        refine (show W2 o_X12 M_X12_tellClause (inN [64, 72, 73, 74, 75, 76, 77, 78, 79, 80, 81, 82, 83, 84, 85, 86, 87, 88, 89, 90, 91, 92, 93]) (q + 12) Q 81 [some (mR 69), some (mI cp), some (mI 1), none, none, none, none, none] [] H from ?_)
        refine WP.fg (L' := [some (mR 69), some (mI cp), none, none, none, none, none, none]) ⟨rfl, rfl, trivial⟩ ?_
        exact h3 (by omega) (by omega)
      · skip
        exfalso; omega
    · skip
      refine sp_X12_fail (by first | omega | (simp (disch := decide) only [gs_ne, gs_at_ne, gs_at]; omega)) (insub (by decide)) ?_
      have c7 := fx_fail H 2
      refine ⟨fun (c8 : ((e_X12_fail H 2) 64 13) ≤ 0) => ?_, fun (c8 : 0 < ((e_X12_fail H 2) 64 13)) => ?_⟩
      · skip
        refine (show W2 o_X12 M_X12_tellClause (inN [64, 72, 73, 74, 75, 76, 77, 78, 79, 80, 81, 82, 83, 84, 85, 86, 87, 88, 89, 90, 91, 92, 93]) (q + 12) Q 81 [some (mR 69), some (mI cp), some (mI 1), none, none, none, none, none] [] (e_X12_fail H 2) from ?_)
        exfalso; omega
      · skip
        exact h2 (by omega) (by omega)
  · skip
    refine sp_X12_is (by first | omega | (simp (disch := decide) only [gs_ne, gs_at_ne, gs_at]; omega)) ?_
    have c10 := fa_X12_is H 27
    refine ⟨fun (c11 : ¬ (f_X12_is H 27) = 0) => ?_, fun (c11 : (f_X12_is H 27) = 0) => ?_⟩
    · skip
      refine ⟨fun _ => ?_, fun (c : (1 : Int) = 0) => absurd c (by decide)⟩
      refine ⟨(show 0 ≤ (H 64 19) ∧ (H 64 19) < ((2 : Nat) : Int) from by first | omega | (simp (disch := omega) only [w32_i]; omega)), ?_⟩
      refine ⟨fun (c12 : ¬ (H 76 (Int.toNat (H 64 19))) = 40) => ?_, fun (c12 : (H 76 (Int.toNat (H 64 19))) = 40) => ?_⟩
      · skip
        refine ⟨fun (c13 : (H 64 13) ≤ 0) => ?_, fun (c13 : 0 < (H 64 13)) => ?_⟩
        · skip
          refine (show W2 o_X12 M_X12_tellClause (inN [64, 72, 73, 74, 75, 76, 77, 78, 79, 80, 81, 82, 83, 84, 85, 86, 87, 88, 89, 90, 91, 92, 93]) (q + 12) Q 81 [some (mR 69), some (mI cp), some (mI 1), none, none, none, none, none] [] H from ?_)
          refine WP.fg (L' := [some (mR 69), some (mI cp), none, none, none, none, none, none]) ⟨rfl, rfl, trivial⟩ ?_
          exact h3 (by omega) (by omega)
        · skip
          exfalso; omega
      · skip
        refine sp_X12_fail (by first | omega | (simp (disch := decide) only [gs_ne, gs_at_ne, gs_at]; omega)) (insub (by decide)) ?_
        have c15 := fx_fail H 2
        refine ⟨fun (c16 : ((e_X12_fail H 2) 64 13) ≤ 0) => ?_, fun (c16 : 0 < ((e_X12_fail H 2) 64 13)) => ?_⟩
        · skip
          refine (show W2 o_X12 M_X12_tellClause (inN [64, 72, 73, 74, 75, 76, 77, 78, 79, 80, 81, 82, 83, 84, 85, 86, 87, 88, 89, 90, 91, 92, 93]) (q + 12) Q 81 [some (mR 69), some (mI cp), some (mI 1), none, none, none, none, none] [] (e_X12_fail H 2) from ?_)
          exfalso; omega
        · skip
          exact h2 (by omega) (by omega)
    · skip
      refine sp_X12_is (by first | omega | (simp (disch := decide) only [gs_ne, gs_at_ne, gs_at]; omega)) ?_
      have c18 := fa_X12_is H 28
      refine ⟨fun (c19 : ¬ (f_X12_is H 28) = 0) => ?_, fun (c19 : (f_X12_is H 28) = 0) => ?_⟩
      · skip
        refine ⟨fun _ => ?_, fun (c : (1 : Int) = 0) => absurd c (by decide)⟩
        refine ⟨(show 0 ≤ (H 64 19) ∧ (H 64 19) < ((2 : Nat) : Int) from by first | omega | (simp (disch := omega) only [w32_i]; omega)), ?_⟩
        refine ⟨fun (c20 : ¬ (H 76 (Int.toNat (H 64 19))) = 40) => ?_, fun (c20 : (H 76 (Int.toNat (H 64 19))) = 40) => ?_⟩
        · skip
          refine ⟨fun (c21 : (H 64 13) ≤ 0) => ?_, fun (c21 : 0 < (H 64 13)) => ?_⟩
          · skip
            refine (show W2 o_X12 M_X12_tellClause (inN [64, 72, 73, 74, 75, 76, 77, 78, 79, 80, 81, 82, 83, 84, 85, 86, 87, 88, 89, 90, 91, 92, 93]) (q + 12) Q 81 [some (mR 69), some (mI cp), some (mI 1), none, none, none, none, none] [] H from ?_)
            refine WP.fg (L' := [some (mR 69), some (mI cp), none, none, none, none, none, none]) ⟨rfl, rfl, trivial⟩ ?_
            exact h3 (by omega) (by omega)
          · skip
            exfalso; omega
        · skip
          refine sp_X12_fail (by first | omega | (simp (disch := decide) only [gs_ne, gs_at_ne, gs_at]; omega)) (insub (by decide)) ?_
          have c23 := fx_fail H 2
          refine ⟨fun (c24 : ((e_X12_fail H 2) 64 13) ≤ 0) => ?_, fun (c24 : 0 < ((e_X12_fail H 2) 64 13)) => ?_⟩
          · skip
            refine (show W2 o_X12 M_X12_tellClause (inN [64, 72, 73, 74, 75, 76, 77, 78, 79, 80, 81, 82, 83, 84, 85, 86, 87, 88, 89, 90, 91, 92, 93]) (q + 12) Q 81 [some (mR 69), some (mI cp), some (mI 1), none, none, none, none, none] [] (e_X12_fail H 2) from ?_)
            exfalso; omega
          · skip
            exact h2 (by omega) (by omega)
      · skip
        refine sp_X12_is (by first | omega | (simp (disch := decide) only [gs_ne, gs_at_ne, gs_at]; omega)) ?_
        have c26 := fa_X12_is H 29
        refine ⟨fun (c27 : (f_X12_is H 29) = 0) => ?_, fun (c27 : ¬ (f_X12_is H 29) = 0) => ?_⟩
        · skip
          refine ⟨fun (c : ¬ (0 : Int) = 0) => absurd c (by decide), fun _ => ?_⟩
          refine sp_X12_fail (by first | omega | (simp (disch := decide) only [gs_ne, gs_at_ne, gs_at]; omega)) (insub (by decide)) ?_
          have c29 := fx_fail H 1
          refine ⟨fun (c30 : ((e_X12_fail H 1) 64 13) ≤ 0) => ?_, fun (c30 : 0 < ((e_X12_fail H 1) 64 13)) => ?_⟩
          · skip
            refine (show W2 o_X12 M_X12_tellClause (inN [64, 72, 73, 74, 75, 76, 77, 78, 79, 80, 81, 82, 83, 84, 85, 86, 87, 88, 89, 90, 91, 92, 93]) (q + 12) Q 81 [some (mR 69), some (mI cp), some (mI 0), none, none, none, none, none] [] (e_X12_fail H 1) from ?_)
            exfalso; omega
          · skip
            exact h1 (by omega)
        · skip
          refine ⟨fun _ => ?_, fun (c : (1 : Int) = 0) => absurd c (by decide)⟩
          refine ⟨(show 0 ≤ (H 64 19) ∧ (H 64 19) < ((2 : Nat) : Int) from by first | omega | (simp (disch := omega) only [w32_i]; omega)), ?_⟩
          refine ⟨fun (c31 : ¬ (H 76 (Int.toNat (H 64 19))) = 40) => ?_, fun (c31 : (H 76 (Int.toNat (H 64 19))) = 40) => ?_⟩
          · skip
            refine ⟨fun (c32 : (H 64 13) ≤ 0) => ?_, fun (c32 : 0 < (H 64 13)) => ?_⟩
            · skip
              refine (show W2 o_X12 M_X12_tellClause (inN [64, 72, 73, 74, 75, 76, 77, 78, 79, 80, 81, 82, 83, 84, 85, 86, 87, 88, 89, 90, 91, 92, 93]) (q + 12) Q 81 [some (mR 69), some (mI cp), some (mI 1), none, none, none, none, none] [] H from ?_)
              refine WP.fg (L' := [some (mR 69), some (mI cp), none, none, none, none, none, none]) ⟨rfl, rfl, trivial⟩ ?_
              exact h3 (by omega) (by omega)
            · skip
              exfalso; omega
          · skip
            refine sp_X12_fail (by first | omega | (simp (disch := decide) only [gs_ne, gs_at_ne, gs_at]; omega)) (insub (by decide)) ?_
            have c34 := fx_fail H 2
            refine ⟨fun (c35 : ((e_X12_fail H 2) 64 13) ≤ 0) => ?_, fun (c35 : 0 < ((e_X12_fail H 2) 64 13)) => ?_⟩
            · skip
              refine (show W2 o_X12 M_X12_tellClause (inN [64, 72, 73, 74, 75, 76, 77, 78, 79, 80, 81, 82, 83, 84, 85, 86, 87, 88, 89, 90, 91, 92, 93]) (q + 12) Q 81 [some (mR 69), some (mI cp), some (mI 1), none, none, none, none, none] [] (e_X12_fail H 2) from ?_)
              exfalso; omega
            · skip
              exact h2 (by omega) (by omega)
set_option maxHeartbeats 8000000 in
theorem tl_81 {q : Nat} {H : mG} {Q : Option mV → mG → Prop} {cp : Int} (hf : H 64 13 = 0) (hT : 0 ≤ H 64 11 ∧ H 64 11 ≤ 600) (hs : 0 ≤ H 64 19 ∧ H 64 19 ≤ 1) (hm : 0 ≤ H 76 (Int.toNat (H 64 19)) ∧ H 76 (Int.toNat (H 64 19)) < 40) (hb : ((H 67 (Int.toNat (H 64 11))) = 24 ∨ (H 67 (Int.toNat (H 64 11))) = 27 ∨ (H 67 (Int.toNat (H 64 11))) = 28 ∨ (H 67 (Int.toNat (H 64 11))) = 29)) (h : ∀ so : Int, (so = 0 ∧ (H 67 (Int.toNat (H 64 11))) = 24 ∨ so = 1 ∧ (H 67 (Int.toNat (H 64 11))) = 27 ∨ so = 2 ∧ (H 67 (Int.toNat (H 64 11))) = 28 ∨ so = 3 ∧ (H 67 (Int.toNat (H 64 11))) = 29) → W2 o_X12 M_X12_tellClause (inN [64, 72, 73, 74, 75, 76, 77, 78, 79, 80, 81, 82, 83, 84, 85, 86, 87, 88, 89, 90, 91, 92, 93]) (q + 12) Q 167 [some (mR 69), some (mI cp), none, some (mI (w32 ((w32 (40 * (H 64 19))) + (H 76 (Int.toNat (H 64 19)))))), none, none, none, none] [] (gs (gs (gs H 78 (Int.toNat (w32 ((w32 (40 * (H 64 19))) + (H 76 (Int.toNat (H 64 19)))))) cp) 82 (Int.toNat (w32 ((w32 (40 * (H 64 19))) + (H 76 (Int.toNat (H 64 19)))))) (H 85 (Int.toNat (H 64 19)))) 77 (Int.toNat (w32 ((w32 (40 * (H 64 19))) + (H 76 (Int.toNat (H 64 19)))))) so)) : W2 o_X12 M_X12_tellClause (inN [64, 72, 73, 74, 75, 76, 77, 78, 79, 80, 81, 82, 83, 84, 85, 86, 87, 88, 89, 90, 91, 92, 93]) (q + 12) Q 81 [some (mR 69), some (mI cp), none, none, none, none, none, none] [] H := by
  refine w2_vc [106, 120, 121, 132, 145, 158, 167] 400 oo_X12 q_X12_tellClause ?_
  refine ⟨(show 0 ≤ (H 64 19) ∧ (H 64 19) < ((2 : Nat) : Int) from by first | omega | (simp (disch := omega) only [w32_i]; omega)), ?_⟩
  refine ⟨(show 0 ≤ (w32 ((w32 (40 * (H 64 19))) + (H 76 (Int.toNat (H 64 19))))) ∧ (w32 ((w32 (40 * (H 64 19))) + (H 76 (Int.toNat (H 64 19))))) < ((80 : Nat) : Int) from by first | omega | (rw [show (w32 ((w32 (40 * (H 64 19))) + (H 76 (Int.toNat (H 64 19))))) = (40 * (H 64 19)) + (H 76 (Int.toNat (H 64 19))) from by rw [w32_i (x := (40 * (H 64 19))) (by omega) (by omega), w32_i (x := (40 * (H 64 19)) + (H 76 (Int.toNat (H 64 19)))) (by omega) (by omega)]]; omega) | (simp (disch := omega) only [w32_i]; omega)), ?_⟩
  refine (show W2 o_X12 M_X12_tellClause (inN [64, 72, 73, 74, 75, 76, 77, 78, 79, 80, 81, 82, 83, 84, 85, 86, 87, 88, 89, 90, 91, 92, 93]) (q + 12) Q 106 [some (mR 69), some (mI cp), none, some (mI (w32 ((w32 (40 * (H 64 19))) + (H 76 (Int.toNat (H 64 19)))))), none, none, none, none] [] (gs H 78 (Int.toNat (w32 ((w32 (40 * (H 64 19))) + (H 76 (Int.toNat (H 64 19)))))) cp) from ?_)
  refine w2_vc [106, 120, 121, 132, 145, 158, 167] 400 oo_X12 q_X12_tellClause ?_
  refine ⟨(show 0 ≤ (H 64 19) ∧ (H 64 19) < ((2 : Nat) : Int) from by first | omega | (simp (disch := omega) only [w32_i]; omega)), ?_⟩
  refine (show W2 o_X12 M_X12_tellClause (inN [64, 72, 73, 74, 75, 76, 77, 78, 79, 80, 81, 82, 83, 84, 85, 86, 87, 88, 89, 90, 91, 92, 93]) (q + 12) Q 120 [some (mR 69), some (mI cp), none, some (mI (w32 ((w32 (40 * (H 64 19))) + (H 76 (Int.toNat (H 64 19)))))), none, none, none, none] [mI (H 85 (Int.toNat (H 64 19))), mI (w32 ((w32 (40 * (H 64 19))) + (H 76 (Int.toNat (H 64 19))))), mR 87] (gs H 78 (Int.toNat (w32 ((w32 (40 * (H 64 19))) + (H 76 (Int.toNat (H 64 19)))))) cp) from ?_)
  refine w2_vc [106, 120, 121, 132, 145, 158, 167] 400 oo_X12 q_X12_tellClause ?_
  refine ⟨(show 0 ≤ (w32 ((w32 (40 * (H 64 19))) + (H 76 (Int.toNat (H 64 19))))) ∧ (w32 ((w32 (40 * (H 64 19))) + (H 76 (Int.toNat (H 64 19))))) < ((80 : Nat) : Int) from by first | omega | (rw [show (w32 ((w32 (40 * (H 64 19))) + (H 76 (Int.toNat (H 64 19))))) = (40 * (H 64 19)) + (H 76 (Int.toNat (H 64 19))) from by rw [w32_i (x := (40 * (H 64 19))) (by omega) (by omega), w32_i (x := (40 * (H 64 19)) + (H 76 (Int.toNat (H 64 19)))) (by omega) (by omega)]]; omega) | (simp (disch := omega) only [w32_i]; omega)), ?_⟩
  refine (show W2 o_X12 M_X12_tellClause (inN [64, 72, 73, 74, 75, 76, 77, 78, 79, 80, 81, 82, 83, 84, 85, 86, 87, 88, 89, 90, 91, 92, 93]) (q + 12) Q 121 [some (mR 69), some (mI cp), none, some (mI (w32 ((w32 (40 * (H 64 19))) + (H 76 (Int.toNat (H 64 19)))))), none, none, none, none] [] (gs (gs H 78 (Int.toNat (w32 ((w32 (40 * (H 64 19))) + (H 76 (Int.toNat (H 64 19)))))) cp) 82 (Int.toNat (w32 ((w32 (40 * (H 64 19))) + (H 76 (Int.toNat (H 64 19)))))) (H 85 (Int.toNat (H 64 19)))) from ?_)
  refine w2_vc [106, 120, 121, 132, 145, 158, 167] 400 oo_X12 q_X12_tellClause ?_
  refine sp_X12_is (by rw [gs_ne (by decide), gs_ne (by decide)]; omega) ?_
  have c1 : (f_X12_is (gs (gs H 78 (Int.toNat (w32 ((w32 (40 * (H 64 19))) + (H 76 (Int.toNat (H 64 19)))))) cp) 82 (Int.toNat (w32 ((w32 (40 * (H 64 19))) + (H 76 (Int.toNat (H 64 19)))))) (H 85 (Int.toNat (H 64 19)))) 24 = 1 ∧ (H 67 (Int.toNat (H 64 11))) = 24) ∨ (f_X12_is (gs (gs H 78 (Int.toNat (w32 ((w32 (40 * (H 64 19))) + (H 76 (Int.toNat (H 64 19)))))) cp) 82 (Int.toNat (w32 ((w32 (40 * (H 64 19))) + (H 76 (Int.toNat (H 64 19)))))) (H 85 (Int.toNat (H 64 19)))) 24 = 0 ∧ ¬ (H 67 (Int.toNat (H 64 11))) = 24) := by have y := fa_X12_is (gs (gs H 78 (Int.toNat (w32 ((w32 (40 * (H 64 19))) + (H 76 (Int.toNat (H 64 19)))))) cp) 82 (Int.toNat (w32 ((w32 (40 * (H 64 19))) + (H 76 (Int.toNat (H 64 19)))))) (H 85 (Int.toNat (H 64 19)))) 24; rw [gs_ne (by decide), gs_ne (by decide), gs_ne (by decide), gs_ne (by decide)] at y; omega
  refine (show W2 o_X12 M_X12_tellClause (inN [64, 72, 73, 74, 75, 76, 77, 78, 79, 80, 81, 82, 83, 84, 85, 86, 87, 88, 89, 90, 91, 92, 93]) (q + 12) Q 132 [some (mR 69), some (mI cp), none, some (mI (w32 ((w32 (40 * (H 64 19))) + (H 76 (Int.toNat (H 64 19)))))), none, none, none, none] [mI (f_X12_is (gs (gs H 78 (Int.toNat (w32 ((w32 (40 * (H 64 19))) + (H 76 (Int.toNat (H 64 19)))))) cp) 82 (Int.toNat (w32 ((w32 (40 * (H 64 19))) + (H 76 (Int.toNat (H 64 19)))))) (H 85 (Int.toNat (H 64 19)))) 24), mI (w32 ((w32 (40 * (H 64 19))) + (H 76 (Int.toNat (H 64 19))))), mR 82] (gs (gs H 78 (Int.toNat (w32 ((w32 (40 * (H 64 19))) + (H 76 (Int.toNat (H 64 19)))))) cp) 82 (Int.toNat (w32 ((w32 (40 * (H 64 19))) + (H 76 (Int.toNat (H 64 19)))))) (H 85 (Int.toNat (H 64 19)))) from ?_)
  refine w2_vc [106, 120, 121, 132, 145, 158, 167] 400 oo_X12 q_X12_tellClause ?_
  refine ⟨fun (c2 : (f_X12_is (gs (gs H 78 (Int.toNat (w32 ((w32 (40 * (H 64 19))) + (H 76 (Int.toNat (H 64 19)))))) cp) 82 (Int.toNat (w32 ((w32 (40 * (H 64 19))) + (H 76 (Int.toNat (H 64 19)))))) (H 85 (Int.toNat (H 64 19)))) 24) = 0) => ?_, fun (c2 : ¬ (f_X12_is (gs (gs H 78 (Int.toNat (w32 ((w32 (40 * (H 64 19))) + (H 76 (Int.toNat (H 64 19)))))) cp) 82 (Int.toNat (w32 ((w32 (40 * (H 64 19))) + (H 76 (Int.toNat (H 64 19)))))) (H 85 (Int.toNat (H 64 19)))) 24) = 0) => ?_⟩
  · skip
    refine sp_X12_is (by rw [gs_ne (by decide), gs_ne (by decide)]; omega) ?_
    have c3 : (f_X12_is (gs (gs H 78 (Int.toNat (w32 ((w32 (40 * (H 64 19))) + (H 76 (Int.toNat (H 64 19)))))) cp) 82 (Int.toNat (w32 ((w32 (40 * (H 64 19))) + (H 76 (Int.toNat (H 64 19)))))) (H 85 (Int.toNat (H 64 19)))) 27 = 1 ∧ (H 67 (Int.toNat (H 64 11))) = 27) ∨ (f_X12_is (gs (gs H 78 (Int.toNat (w32 ((w32 (40 * (H 64 19))) + (H 76 (Int.toNat (H 64 19)))))) cp) 82 (Int.toNat (w32 ((w32 (40 * (H 64 19))) + (H 76 (Int.toNat (H 64 19)))))) (H 85 (Int.toNat (H 64 19)))) 27 = 0 ∧ ¬ (H 67 (Int.toNat (H 64 11))) = 27) := by have y := fa_X12_is (gs (gs H 78 (Int.toNat (w32 ((w32 (40 * (H 64 19))) + (H 76 (Int.toNat (H 64 19)))))) cp) 82 (Int.toNat (w32 ((w32 (40 * (H 64 19))) + (H 76 (Int.toNat (H 64 19)))))) (H 85 (Int.toNat (H 64 19)))) 27; rw [gs_ne (by decide), gs_ne (by decide), gs_ne (by decide), gs_ne (by decide)] at y; omega
    refine (show W2 o_X12 M_X12_tellClause (inN [64, 72, 73, 74, 75, 76, 77, 78, 79, 80, 81, 82, 83, 84, 85, 86, 87, 88, 89, 90, 91, 92, 93]) (q + 12) Q 145 [some (mR 69), some (mI cp), none, some (mI (w32 ((w32 (40 * (H 64 19))) + (H 76 (Int.toNat (H 64 19)))))), none, none, none, none] [mI (f_X12_is (gs (gs H 78 (Int.toNat (w32 ((w32 (40 * (H 64 19))) + (H 76 (Int.toNat (H 64 19)))))) cp) 82 (Int.toNat (w32 ((w32 (40 * (H 64 19))) + (H 76 (Int.toNat (H 64 19)))))) (H 85 (Int.toNat (H 64 19)))) 27), mI (w32 ((w32 (40 * (H 64 19))) + (H 76 (Int.toNat (H 64 19))))), mR 82] (gs (gs H 78 (Int.toNat (w32 ((w32 (40 * (H 64 19))) + (H 76 (Int.toNat (H 64 19)))))) cp) 82 (Int.toNat (w32 ((w32 (40 * (H 64 19))) + (H 76 (Int.toNat (H 64 19)))))) (H 85 (Int.toNat (H 64 19)))) from ?_)
    refine w2_vc [106, 120, 121, 132, 145, 158, 167] 400 oo_X12 q_X12_tellClause ?_
    refine ⟨fun (c4 : (f_X12_is (gs (gs H 78 (Int.toNat (w32 ((w32 (40 * (H 64 19))) + (H 76 (Int.toNat (H 64 19)))))) cp) 82 (Int.toNat (w32 ((w32 (40 * (H 64 19))) + (H 76 (Int.toNat (H 64 19)))))) (H 85 (Int.toNat (H 64 19)))) 27) = 0) => ?_, fun (c4 : ¬ (f_X12_is (gs (gs H 78 (Int.toNat (w32 ((w32 (40 * (H 64 19))) + (H 76 (Int.toNat (H 64 19)))))) cp) 82 (Int.toNat (w32 ((w32 (40 * (H 64 19))) + (H 76 (Int.toNat (H 64 19)))))) (H 85 (Int.toNat (H 64 19)))) 27) = 0) => ?_⟩
    · skip
      refine sp_X12_is (by rw [gs_ne (by decide), gs_ne (by decide)]; omega) ?_
      have c5 : (f_X12_is (gs (gs H 78 (Int.toNat (w32 ((w32 (40 * (H 64 19))) + (H 76 (Int.toNat (H 64 19)))))) cp) 82 (Int.toNat (w32 ((w32 (40 * (H 64 19))) + (H 76 (Int.toNat (H 64 19)))))) (H 85 (Int.toNat (H 64 19)))) 28 = 1 ∧ (H 67 (Int.toNat (H 64 11))) = 28) ∨ (f_X12_is (gs (gs H 78 (Int.toNat (w32 ((w32 (40 * (H 64 19))) + (H 76 (Int.toNat (H 64 19)))))) cp) 82 (Int.toNat (w32 ((w32 (40 * (H 64 19))) + (H 76 (Int.toNat (H 64 19)))))) (H 85 (Int.toNat (H 64 19)))) 28 = 0 ∧ ¬ (H 67 (Int.toNat (H 64 11))) = 28) := by have y := fa_X12_is (gs (gs H 78 (Int.toNat (w32 ((w32 (40 * (H 64 19))) + (H 76 (Int.toNat (H 64 19)))))) cp) 82 (Int.toNat (w32 ((w32 (40 * (H 64 19))) + (H 76 (Int.toNat (H 64 19)))))) (H 85 (Int.toNat (H 64 19)))) 28; rw [gs_ne (by decide), gs_ne (by decide), gs_ne (by decide), gs_ne (by decide)] at y; omega
      refine (show W2 o_X12 M_X12_tellClause (inN [64, 72, 73, 74, 75, 76, 77, 78, 79, 80, 81, 82, 83, 84, 85, 86, 87, 88, 89, 90, 91, 92, 93]) (q + 12) Q 158 [some (mR 69), some (mI cp), none, some (mI (w32 ((w32 (40 * (H 64 19))) + (H 76 (Int.toNat (H 64 19)))))), none, none, none, none] [mI (f_X12_is (gs (gs H 78 (Int.toNat (w32 ((w32 (40 * (H 64 19))) + (H 76 (Int.toNat (H 64 19)))))) cp) 82 (Int.toNat (w32 ((w32 (40 * (H 64 19))) + (H 76 (Int.toNat (H 64 19)))))) (H 85 (Int.toNat (H 64 19)))) 28), mI (w32 ((w32 (40 * (H 64 19))) + (H 76 (Int.toNat (H 64 19))))), mR 82] (gs (gs H 78 (Int.toNat (w32 ((w32 (40 * (H 64 19))) + (H 76 (Int.toNat (H 64 19)))))) cp) 82 (Int.toNat (w32 ((w32 (40 * (H 64 19))) + (H 76 (Int.toNat (H 64 19)))))) (H 85 (Int.toNat (H 64 19)))) from ?_)
      refine w2_vc [106, 120, 121, 132, 145, 158, 167] 400 oo_X12 q_X12_tellClause ?_
      refine ⟨fun (c6 : (f_X12_is (gs (gs H 78 (Int.toNat (w32 ((w32 (40 * (H 64 19))) + (H 76 (Int.toNat (H 64 19)))))) cp) 82 (Int.toNat (w32 ((w32 (40 * (H 64 19))) + (H 76 (Int.toNat (H 64 19)))))) (H 85 (Int.toNat (H 64 19)))) 28) = 0) => ?_, fun (c6 : ¬ (f_X12_is (gs (gs H 78 (Int.toNat (w32 ((w32 (40 * (H 64 19))) + (H 76 (Int.toNat (H 64 19)))))) cp) 82 (Int.toNat (w32 ((w32 (40 * (H 64 19))) + (H 76 (Int.toNat (H 64 19)))))) (H 85 (Int.toNat (H 64 19)))) 28) = 0) => ?_⟩
      · skip
        refine ⟨(show 0 ≤ (w32 ((w32 (40 * (H 64 19))) + (H 76 (Int.toNat (H 64 19))))) ∧ (w32 ((w32 (40 * (H 64 19))) + (H 76 (Int.toNat (H 64 19))))) < ((80 : Nat) : Int) from by first | omega | (rw [show (w32 ((w32 (40 * (H 64 19))) + (H 76 (Int.toNat (H 64 19))))) = (40 * (H 64 19)) + (H 76 (Int.toNat (H 64 19))) from by rw [w32_i (x := (40 * (H 64 19))) (by omega) (by omega), w32_i (x := (40 * (H 64 19)) + (H 76 (Int.toNat (H 64 19)))) (by omega) (by omega)]]; omega) | (simp (disch := omega) only [w32_i]; omega)), ?_⟩
        refine (show W2 o_X12 M_X12_tellClause (inN [64, 72, 73, 74, 75, 76, 77, 78, 79, 80, 81, 82, 83, 84, 85, 86, 87, 88, 89, 90, 91, 92, 93]) (q + 12) Q 167 [some (mR 69), some (mI cp), none, some (mI (w32 ((w32 (40 * (H 64 19))) + (H 76 (Int.toNat (H 64 19)))))), none, none, none, none] [] (gs (gs (gs H 78 (Int.toNat (w32 ((w32 (40 * (H 64 19))) + (H 76 (Int.toNat (H 64 19)))))) cp) 82 (Int.toNat (w32 ((w32 (40 * (H 64 19))) + (H 76 (Int.toNat (H 64 19)))))) (H 85 (Int.toNat (H 64 19)))) 77 (Int.toNat (w32 ((w32 (40 * (H 64 19))) + (H 76 (Int.toNat (H 64 19)))))) 3) from ?_)
        refine WP.fg (L' := [some (mR 69), some (mI cp), none, some (mI (w32 ((w32 (40 * (H 64 19))) + (H 76 (Int.toNat (H 64 19)))))), none, none, none, none]) ⟨rfl, rfl, rfl, trivial⟩ ?_
        exact h 3 (by omega)
      · skip
        refine ⟨(show 0 ≤ (w32 ((w32 (40 * (H 64 19))) + (H 76 (Int.toNat (H 64 19))))) ∧ (w32 ((w32 (40 * (H 64 19))) + (H 76 (Int.toNat (H 64 19))))) < ((80 : Nat) : Int) from by first | omega | (rw [show (w32 ((w32 (40 * (H 64 19))) + (H 76 (Int.toNat (H 64 19))))) = (40 * (H 64 19)) + (H 76 (Int.toNat (H 64 19))) from by rw [w32_i (x := (40 * (H 64 19))) (by omega) (by omega), w32_i (x := (40 * (H 64 19)) + (H 76 (Int.toNat (H 64 19)))) (by omega) (by omega)]]; omega) | (simp (disch := omega) only [w32_i]; omega)), ?_⟩
        refine (show W2 o_X12 M_X12_tellClause (inN [64, 72, 73, 74, 75, 76, 77, 78, 79, 80, 81, 82, 83, 84, 85, 86, 87, 88, 89, 90, 91, 92, 93]) (q + 12) Q 167 [some (mR 69), some (mI cp), none, some (mI (w32 ((w32 (40 * (H 64 19))) + (H 76 (Int.toNat (H 64 19)))))), none, none, none, none] [] (gs (gs (gs H 78 (Int.toNat (w32 ((w32 (40 * (H 64 19))) + (H 76 (Int.toNat (H 64 19)))))) cp) 82 (Int.toNat (w32 ((w32 (40 * (H 64 19))) + (H 76 (Int.toNat (H 64 19)))))) (H 85 (Int.toNat (H 64 19)))) 77 (Int.toNat (w32 ((w32 (40 * (H 64 19))) + (H 76 (Int.toNat (H 64 19)))))) 2) from ?_)
        refine WP.fg (L' := [some (mR 69), some (mI cp), none, some (mI (w32 ((w32 (40 * (H 64 19))) + (H 76 (Int.toNat (H 64 19)))))), none, none, none, none]) ⟨rfl, rfl, rfl, trivial⟩ ?_
        exact h 2 (by omega)
    · skip
      refine ⟨(show 0 ≤ (w32 ((w32 (40 * (H 64 19))) + (H 76 (Int.toNat (H 64 19))))) ∧ (w32 ((w32 (40 * (H 64 19))) + (H 76 (Int.toNat (H 64 19))))) < ((80 : Nat) : Int) from by first | omega | (rw [show (w32 ((w32 (40 * (H 64 19))) + (H 76 (Int.toNat (H 64 19))))) = (40 * (H 64 19)) + (H 76 (Int.toNat (H 64 19))) from by rw [w32_i (x := (40 * (H 64 19))) (by omega) (by omega), w32_i (x := (40 * (H 64 19)) + (H 76 (Int.toNat (H 64 19)))) (by omega) (by omega)]]; omega) | (simp (disch := omega) only [w32_i]; omega)), ?_⟩
      refine (show W2 o_X12 M_X12_tellClause (inN [64, 72, 73, 74, 75, 76, 77, 78, 79, 80, 81, 82, 83, 84, 85, 86, 87, 88, 89, 90, 91, 92, 93]) (q + 12) Q 167 [some (mR 69), some (mI cp), none, some (mI (w32 ((w32 (40 * (H 64 19))) + (H 76 (Int.toNat (H 64 19)))))), none, none, none, none] [] (gs (gs (gs H 78 (Int.toNat (w32 ((w32 (40 * (H 64 19))) + (H 76 (Int.toNat (H 64 19)))))) cp) 82 (Int.toNat (w32 ((w32 (40 * (H 64 19))) + (H 76 (Int.toNat (H 64 19)))))) (H 85 (Int.toNat (H 64 19)))) 77 (Int.toNat (w32 ((w32 (40 * (H 64 19))) + (H 76 (Int.toNat (H 64 19)))))) 1) from ?_)
      refine WP.fg (L' := [some (mR 69), some (mI cp), none, some (mI (w32 ((w32 (40 * (H 64 19))) + (H 76 (Int.toNat (H 64 19)))))), none, none, none, none]) ⟨rfl, rfl, rfl, trivial⟩ ?_
      exact h 1 (by omega)
  · skip
    refine ⟨(show 0 ≤ (w32 ((w32 (40 * (H 64 19))) + (H 76 (Int.toNat (H 64 19))))) ∧ (w32 ((w32 (40 * (H 64 19))) + (H 76 (Int.toNat (H 64 19))))) < ((80 : Nat) : Int) from by first | omega | (rw [show (w32 ((w32 (40 * (H 64 19))) + (H 76 (Int.toNat (H 64 19))))) = (40 * (H 64 19)) + (H 76 (Int.toNat (H 64 19))) from by rw [w32_i (x := (40 * (H 64 19))) (by omega) (by omega), w32_i (x := (40 * (H 64 19)) + (H 76 (Int.toNat (H 64 19)))) (by omega) (by omega)]]; omega) | (simp (disch := omega) only [w32_i]; omega)), ?_⟩
    refine (show W2 o_X12 M_X12_tellClause (inN [64, 72, 73, 74, 75, 76, 77, 78, 79, 80, 81, 82, 83, 84, 85, 86, 87, 88, 89, 90, 91, 92, 93]) (q + 12) Q 167 [some (mR 69), some (mI cp), none, some (mI (w32 ((w32 (40 * (H 64 19))) + (H 76 (Int.toNat (H 64 19)))))), none, none, none, none] [] (gs (gs (gs H 78 (Int.toNat (w32 ((w32 (40 * (H 64 19))) + (H 76 (Int.toNat (H 64 19)))))) cp) 82 (Int.toNat (w32 ((w32 (40 * (H 64 19))) + (H 76 (Int.toNat (H 64 19)))))) (H 85 (Int.toNat (H 64 19)))) 77 (Int.toNat (w32 ((w32 (40 * (H 64 19))) + (H 76 (Int.toNat (H 64 19)))))) 0) from ?_)
    refine WP.fg (L' := [some (mR 69), some (mI cp), none, some (mI (w32 ((w32 (40 * (H 64 19))) + (H 76 (Int.toNat (H 64 19)))))), none, none, none, none]) ⟨rfl, rfl, rfl, trivial⟩ ?_
    exact h 0 (by omega)
theorem nx_fr (G : mG) {k : Nat} (hk : k ≠ 64) : (e_X12_next G) k = G k := by
  unfold e_X12_next e_X12_fail
  exact ite_P (P := fun x : mG => x k = G k) (gs_ne hk) (ite_P (P := fun x : mG => x k = G k) (by rw [gs_ne hk, gs_ne hk]) rfl)
set_option maxHeartbeats 8000000 in
theorem tl_167 {q : Nat} {H : mG} {Q : Option mV → mG → Prop} {cp : Int} {e : Nat} (hT : 0 ≤ H 64 11 ∧ H 64 11 ≤ 600) (he : e < 80) (h0 : H 77 e = 0 → W2 o_X12 M_X12_tellClause (inN [64, 72, 73, 74, 75, 76, 77, 78, 79, 80, 81, 82, 83, 84, 85, 86, 87, 88, 89, 90, 91, 92, 93]) (q + 12) Q 204 [some (mR 69), some (mI cp), none, some (mI ((e : Nat) : Int)), none, none, none, none] [] (e_X12_next H)) (h1 : H 77 e = 1 → W2 o_X12 M_X12_tellClause (inN [64, 72, 73, 74, 75, 76, 77, 78, 79, 80, 81, 82, 83, 84, 85, 86, 87, 88, 89, 90, 91, 92, 93]) (q + 12) Q 409 [some (mR 69), some (mI cp), none, some (mI ((e : Nat) : Int)), none, none, none, none] [] (e_X12_next H)) (h2 : H 77 e = 2 → W2 o_X12 M_X12_tellClause (inN [64, 72, 73, 74, 75, 76, 77, 78, 79, 80, 81, 82, 83, 84, 85, 86, 87, 88, 89, 90, 91, 92, 93]) (q + 12) Q 416 [some (mR 69), some (mI cp), none, some (mI ((e : Nat) : Int)), none, none, none, none] [] (e_X12_next H)) (h3 : (H 77 e < 0 ∨ 2 < H 77 e) → W2 o_X12 M_X12_tellClause (inN [64, 72, 73, 74, 75, 76, 77, 78, 79, 80, 81, 82, 83, 84, 85, 86, 87, 88, 89, 90, 91, 92, 93]) (q + 12) Q 434 [some (mR 69), some (mI cp), none, some (mI ((e : Nat) : Int)), none, none, none, none] [] (e_X12_next H)) : W2 o_X12 M_X12_tellClause (inN [64, 72, 73, 74, 75, 76, 77, 78, 79, 80, 81, 82, 83, 84, 85, 86, 87, 88, 89, 90, 91, 92, 93]) (q + 12) Q 167 [some (mR 69), some (mI cp), none, some (mI ((e : Nat) : Int)), none, none, none, none] [] H := by
  refine w2_vc [171, 204, 409, 416, 434] 400 oo_X12 q_X12_tellClause ?_
  refine sp_X12_next (by first | omega | (simp (disch := decide) only [gs_ne, gs_at_ne, gs_at]; omega)) (insub (by decide)) ?_
  have y77 := nx_fr H (k := 77) (by decide)
  have y77e : (e_X12_next H) 77 (Int.toNat ((e : Nat) : Int)) = H 77 e := by rw [y77, st_nat]
  refine (show W2 o_X12 M_X12_tellClause (inN [64, 72, 73, 74, 75, 76, 77, 78, 79, 80, 81, 82, 83, 84, 85, 86, 87, 88, 89, 90, 91, 92, 93]) (q + 12) Q 171 [some (mR 69), some (mI cp), none, some (mI ((e : Nat) : Int)), none, none, none, none] [] (e_X12_next H) from ?_)
  refine w2_vc [171, 204, 409, 416, 434] 400 oo_X12 q_X12_tellClause ?_
  refine ⟨(show 0 ≤ ((e : Nat) : Int) ∧ ((e : Nat) : Int) < ((80 : Nat) : Int) from by first | omega | (simp (disch := omega) only [w32_i]; omega)), ?_⟩
  refine ⟨fun (c1 : ((e_X12_next H) 77 (Int.toNat ((e : Nat) : Int))) < 0 ∨ 2 < ((e_X12_next H) 77 (Int.toNat ((e : Nat) : Int)))) => ?_, fun (c1 : ((e_X12_next H) 77 (Int.toNat ((e : Nat) : Int))) = 0) => ?_, fun (c1 : ((e_X12_next H) 77 (Int.toNat ((e : Nat) : Int))) = 1) => ?_, fun (c1 : ((e_X12_next H) 77 (Int.toNat ((e : Nat) : Int))) = 2) => ?_, trivial⟩
  · skip
    refine (show W2 o_X12 M_X12_tellClause (inN [64, 72, 73, 74, 75, 76, 77, 78, 79, 80, 81, 82, 83, 84, 85, 86, 87, 88, 89, 90, 91, 92, 93]) (q + 12) Q 434 [some (mR 69), some (mI cp), none, some (mI ((e : Nat) : Int)), none, none, none, none] [] (e_X12_next H) from ?_)
    exact h3 (by omega)
  · skip
    refine (show W2 o_X12 M_X12_tellClause (inN [64, 72, 73, 74, 75, 76, 77, 78, 79, 80, 81, 82, 83, 84, 85, 86, 87, 88, 89, 90, 91, 92, 93]) (q + 12) Q 204 [some (mR 69), some (mI cp), none, some (mI ((e : Nat) : Int)), none, none, none, none] [] (e_X12_next H) from ?_)
    exact h0 (by omega)
  · skip
    refine (show W2 o_X12 M_X12_tellClause (inN [64, 72, 73, 74, 75, 76, 77, 78, 79, 80, 81, 82, 83, 84, 85, 86, 87, 88, 89, 90, 91, 92, 93]) (q + 12) Q 409 [some (mR 69), some (mI cp), none, some (mI ((e : Nat) : Int)), none, none, none, none] [] (e_X12_next H) from ?_)
    exact h1 (by omega)
  · skip
    refine (show W2 o_X12 M_X12_tellClause (inN [64, 72, 73, 74, 75, 76, 77, 78, 79, 80, 81, 82, 83, 84, 85, 86, 87, 88, 89, 90, 91, 92, 93]) (q + 12) Q 416 [some (mR 69), some (mI cp), none, some (mI ((e : Nat) : Int)), none, none, none, none] [] (e_X12_next H) from ?_)
    exact h2 (by omega)
set_option maxHeartbeats 8000000 in
theorem tl_204 {q : Nat} {H : mG} {Q : Option mV → mG → Prop} {cp : Int} {e : Nat} (hT : 0 ≤ H 64 11 ∧ H 64 11 ≤ 600) (h : W2 o_X12 M_X12_tellClause (inN [64, 72, 73, 74, 75, 76, 77, 78, 79, 80, 81, 82, 83, 84, 85, 86, 87, 88, 89, 90, 91, 92, 93]) (q + 12) Q 249 [some (mR 69), some (mI cp), none, some (mI ((e : Nat) : Int)), some (mI (H 64 11)), some (mI ((e_X12_must (e_X12_must H 2) 25) 64 11)), some (mI ((e_X12_must (e_X12_must (e_X12_must (e_X12_must H 2) 25) 2) 26) 64 11)), none] [] (e_X12_must (e_X12_must (e_X12_must (e_X12_must (e_X12_must H 2) 25) 2) 26) 2)) : W2 o_X12 M_X12_tellClause (inN [64, 72, 73, 74, 75, 76, 77, 78, 79, 80, 81, 82, 83, 84, 85, 86, 87, 88, 89, 90, 91, 92, 93]) (q + 12) Q 204 [some (mR 69), some (mI cp), none, some (mI ((e : Nat) : Int)), none, none, none, none] [] H := by
  refine w2_vc [232, 238, 244, 249] 400 oo_X12 q_X12_tellClause ?_
  refine sp_X12_must (by first | omega | (simp (disch := decide) only [gs_ne, gs_at_ne, gs_at]; omega)) (insub (by decide)) ?_
  have c2 := fx_must H 2
  refine sp_X12_must (by first | omega | (simp (disch := decide) only [gs_ne, gs_at_ne, gs_at]; omega)) (insub (by decide)) ?_
  have c4 := fx_must (e_X12_must H 2) 25
  refine sp_X12_must (by first | omega | (simp (disch := decide) only [gs_ne, gs_at_ne, gs_at]; omega)) (insub (by decide)) ?_
  have c6 := fx_must (e_X12_must (e_X12_must H 2) 25) 2
  refine (show W2 o_X12 M_X12_tellClause (inN [64, 72, 73, 74, 75, 76, 77, 78, 79, 80, 81, 82, 83, 84, 85, 86, 87, 88, 89, 90, 91, 92, 93]) (q + 12) Q 232 [some (mR 69), some (mI cp), none, some (mI ((e : Nat) : Int)), some (mI (H 64 11)), some (mI ((e_X12_must (e_X12_must H 2) 25) 64 11)), none, none] [] (e_X12_must (e_X12_must (e_X12_must H 2) 25) 2) from ?_)
  refine w2_vc [232, 238, 244, 249] 400 oo_X12 q_X12_tellClause ?_
  refine sp_X12_must (by first | omega | (simp (disch := decide) only [gs_ne, gs_at_ne, gs_at]; omega)) (insub (by decide)) ?_
  have c8 := fx_must (e_X12_must (e_X12_must (e_X12_must H 2) 25) 2) 26
  refine (show W2 o_X12 M_X12_tellClause (inN [64, 72, 73, 74, 75, 76, 77, 78, 79, 80, 81, 82, 83, 84, 85, 86, 87, 88, 89, 90, 91, 92, 93]) (q + 12) Q 238 [some (mR 69), some (mI cp), none, some (mI ((e : Nat) : Int)), some (mI (H 64 11)), some (mI ((e_X12_must (e_X12_must H 2) 25) 64 11)), none, none] [] (e_X12_must (e_X12_must (e_X12_must (e_X12_must H 2) 25) 2) 26) from ?_)
  refine w2_vc [232, 238, 244, 249] 400 oo_X12 q_X12_tellClause ?_
  refine (show W2 o_X12 M_X12_tellClause (inN [64, 72, 73, 74, 75, 76, 77, 78, 79, 80, 81, 82, 83, 84, 85, 86, 87, 88, 89, 90, 91, 92, 93]) (q + 12) Q 244 [some (mR 69), some (mI cp), none, some (mI ((e : Nat) : Int)), some (mI (H 64 11)), some (mI ((e_X12_must (e_X12_must H 2) 25) 64 11)), some (mI ((e_X12_must (e_X12_must (e_X12_must (e_X12_must H 2) 25) 2) 26) 64 11)), none] [] (e_X12_must (e_X12_must (e_X12_must (e_X12_must H 2) 25) 2) 26) from ?_)
  refine w2_vc [232, 238, 244, 249] 400 oo_X12 q_X12_tellClause ?_
  refine sp_X12_must (by first | omega | (simp (disch := decide) only [gs_ne, gs_at_ne, gs_at]; omega)) (insub (by decide)) ?_
  have c10 := fx_must (e_X12_must (e_X12_must (e_X12_must (e_X12_must H 2) 25) 2) 26) 2
  refine (show W2 o_X12 M_X12_tellClause (inN [64, 72, 73, 74, 75, 76, 77, 78, 79, 80, 81, 82, 83, 84, 85, 86, 87, 88, 89, 90, 91, 92, 93]) (q + 12) Q 249 [some (mR 69), some (mI cp), none, some (mI ((e : Nat) : Int)), some (mI (H 64 11)), some (mI ((e_X12_must (e_X12_must H 2) 25) 64 11)), some (mI ((e_X12_must (e_X12_must (e_X12_must (e_X12_must H 2) 25) 2) 26) 64 11)), none] [] (e_X12_must (e_X12_must (e_X12_must (e_X12_must (e_X12_must H 2) 25) 2) 26) 2) from ?_)
  exact h
set_option maxHeartbeats 8000000 in
theorem tl_249 {q : Nat} {H : mG} {Q : Option mV → mG → Prop} {cp : Int} {e i1 i2 i3 : Nat} (he : e < 80) (hi : i1 ≤ 600 ∧ i2 ≤ 600 ∧ i3 ≤ 600) (h1 : 0 < H 64 13 → Q none H) (h2 : H 64 13 ≤ 0 → W2 o_X12 M_X12_tellClause (inN [64, 72, 73, 74, 75, 76, 77, 78, 79, 80, 81, 82, 83, 84, 85, 86, 87, 88, 89, 90, 91, 92, 93]) (q + 12) Q 296 [some (mR 69), some (mI cp), none, some (mI ((e : Nat) : Int)), some (mI ((i1 : Nat) : Int)), some (mI ((i2 : Nat) : Int)), some (mI ((i3 : Nat) : Int)), none] [] (gs (gs (gs H 79 e (H 69 i1)) 80 e (H 69 i2)) 81 e (H 69 i3))) : W2 o_X12 M_X12_tellClause (inN [64, 72, 73, 74, 75, 76, 77, 78, 79, 80, 81, 82, 83, 84, 85, 86, 87, 88, 89, 90, 91, 92, 93]) (q + 12) Q 249 [some (mR 69), some (mI cp), none, some (mI ((e : Nat) : Int)), some (mI ((i1 : Nat) : Int)), some (mI ((i2 : Nat) : Int)), some (mI ((i3 : Nat) : Int)), none] [] H := by
  refine w2_vc [270, 282, 283, 295, 296] 400 oo_X12 q_X12_tellClause ?_
  refine ⟨fun (c1 : (H 64 13) ≤ 0) => ?_, fun (c1 : 0 < (H 64 13)) => ?_⟩
  · skip
    refine ⟨(show 0 ≤ ((i1 : Nat) : Int) ∧ ((i1 : Nat) : Int) < ((603 : Nat) : Int) from by first | omega | (simp (disch := omega) only [w32_i]; omega)), ?_⟩
    refine ⟨(show 0 ≤ ((e : Nat) : Int) ∧ ((e : Nat) : Int) < ((80 : Nat) : Int) from by first | omega | (simp (disch := omega) only [w32_i]; omega)), ?_⟩
    refine (show W2 o_X12 M_X12_tellClause (inN [64, 72, 73, 74, 75, 76, 77, 78, 79, 80, 81, 82, 83, 84, 85, 86, 87, 88, 89, 90, 91, 92, 93]) (q + 12) Q 270 [some (mR 69), some (mI cp), none, some (mI ((e : Nat) : Int)), some (mI ((i1 : Nat) : Int)), some (mI ((i2 : Nat) : Int)), some (mI ((i3 : Nat) : Int)), none] [] (gs H 79 (Int.toNat ((e : Nat) : Int)) (H 69 (Int.toNat ((i1 : Nat) : Int)))) from ?_)
    refine w2_vc [270, 282, 283, 295, 296] 400 oo_X12 q_X12_tellClause ?_
    refine ⟨(show 0 ≤ ((i2 : Nat) : Int) ∧ ((i2 : Nat) : Int) < ((603 : Nat) : Int) from by first | omega | (simp (disch := omega) only [w32_i]; omega)), ?_⟩
    refine (show W2 o_X12 M_X12_tellClause (inN [64, 72, 73, 74, 75, 76, 77, 78, 79, 80, 81, 82, 83, 84, 85, 86, 87, 88, 89, 90, 91, 92, 93]) (q + 12) Q 282 [some (mR 69), some (mI cp), none, some (mI ((e : Nat) : Int)), some (mI ((i1 : Nat) : Int)), some (mI ((i2 : Nat) : Int)), some (mI ((i3 : Nat) : Int)), none] [mI (H 69 (Int.toNat ((i2 : Nat) : Int))), mI ((e : Nat) : Int), mR 85] (gs H 79 (Int.toNat ((e : Nat) : Int)) (H 69 (Int.toNat ((i1 : Nat) : Int)))) from ?_)
    refine w2_vc [270, 282, 283, 295, 296] 400 oo_X12 q_X12_tellClause ?_
    refine ⟨(show 0 ≤ ((e : Nat) : Int) ∧ ((e : Nat) : Int) < ((80 : Nat) : Int) from by first | omega | (simp (disch := omega) only [w32_i]; omega)), ?_⟩
    refine (show W2 o_X12 M_X12_tellClause (inN [64, 72, 73, 74, 75, 76, 77, 78, 79, 80, 81, 82, 83, 84, 85, 86, 87, 88, 89, 90, 91, 92, 93]) (q + 12) Q 283 [some (mR 69), some (mI cp), none, some (mI ((e : Nat) : Int)), some (mI ((i1 : Nat) : Int)), some (mI ((i2 : Nat) : Int)), some (mI ((i3 : Nat) : Int)), none] [] (gs (gs H 79 (Int.toNat ((e : Nat) : Int)) (H 69 (Int.toNat ((i1 : Nat) : Int)))) 80 (Int.toNat ((e : Nat) : Int)) (H 69 (Int.toNat ((i2 : Nat) : Int)))) from ?_)
    refine w2_vc [270, 282, 283, 295, 296] 400 oo_X12 q_X12_tellClause ?_
    refine ⟨(show 0 ≤ ((i3 : Nat) : Int) ∧ ((i3 : Nat) : Int) < ((603 : Nat) : Int) from by first | omega | (simp (disch := omega) only [w32_i]; omega)), ?_⟩
    refine (show W2 o_X12 M_X12_tellClause (inN [64, 72, 73, 74, 75, 76, 77, 78, 79, 80, 81, 82, 83, 84, 85, 86, 87, 88, 89, 90, 91, 92, 93]) (q + 12) Q 295 [some (mR 69), some (mI cp), none, some (mI ((e : Nat) : Int)), some (mI ((i1 : Nat) : Int)), some (mI ((i2 : Nat) : Int)), some (mI ((i3 : Nat) : Int)), none] [mI (H 69 (Int.toNat ((i3 : Nat) : Int))), mI ((e : Nat) : Int), mR 86] (gs (gs H 79 (Int.toNat ((e : Nat) : Int)) (H 69 (Int.toNat ((i1 : Nat) : Int)))) 80 (Int.toNat ((e : Nat) : Int)) (H 69 (Int.toNat ((i2 : Nat) : Int)))) from ?_)
    refine w2_vc [270, 282, 283, 295, 296] 400 oo_X12 q_X12_tellClause ?_
    refine ⟨(show 0 ≤ ((e : Nat) : Int) ∧ ((e : Nat) : Int) < ((80 : Nat) : Int) from by first | omega | (simp (disch := omega) only [w32_i]; omega)), ?_⟩
    refine (show W2 o_X12 M_X12_tellClause (inN [64, 72, 73, 74, 75, 76, 77, 78, 79, 80, 81, 82, 83, 84, 85, 86, 87, 88, 89, 90, 91, 92, 93]) (q + 12) Q 296 [some (mR 69), some (mI cp), none, some (mI ((e : Nat) : Int)), some (mI ((i1 : Nat) : Int)), some (mI ((i2 : Nat) : Int)), some (mI ((i3 : Nat) : Int)), none] [] (gs (gs (gs H 79 (Int.toNat ((e : Nat) : Int)) (H 69 (Int.toNat ((i1 : Nat) : Int)))) 80 (Int.toNat ((e : Nat) : Int)) (H 69 (Int.toNat ((i2 : Nat) : Int)))) 81 (Int.toNat ((e : Nat) : Int)) (H 69 (Int.toNat ((i3 : Nat) : Int)))) from ?_)
    rw [st_nat, st_nat, st_nat, st_nat]
    exact h2 (by omega)
  · skip
    exact h1 (by omega)
set_option maxHeartbeats 8000000 in
theorem tl_296 {q : Nat} {H : mG} {Q : Option mV → mG → Prop} {cp : Int} {e i1 i2 i3 : Nat} (he : e < 80) (hi : i1 ≤ 600 ∧ i2 ≤ 600 ∧ i3 ≤ 600) (h1 : (H 79 (Int.toNat ((e : Nat) : Int)) < 1 ∨ 9 < H 79 (Int.toNat ((e : Nat) : Int))) → W2 o_X12 M_X12_tellClause (inN [64, 72, 73, 74, 75, 76, 77, 78, 79, 80, 81, 82, 83, 84, 85, 86, 87, 88, 89, 90, 91, 92, 93]) (q + 12) Q 324 [some (mR 69), some (mI cp), none, some (mI ((e : Nat) : Int)), some (mI ((i1 : Nat) : Int)), some (mI ((i2 : Nat) : Int)), some (mI ((i3 : Nat) : Int)), none] [] (e_X12_wrong H 5 ((i1 : Nat) : Int))) (h2 : (1 ≤ H 79 (Int.toNat ((e : Nat) : Int)) ∧ H 79 (Int.toNat ((e : Nat) : Int)) ≤ 9) → W2 o_X12 M_X12_tellClause (inN [64, 72, 73, 74, 75, 76, 77, 78, 79, 80, 81, 82, 83, 84, 85, 86, 87, 88, 89, 90, 91, 92, 93]) (q + 12) Q 324 [some (mR 69), some (mI cp), none, some (mI ((e : Nat) : Int)), some (mI ((i1 : Nat) : Int)), some (mI ((i2 : Nat) : Int)), some (mI ((i3 : Nat) : Int)), none] [] H) : W2 o_X12 M_X12_tellClause (inN [64, 72, 73, 74, 75, 76, 77, 78, 79, 80, 81, 82, 83, 84, 85, 86, 87, 88, 89, 90, 91, 92, 93]) (q + 12) Q 296 [some (mR 69), some (mI cp), none, some (mI ((e : Nat) : Int)), some (mI ((i1 : Nat) : Int)), some (mI ((i2 : Nat) : Int)), some (mI ((i3 : Nat) : Int)), none] [] H := by
  refine w2_vc [324] 400 oo_X12 q_X12_tellClause ?_
  refine ⟨(show 0 ≤ ((e : Nat) : Int) ∧ ((e : Nat) : Int) < ((80 : Nat) : Int) from by first | omega | (simp (disch := omega) only [w32_i]; omega)), ?_⟩
  refine ⟨fun (c1 : (H 79 (Int.toNat ((e : Nat) : Int))) < 1) => ?_, fun (c1 : 1 ≤ (H 79 (Int.toNat ((e : Nat) : Int)))) => ?_⟩
  · skip
    refine sp_X12_wrong (by first | omega | (simp (disch := decide) only [gs_ne, gs_at_ne, gs_at]; omega)) (insub (by decide)) ?_
    refine (show W2 o_X12 M_X12_tellClause (inN [64, 72, 73, 74, 75, 76, 77, 78, 79, 80, 81, 82, 83, 84, 85, 86, 87, 88, 89, 90, 91, 92, 93]) (q + 12) Q 324 [some (mR 69), some (mI cp), none, some (mI ((e : Nat) : Int)), some (mI ((i1 : Nat) : Int)), some (mI ((i2 : Nat) : Int)), some (mI ((i3 : Nat) : Int)), none] [] (e_X12_wrong H 5 ((i1 : Nat) : Int)) from ?_)
    exact h1 (by first | omega | (rw [st_nat] at *; omega))
  · skip
    refine ⟨(show 0 ≤ ((e : Nat) : Int) ∧ ((e : Nat) : Int) < ((80 : Nat) : Int) from by first | omega | (simp (disch := omega) only [w32_i]; omega)), ?_⟩
    refine ⟨fun (c3 : (H 79 (Int.toNat ((e : Nat) : Int))) ≤ 9) => ?_, fun (c3 : 9 < (H 79 (Int.toNat ((e : Nat) : Int)))) => ?_⟩
    · skip
      refine (show W2 o_X12 M_X12_tellClause (inN [64, 72, 73, 74, 75, 76, 77, 78, 79, 80, 81, 82, 83, 84, 85, 86, 87, 88, 89, 90, 91, 92, 93]) (q + 12) Q 324 [some (mR 69), some (mI cp), none, some (mI ((e : Nat) : Int)), some (mI ((i1 : Nat) : Int)), some (mI ((i2 : Nat) : Int)), some (mI ((i3 : Nat) : Int)), none] [] H from ?_)
      exact h2 (by first | omega | (rw [st_nat] at *; omega))
    · skip
      refine sp_X12_wrong (by first | omega | (simp (disch := decide) only [gs_ne, gs_at_ne, gs_at]; omega)) (insub (by decide)) ?_
      refine (show W2 o_X12 M_X12_tellClause (inN [64, 72, 73, 74, 75, 76, 77, 78, 79, 80, 81, 82, 83, 84, 85, 86, 87, 88, 89, 90, 91, 92, 93]) (q + 12) Q 324 [some (mR 69), some (mI cp), none, some (mI ((e : Nat) : Int)), some (mI ((i1 : Nat) : Int)), some (mI ((i2 : Nat) : Int)), some (mI ((i3 : Nat) : Int)), none] [] (e_X12_wrong H 5 ((i1 : Nat) : Int)) from ?_)
      exact h1 (by first | omega | (rw [st_nat] at *; omega))
set_option maxHeartbeats 8000000 in
theorem tl_324 {q : Nat} {H : mG} {Q : Option mV → mG → Prop} {cp : Int} {e i1 i2 i3 : Nat} (he : e < 80) (hi : i1 ≤ 600 ∧ i2 ≤ 600 ∧ i3 ≤ 600) (h1 : 5 < H 80 (Int.toNat ((e : Nat) : Int)) → W2 o_X12 M_X12_tellClause (inN [64, 72, 73, 74, 75, 76, 77, 78, 79, 80, 81, 82, 83, 84, 85, 86, 87, 88, 89, 90, 91, 92, 93]) (q + 12) Q 341 [some (mR 69), some (mI cp), none, some (mI ((e : Nat) : Int)), some (mI ((i1 : Nat) : Int)), some (mI ((i2 : Nat) : Int)), some (mI ((i3 : Nat) : Int)), none] [] (e_X12_wrong H 5 ((i2 : Nat) : Int))) (h2 : H 80 (Int.toNat ((e : Nat) : Int)) ≤ 5 → W2 o_X12 M_X12_tellClause (inN [64, 72, 73, 74, 75, 76, 77, 78, 79, 80, 81, 82, 83, 84, 85, 86, 87, 88, 89, 90, 91, 92, 93]) (q + 12) Q 341 [some (mR 69), some (mI cp), none, some (mI ((e : Nat) : Int)), some (mI ((i1 : Nat) : Int)), some (mI ((i2 : Nat) : Int)), some (mI ((i3 : Nat) : Int)), none] [] H) : W2 o_X12 M_X12_tellClause (inN [64, 72, 73, 74, 75, 76, 77, 78, 79, 80, 81, 82, 83, 84, 85, 86, 87, 88, 89, 90, 91, 92, 93]) (q + 12) Q 324 [some (mR 69), some (mI cp), none, some (mI ((e : Nat) : Int)), some (mI ((i1 : Nat) : Int)), some (mI ((i2 : Nat) : Int)), some (mI ((i3 : Nat) : Int)), none] [] H := by
  refine w2_vc [341] 400 oo_X12 q_X12_tellClause ?_
  refine ⟨(show 0 ≤ ((e : Nat) : Int) ∧ ((e : Nat) : Int) < ((80 : Nat) : Int) from by first | omega | (simp (disch := omega) only [w32_i]; omega)), ?_⟩
  refine ⟨fun (c1 : (H 80 (Int.toNat ((e : Nat) : Int))) ≤ 5) => ?_, fun (c1 : 5 < (H 80 (Int.toNat ((e : Nat) : Int)))) => ?_⟩
  · skip
    refine (show W2 o_X12 M_X12_tellClause (inN [64, 72, 73, 74, 75, 76, 77, 78, 79, 80, 81, 82, 83, 84, 85, 86, 87, 88, 89, 90, 91, 92, 93]) (q + 12) Q 341 [some (mR 69), some (mI cp), none, some (mI ((e : Nat) : Int)), some (mI ((i1 : Nat) : Int)), some (mI ((i2 : Nat) : Int)), some (mI ((i3 : Nat) : Int)), none] [] H from ?_)
    exact h2 (by first | omega | (rw [st_nat] at *; omega))
  · skip
    refine sp_X12_wrong (by first | omega | (simp (disch := decide) only [gs_ne, gs_at_ne, gs_at]; omega)) (insub (by decide)) ?_
    refine (show W2 o_X12 M_X12_tellClause (inN [64, 72, 73, 74, 75, 76, 77, 78, 79, 80, 81, 82, 83, 84, 85, 86, 87, 88, 89, 90, 91, 92, 93]) (q + 12) Q 341 [some (mR 69), some (mI cp), none, some (mI ((e : Nat) : Int)), some (mI ((i1 : Nat) : Int)), some (mI ((i2 : Nat) : Int)), some (mI ((i3 : Nat) : Int)), none] [] (e_X12_wrong H 5 ((i2 : Nat) : Int)) from ?_)
    exact h1 (by first | omega | (rw [st_nat] at *; omega))
set_option maxHeartbeats 8000000 in
theorem tl_341 {q : Nat} {H : mG} {Q : Option mV → mG → Prop} {cp : Int} {e i1 i2 i3 : Nat} {S : Nat} (hS : H 64 19 = (S : Int)) (h : W2 o_X12 M_X12_tellClause (inN [64, 72, 73, 74, 75, 76, 77, 78, 79, 80, 81, 82, 83, 84, 85, 86, 87, 88, 89, 90, 91, 92, 93]) (q + 12) Q 350 [some (mR 69), some (mI cp), none, some (mI ((e : Nat) : Int)), some (mI ((i1 : Nat) : Int)), some (mI ((i2 : Nat) : Int)), some (mI ((i3 : Nat) : Int)), some (mI (w32 (40 * (H 64 19))))] [] H) : W2 o_X12 M_X12_tellClause (inN [64, 72, 73, 74, 75, 76, 77, 78, 79, 80, 81, 82, 83, 84, 85, 86, 87, 88, 89, 90, 91, 92, 93]) (q + 12) Q 341 [some (mR 69), some (mI cp), none, some (mI ((e : Nat) : Int)), some (mI ((i1 : Nat) : Int)), some (mI ((i2 : Nat) : Int)), some (mI ((i3 : Nat) : Int)), none] [] H := by
  refine w2_vc [350] 400 oo_X12 q_X12_tellClause ?_
  refine (show W2 o_X12 M_X12_tellClause (inN [64, 72, 73, 74, 75, 76, 77, 78, 79, 80, 81, 82, 83, 84, 85, 86, 87, 88, 89, 90, 91, 92, 93]) (q + 12) Q 350 [some (mR 69), some (mI cp), none, some (mI ((e : Nat) : Int)), some (mI ((i1 : Nat) : Int)), some (mI ((i2 : Nat) : Int)), some (mI ((i3 : Nat) : Int)), some (mI (w32 (40 * (H 64 19))))] [] H from ?_)
  exact h
set_option maxHeartbeats 8000000 in
theorem tl_350 {q : Nat} {H : mG} {Q : Option mV → mG → Prop} {cp : Int} {e i1 i2 i3 j : Nat} (he : e < 80) (hi : i2 ≤ 600) (h1 : e ≤ j → W2 o_X12 M_X12_tellClause (inN [64, 72, 73, 74, 75, 76, 77, 78, 79, 80, 81, 82, 83, 84, 85, 86, 87, 88, 89, 90, 91, 92, 93]) (q + 12) Q 494 [some (mR 69), some (mI cp), none, some (mI ((e : Nat) : Int)), none, none, none, none] [] H) (h2 : j < e → (H 77 (Int.toNat ((j : Nat) : Int)) = 0 ∧ H 78 (Int.toNat ((j : Nat) : Int)) = cp ∧ H 80 (Int.toNat ((j : Nat) : Int)) = H 80 (Int.toNat ((e : Nat) : Int))) → W2 o_X12 M_X12_tellClause (inN [64, 72, 73, 74, 75, 76, 77, 78, 79, 80, 81, 82, 83, 84, 85, 86, 87, 88, 89, 90, 91, 92, 93]) (q + 12) Q 350 [some (mR 69), some (mI cp), none, some (mI ((e : Nat) : Int)), some (mI ((i1 : Nat) : Int)), some (mI ((i2 : Nat) : Int)), some (mI ((i3 : Nat) : Int)), some (mI ((j + 1 : Nat) : Int))] [] (e_X12_wrong H 3 ((i2 : Nat) : Int))) (h3 : j < e → ¬ (H 77 (Int.toNat ((j : Nat) : Int)) = 0 ∧ H 78 (Int.toNat ((j : Nat) : Int)) = cp ∧ H 80 (Int.toNat ((j : Nat) : Int)) = H 80 (Int.toNat ((e : Nat) : Int))) → W2 o_X12 M_X12_tellClause (inN [64, 72, 73, 74, 75, 76, 77, 78, 79, 80, 81, 82, 83, 84, 85, 86, 87, 88, 89, 90, 91, 92, 93]) (q + 12) Q 350 [some (mR 69), some (mI cp), none, some (mI ((e : Nat) : Int)), some (mI ((i1 : Nat) : Int)), some (mI ((i2 : Nat) : Int)), some (mI ((i3 : Nat) : Int)), some (mI ((j + 1 : Nat) : Int))] [] H) : W2 o_X12 M_X12_tellClause (inN [64, 72, 73, 74, 75, 76, 77, 78, 79, 80, 81, 82, 83, 84, 85, 86, 87, 88, 89, 90, 91, 92, 93]) (q + 12) Q 350 [some (mR 69), some (mI cp), none, some (mI ((e : Nat) : Int)), some (mI ((i1 : Nat) : Int)), some (mI ((i2 : Nat) : Int)), some (mI ((i3 : Nat) : Int)), some (mI ((j : Nat) : Int))] [] H := by
  refine w2_vc [350, 494] 400 oo_X12 q_X12_tellClause ?_
  refine ⟨fun (c1 : ((e : Nat) : Int) ≤ ((j : Nat) : Int)) => ?_, fun (c1 : ((j : Nat) : Int) < ((e : Nat) : Int)) => ?_⟩
  · skip
    refine (show W2 o_X12 M_X12_tellClause (inN [64, 72, 73, 74, 75, 76, 77, 78, 79, 80, 81, 82, 83, 84, 85, 86, 87, 88, 89, 90, 91, 92, 93]) (q + 12) Q 494 [some (mR 69), some (mI cp), none, some (mI ((e : Nat) : Int)), some (mI ((i1 : Nat) : Int)), some (mI ((i2 : Nat) : Int)), some (mI ((i3 : Nat) : Int)), some (mI ((j : Nat) : Int))] [] H from ?_)
    refine WP.fg (L' := [some (mR 69), some (mI cp), none, some (mI ((e : Nat) : Int)), none, none, none, none]) ⟨rfl, rfl, rfl, trivial⟩ ?_
    exact h1 (by omega)
  · skip
    refine ⟨(show 0 ≤ ((j : Nat) : Int) ∧ ((j : Nat) : Int) < ((80 : Nat) : Int) from by first | omega | (simp (disch := omega) only [w32_i]; omega)), ?_⟩
    refine ⟨fun (c2 : ¬ (H 77 (Int.toNat ((j : Nat) : Int))) = 0) => ?_, fun (c2 : (H 77 (Int.toNat ((j : Nat) : Int))) = 0) => ?_⟩
    · skip
      refine (show W2 o_X12 M_X12_tellClause (inN [64, 72, 73, 74, 75, 76, 77, 78, 79, 80, 81, 82, 83, 84, 85, 86, 87, 88, 89, 90, 91, 92, 93]) (q + 12) Q 350 [some (mR 69), some (mI cp), none, some (mI ((e : Nat) : Int)), some (mI ((i1 : Nat) : Int)), some (mI ((i2 : Nat) : Int)), some (mI ((i3 : Nat) : Int)), some (mI (w32 (((j : Nat) : Int) + 1)))] [] H from ?_)
      rw [w32_nat (by omega)]
      exact h3 (by omega) (by omega)
    · skip
      refine ⟨(show 0 ≤ ((j : Nat) : Int) ∧ ((j : Nat) : Int) < ((80 : Nat) : Int) from by first | omega | (simp (disch := omega) only [w32_i]; omega)), ?_⟩
      refine ⟨fun (c3 : ¬ (H 78 (Int.toNat ((j : Nat) : Int))) = cp) => ?_, fun (c3 : (H 78 (Int.toNat ((j : Nat) : Int))) = cp) => ?_⟩
      · skip
        refine (show W2 o_X12 M_X12_tellClause (inN [64, 72, 73, 74, 75, 76, 77, 78, 79, 80, 81, 82, 83, 84, 85, 86, 87, 88, 89, 90, 91, 92, 93]) (q + 12) Q 350 [some (mR 69), some (mI cp), none, some (mI ((e : Nat) : Int)), some (mI ((i1 : Nat) : Int)), some (mI ((i2 : Nat) : Int)), some (mI ((i3 : Nat) : Int)), some (mI (w32 (((j : Nat) : Int) + 1)))] [] H from ?_)
        rw [w32_nat (by omega)]
        exact h3 (by omega) (by omega)
      · skip
        refine ⟨(show 0 ≤ ((j : Nat) : Int) ∧ ((j : Nat) : Int) < ((80 : Nat) : Int) from by first | omega | (simp (disch := omega) only [w32_i]; omega)), ?_⟩
        refine ⟨(show 0 ≤ ((e : Nat) : Int) ∧ ((e : Nat) : Int) < ((80 : Nat) : Int) from by first | omega | (simp (disch := omega) only [w32_i]; omega)), ?_⟩
        refine ⟨fun (c4 : ¬ (H 80 (Int.toNat ((j : Nat) : Int))) = (H 80 (Int.toNat ((e : Nat) : Int)))) => ?_, fun (c4 : (H 80 (Int.toNat ((j : Nat) : Int))) = (H 80 (Int.toNat ((e : Nat) : Int)))) => ?_⟩
        · skip
          refine (show W2 o_X12 M_X12_tellClause (inN [64, 72, 73, 74, 75, 76, 77, 78, 79, 80, 81, 82, 83, 84, 85, 86, 87, 88, 89, 90, 91, 92, 93]) (q + 12) Q 350 [some (mR 69), some (mI cp), none, some (mI ((e : Nat) : Int)), some (mI ((i1 : Nat) : Int)), some (mI ((i2 : Nat) : Int)), some (mI ((i3 : Nat) : Int)), some (mI (w32 (((j : Nat) : Int) + 1)))] [] H from ?_)
          rw [w32_nat (by omega)]
          exact h3 (by omega) (by omega)
        · skip
          refine sp_X12_wrong (by first | omega | (simp (disch := decide) only [gs_ne, gs_at_ne, gs_at]; omega)) (insub (by decide)) ?_
          refine (show W2 o_X12 M_X12_tellClause (inN [64, 72, 73, 74, 75, 76, 77, 78, 79, 80, 81, 82, 83, 84, 85, 86, 87, 88, 89, 90, 91, 92, 93]) (q + 12) Q 350 [some (mR 69), some (mI cp), none, some (mI ((e : Nat) : Int)), some (mI ((i1 : Nat) : Int)), some (mI ((i2 : Nat) : Int)), some (mI ((i3 : Nat) : Int)), some (mI (w32 (((j : Nat) : Int) + 1)))] [] (e_X12_wrong H 3 ((i2 : Nat) : Int)) from ?_)
          rw [w32_nat (by omega)]
          exact h2 (by omega) (by omega)
set_option maxHeartbeats 8000000 in
theorem tl_409 {q : Nat} {H : mG} {Q : Option mV → mG → Prop} {cp : Int} {e : Nat} {R : mG → Prop} (hE : (∀ Q' : Option mV → mG → Prop, (∀ H', R H' → Q' none H') → P2 (inN [64, 72, 73, 74, 75, 76, 77, 78, 79, 80, 81, 82, 83, 84, 85, 86, 87, 88, 89, 90, 91, 92, 93]) (q + 11) M_X12_condition [mR 69] H Q')) (h : ∀ H2, R H2 → W2 o_X12 M_X12_tellClause (inN [64, 72, 73, 74, 75, 76, 77, 78, 79, 80, 81, 82, 83, 84, 85, 86, 87, 88, 89, 90, 91, 92, 93]) (q + 12) Q 494 [some (mR 69), some (mI cp), none, some (mI ((e : Nat) : Int)), none, none, none, none] [] H2) : W2 o_X12 M_X12_tellClause (inN [64, 72, 73, 74, 75, 76, 77, 78, 79, 80, 81, 82, 83, 84, 85, 86, 87, 88, 89, 90, 91, 92, 93]) (q + 12) Q 409 [some (mR 69), some (mI cp), none, some (mI ((e : Nat) : Int)), none, none, none, none] [] H := by
  refine w2_vc [413, 494] 400 oo_X12 q_X12_tellClause ?_
  refine hE _ (fun H' hH' => ?_)
  refine (show W2 o_X12 M_X12_tellClause (inN [64, 72, 73, 74, 75, 76, 77, 78, 79, 80, 81, 82, 83, 84, 85, 86, 87, 88, 89, 90, 91, 92, 93]) (q + 12) Q 413 [some (mR 69), some (mI cp), none, some (mI ((e : Nat) : Int)), none, none, none, none] [] H' from ?_)
  refine w2_vc [413, 494] 400 oo_X12 q_X12_tellClause ?_
  refine (show W2 o_X12 M_X12_tellClause (inN [64, 72, 73, 74, 75, 76, 77, 78, 79, 80, 81, 82, 83, 84, 85, 86, 87, 88, 89, 90, 91, 92, 93]) (q + 12) Q 494 [some (mR 69), some (mI cp), none, some (mI ((e : Nat) : Int)), none, none, none, none] [] H' from ?_)
  exact h H' hH'
set_option maxHeartbeats 8000000 in
theorem tl_416 {q : Nat} {H : mG} {Q : Option mV → mG → Prop} {cp : Int} {e : Nat} (hT : 0 ≤ H 64 11 ∧ H 64 11 ≤ 600) (he : e < 80) (h : W2 o_X12 M_X12_tellClause (inN [64, 72, 73, 74, 75, 76, 77, 78, 79, 80, 81, 82, 83, 84, 85, 86, 87, 88, 89, 90, 91, 92, 93]) (q + 12) Q 494 [some (mR 69), some (mI cp), none, some (mI ((e : Nat) : Int)), none, none, none, none] [] (e_X12_must (gs H 84 e (H 64 11)) 1)) : W2 o_X12 M_X12_tellClause (inN [64, 72, 73, 74, 75, 76, 77, 78, 79, 80, 81, 82, 83, 84, 85, 86, 87, 88, 89, 90, 91, 92, 93]) (q + 12) Q 416 [some (mR 69), some (mI cp), none, some (mI ((e : Nat) : Int)), none, none, none, none] [] H := by
  refine w2_vc [426, 494] 400 oo_X12 q_X12_tellClause ?_
  refine ⟨(show 0 ≤ ((e : Nat) : Int) ∧ ((e : Nat) : Int) < ((80 : Nat) : Int) from by first | omega | (simp (disch := omega) only [w32_i]; omega)), ?_⟩
  refine (show W2 o_X12 M_X12_tellClause (inN [64, 72, 73, 74, 75, 76, 77, 78, 79, 80, 81, 82, 83, 84, 85, 86, 87, 88, 89, 90, 91, 92, 93]) (q + 12) Q 426 [some (mR 69), some (mI cp), none, some (mI ((e : Nat) : Int)), none, none, none, none] [] (gs H 84 (Int.toNat ((e : Nat) : Int)) (H 64 11)) from ?_)
  refine w2_vc [426, 494] 400 oo_X12 q_X12_tellClause ?_
  refine sp_X12_must (by first | omega | (simp (disch := decide) only [gs_ne, gs_at_ne, gs_at]; omega)) (insub (by decide)) ?_
  have c2 := fx_must (gs H 84 (Int.toNat ((e : Nat) : Int)) (H 64 11)) 1
  refine (show W2 o_X12 M_X12_tellClause (inN [64, 72, 73, 74, 75, 76, 77, 78, 79, 80, 81, 82, 83, 84, 85, 86, 87, 88, 89, 90, 91, 92, 93]) (q + 12) Q 494 [some (mR 69), some (mI cp), none, some (mI ((e : Nat) : Int)), none, none, none, none] [] (e_X12_must (gs H 84 (Int.toNat ((e : Nat) : Int)) (H 64 11)) 1) from ?_)
  rw [st_nat]
  exact h
set_option maxHeartbeats 8000000 in
theorem tl_434 {q : Nat} {H : mG} {Q : Option mV → mG → Prop} {cp : Int} {e : Nat} (hT : 0 ≤ H 64 11 ∧ H 64 11 ≤ 600) (h : W2 o_X12 M_X12_tellClause (inN [64, 72, 73, 74, 75, 76, 77, 78, 79, 80, 81, 82, 83, 84, 85, 86, 87, 88, 89, 90, 91, 92, 93]) (q + 12) Q 451 [some (mR 69), some (mI cp), none, some (mI ((e : Nat) : Int)), some (mI (H 64 11)), none, none, none] [] (e_X12_must (e_X12_must H 2) 30)) : W2 o_X12 M_X12_tellClause (inN [64, 72, 73, 74, 75, 76, 77, 78, 79, 80, 81, 82, 83, 84, 85, 86, 87, 88, 89, 90, 91, 92, 93]) (q + 12) Q 434 [some (mR 69), some (mI cp), none, some (mI ((e : Nat) : Int)), none, none, none, none] [] H := by
  refine w2_vc [451] 400 oo_X12 q_X12_tellClause ?_
  refine sp_X12_must (by first | omega | (simp (disch := decide) only [gs_ne, gs_at_ne, gs_at]; omega)) (insub (by decide)) ?_
  have c2 := fx_must H 2
  refine sp_X12_must (by first | omega | (simp (disch := decide) only [gs_ne, gs_at_ne, gs_at]; omega)) (insub (by decide)) ?_
  have c4 := fx_must (e_X12_must H 2) 30
  refine (show W2 o_X12 M_X12_tellClause (inN [64, 72, 73, 74, 75, 76, 77, 78, 79, 80, 81, 82, 83, 84, 85, 86, 87, 88, 89, 90, 91, 92, 93]) (q + 12) Q 451 [some (mR 69), some (mI cp), none, some (mI ((e : Nat) : Int)), some (mI (H 64 11)), none, none, none] [] (e_X12_must (e_X12_must H 2) 30) from ?_)
  exact h
set_option maxHeartbeats 8000000 in
theorem tl_451 {q : Nat} {H : mG} {Q : Option mV → mG → Prop} {cp : Int} {e i1 : Nat} (he : e < 80) (hi : i1 ≤ 600) (h1 : 0 < H 64 13 → Q none H) (h2 : H 64 13 ≤ 0 → W2 o_X12 M_X12_tellClause (inN [64, 72, 73, 74, 75, 76, 77, 78, 79, 80, 81, 82, 83, 84, 85, 86, 87, 88, 89, 90, 91, 92, 93]) (q + 12) Q 472 [some (mR 69), some (mI cp), none, some (mI ((e : Nat) : Int)), some (mI ((i1 : Nat) : Int)), none, none, none] [] (gs H 79 e (H 69 i1))) : W2 o_X12 M_X12_tellClause (inN [64, 72, 73, 74, 75, 76, 77, 78, 79, 80, 81, 82, 83, 84, 85, 86, 87, 88, 89, 90, 91, 92, 93]) (q + 12) Q 451 [some (mR 69), some (mI cp), none, some (mI ((e : Nat) : Int)), some (mI ((i1 : Nat) : Int)), none, none, none] [] H := by
  refine w2_vc [472] 400 oo_X12 q_X12_tellClause ?_
  refine ⟨fun (c1 : (H 64 13) ≤ 0) => ?_, fun (c1 : 0 < (H 64 13)) => ?_⟩
  · skip
    refine ⟨(show 0 ≤ ((i1 : Nat) : Int) ∧ ((i1 : Nat) : Int) < ((603 : Nat) : Int) from by first | omega | (simp (disch := omega) only [w32_i]; omega)), ?_⟩
    refine ⟨(show 0 ≤ ((e : Nat) : Int) ∧ ((e : Nat) : Int) < ((80 : Nat) : Int) from by first | omega | (simp (disch := omega) only [w32_i]; omega)), ?_⟩
    refine (show W2 o_X12 M_X12_tellClause (inN [64, 72, 73, 74, 75, 76, 77, 78, 79, 80, 81, 82, 83, 84, 85, 86, 87, 88, 89, 90, 91, 92, 93]) (q + 12) Q 472 [some (mR 69), some (mI cp), none, some (mI ((e : Nat) : Int)), some (mI ((i1 : Nat) : Int)), none, none, none] [] (gs H 79 (Int.toNat ((e : Nat) : Int)) (H 69 (Int.toNat ((i1 : Nat) : Int)))) from ?_)
    rw [st_nat, st_nat]
    exact h2 (by omega)
  · skip
    exact h1 (by omega)
set_option maxHeartbeats 8000000 in
theorem tl_472 {q : Nat} {H : mG} {Q : Option mV → mG → Prop} {cp : Int} {e i1 : Nat} (he : e < 80) (hi : i1 ≤ 600) (h2 : 100 < H 79 e → W2 o_X12 M_X12_tellClause (inN [64, 72, 73, 74, 75, 76, 77, 78, 79, 80, 81, 82, 83, 84, 85, 86, 87, 88, 89, 90, 91, 92, 93]) (q + 12) Q 490 [some (mR 69), some (mI cp), none, some (mI ((e : Nat) : Int)), none, none, none, none] [] (e_X12_wrong H 5 ((i1 : Nat) : Int))) (h3 : H 79 e ≤ 100 → W2 o_X12 M_X12_tellClause (inN [64, 72, 73, 74, 75, 76, 77, 78, 79, 80, 81, 82, 83, 84, 85, 86, 87, 88, 89, 90, 91, 92, 93]) (q + 12) Q 490 [some (mR 69), some (mI cp), none, some (mI ((e : Nat) : Int)), none, none, none, none] [] H) : W2 o_X12 M_X12_tellClause (inN [64, 72, 73, 74, 75, 76, 77, 78, 79, 80, 81, 82, 83, 84, 85, 86, 87, 88, 89, 90, 91, 92, 93]) (q + 12) Q 472 [some (mR 69), some (mI cp), none, some (mI ((e : Nat) : Int)), some (mI ((i1 : Nat) : Int)), none, none, none] [] H := by
  refine w2_vc [490] 400 oo_X12 q_X12_tellClause ?_
  refine ⟨(show 0 ≤ ((e : Nat) : Int) ∧ ((e : Nat) : Int) < ((80 : Nat) : Int) from by first | omega | (simp (disch := omega) only [w32_i]; omega)), ?_⟩
  refine ⟨fun (c1 : (H 79 (Int.toNat ((e : Nat) : Int))) ≤ 100) => ?_, fun (c1 : 100 < (H 79 (Int.toNat ((e : Nat) : Int)))) => ?_⟩
  · skip
    refine (show W2 o_X12 M_X12_tellClause (inN [64, 72, 73, 74, 75, 76, 77, 78, 79, 80, 81, 82, 83, 84, 85, 86, 87, 88, 89, 90, 91, 92, 93]) (q + 12) Q 490 [some (mR 69), some (mI cp), none, some (mI ((e : Nat) : Int)), some (mI ((i1 : Nat) : Int)), none, none, none] [] H from ?_)
    refine WP.fg (L' := [some (mR 69), some (mI cp), none, some (mI ((e : Nat) : Int)), none, none, none, none]) ⟨rfl, rfl, rfl, trivial⟩ ?_
    exact h3 (by rw [st_nat] at c1; omega)
  · skip
    refine sp_X12_wrong (by first | omega | (simp (disch := decide) only [gs_ne, gs_at_ne, gs_at]; omega)) (insub (by decide)) ?_
    refine (show W2 o_X12 M_X12_tellClause (inN [64, 72, 73, 74, 75, 76, 77, 78, 79, 80, 81, 82, 83, 84, 85, 86, 87, 88, 89, 90, 91, 92, 93]) (q + 12) Q 490 [some (mR 69), some (mI cp), none, some (mI ((e : Nat) : Int)), some (mI ((i1 : Nat) : Int)), none, none, none] [] (e_X12_wrong H 5 ((i1 : Nat) : Int)) from ?_)
    refine WP.fg (L' := [some (mR 69), some (mI cp), none, some (mI ((e : Nat) : Int)), none, none, none, none]) ⟨rfl, rfl, rfl, trivial⟩ ?_
    exact h2 (by rw [st_nat] at c1; omega)
set_option maxHeartbeats 8000000 in
theorem tl_490 {q : Nat} {H : mG} {Q : Option mV → mG → Prop} {cp : Int} {e : Nat} {R : mG → Prop} (hE : (∀ Q' : Option mV → mG → Prop, (∀ H', R H' → Q' none H') → P2 (inN [64, 72, 73, 74, 75, 76, 77, 78, 79, 80, 81, 82, 83, 84, 85, 86, 87, 88, 89, 90, 91, 92, 93]) (q + 11) M_X12_condition [mR 69] H Q')) (h : ∀ H2, R H2 → W2 o_X12 M_X12_tellClause (inN [64, 72, 73, 74, 75, 76, 77, 78, 79, 80, 81, 82, 83, 84, 85, 86, 87, 88, 89, 90, 91, 92, 93]) (q + 12) Q 494 [some (mR 69), some (mI cp), none, some (mI ((e : Nat) : Int)), none, none, none, none] [] H2) : W2 o_X12 M_X12_tellClause (inN [64, 72, 73, 74, 75, 76, 77, 78, 79, 80, 81, 82, 83, 84, 85, 86, 87, 88, 89, 90, 91, 92, 93]) (q + 12) Q 490 [some (mR 69), some (mI cp), none, some (mI ((e : Nat) : Int)), none, none, none, none] [] H := by
  refine w2_vc [494] 400 oo_X12 q_X12_tellClause ?_
  refine hE _ (fun H' hH' => ?_)
  refine (show W2 o_X12 M_X12_tellClause (inN [64, 72, 73, 74, 75, 76, 77, 78, 79, 80, 81, 82, 83, 84, 85, 86, 87, 88, 89, 90, 91, 92, 93]) (q + 12) Q 494 [some (mR 69), some (mI cp), none, some (mI ((e : Nat) : Int)), none, none, none, none] [] H' from ?_)
  exact h H' hH'
set_option maxHeartbeats 8000000 in
theorem tl_494 {q : Nat} {H : mG} {Q : Option mV → mG → Prop} {cp : Int} {e : Nat} (hT : 0 ≤ H 64 11 ∧ H 64 11 ≤ 600) (h : W2 o_X12 M_X12_tellClause (inN [64, 72, 73, 74, 75, 76, 77, 78, 79, 80, 81, 82, 83, 84, 85, 86, 87, 88, 89, 90, 91, 92, 93]) (q + 12) Q 499 [some (mR 69), some (mI cp), none, some (mI ((e : Nat) : Int)), none, none, none, none] [] (e_X12_must H 4)) : W2 o_X12 M_X12_tellClause (inN [64, 72, 73, 74, 75, 76, 77, 78, 79, 80, 81, 82, 83, 84, 85, 86, 87, 88, 89, 90, 91, 92, 93]) (q + 12) Q 494 [some (mR 69), some (mI cp), none, some (mI ((e : Nat) : Int)), none, none, none, none] [] H := by
  refine w2_vc [499] 400 oo_X12 q_X12_tellClause ?_
  refine sp_X12_must (by first | omega | (simp (disch := decide) only [gs_ne, gs_at_ne, gs_at]; omega)) (insub (by decide)) ?_
  have c2 := fx_must H 4
  refine (show W2 o_X12 M_X12_tellClause (inN [64, 72, 73, 74, 75, 76, 77, 78, 79, 80, 81, 82, 83, 84, 85, 86, 87, 88, 89, 90, 91, 92, 93]) (q + 12) Q 499 [some (mR 69), some (mI cp), none, some (mI ((e : Nat) : Int)), none, none, none, none] [] (e_X12_must H 4) from ?_)
  exact h
set_option maxHeartbeats 8000000 in
theorem tl_499 {q : Nat} {H : mG} {Q : Option mV → mG → Prop} {cp : Int} {e : Nat} (hs : 0 ≤ H 64 19 ∧ H 64 19 ≤ 1) (he : e < 80) (h1 : 0 < H 64 13 → Q none H) (h2 : H 64 13 ≤ 0 → Q none (gs (gs H 83 (Int.toNat ((e : Nat) : Int)) (H 85 (Int.toNat (H 64 19)))) 76 (Int.toNat (H 64 19)) (w32 ((H 76 (Int.toNat (H 64 19))) + 1)))) : W2 o_X12 M_X12_tellClause (inN [64, 72, 73, 74, 75, 76, 77, 78, 79, 80, 81, 82, 83, 84, 85, 86, 87, 88, 89, 90, 91, 92, 93]) (q + 12) Q 499 [some (mR 69), some (mI cp), none, some (mI ((e : Nat) : Int)), none, none, none, none] [] H := by
  refine w2_vc [522, 532, 535] 400 oo_X12 q_X12_tellClause ?_
  refine ⟨fun (c1 : (H 64 13) ≤ 0) => ?_, fun (c1 : 0 < (H 64 13)) => ?_⟩
  · skip
    refine ⟨(show 0 ≤ (H 64 19) ∧ (H 64 19) < ((2 : Nat) : Int) from by first | omega | (simp (disch := omega) only [w32_i]; omega)), ?_⟩
    refine ⟨(show 0 ≤ ((e : Nat) : Int) ∧ ((e : Nat) : Int) < ((80 : Nat) : Int) from by first | omega | (simp (disch := omega) only [w32_i]; omega)), ?_⟩
    refine (show W2 o_X12 M_X12_tellClause (inN [64, 72, 73, 74, 75, 76, 77, 78, 79, 80, 81, 82, 83, 84, 85, 86, 87, 88, 89, 90, 91, 92, 93]) (q + 12) Q 522 [some (mR 69), some (mI cp), none, some (mI ((e : Nat) : Int)), none, none, none, none] [] (gs H 83 (Int.toNat ((e : Nat) : Int)) (H 85 (Int.toNat (H 64 19)))) from ?_)
    refine w2_vc [522, 532, 535] 400 oo_X12 q_X12_tellClause ?_
    refine ⟨(show 0 ≤ (H 64 19) ∧ (H 64 19) < ((2 : Nat) : Int) from by first | omega | (simp (disch := omega) only [w32_i]; omega)), ?_⟩
    refine (show W2 o_X12 M_X12_tellClause (inN [64, 72, 73, 74, 75, 76, 77, 78, 79, 80, 81, 82, 83, 84, 85, 86, 87, 88, 89, 90, 91, 92, 93]) (q + 12) Q 532 [some (mR 69), some (mI cp), none, some (mI ((e : Nat) : Int)), none, none, none, none] [mI (H 76 (Int.toNat (H 64 19))), mI (H 64 19), mR 81] (gs H 83 (Int.toNat ((e : Nat) : Int)) (H 85 (Int.toNat (H 64 19)))) from ?_)
    refine w2_vc [522, 532, 535] 400 oo_X12 q_X12_tellClause ?_
    refine ⟨(show 0 ≤ (H 64 19) ∧ (H 64 19) < ((2 : Nat) : Int) from by first | omega | (simp (disch := omega) only [w32_i]; omega)), ?_⟩
    refine (show W2 o_X12 M_X12_tellClause (inN [64, 72, 73, 74, 75, 76, 77, 78, 79, 80, 81, 82, 83, 84, 85, 86, 87, 88, 89, 90, 91, 92, 93]) (q + 12) Q 535 [some (mR 69), some (mI cp), none, some (mI ((e : Nat) : Int)), none, none, none, none] [] (gs (gs H 83 (Int.toNat ((e : Nat) : Int)) (H 85 (Int.toNat (H 64 19)))) 76 (Int.toNat (H 64 19)) (w32 ((H 76 (Int.toNat (H 64 19))) + 1))) from ?_)
    refine w2_vc [522, 532, 535] 400 oo_X12 q_X12_tellClause ?_
    exact h2 (by omega)
  · skip
    exact h1 (by omega)
