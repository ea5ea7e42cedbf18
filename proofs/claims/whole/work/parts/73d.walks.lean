/-! ===== printed by wip/whole/gen73.py: the reference tells its text: a campaign ===== -/
set_option maxHeartbeats 8000000 in
theorem tm_0 {D : Nat → Bool} {q : Nat} {H : mG} {Q : Option mV → mG → Prop} (hD : ∀ k, D k = false → inN [64, 72, 73, 74, 75, 76, 77, 78, 79, 80, 81, 82, 83, 84, 85, 86, 87, 88, 89, 90, 91, 92, 93] k = false) (hT : 0 ≤ H 64 11 ∧ H 64 11 ≤ 600) (hs : 0 ≤ H 64 19 ∧ H 64 19 ≤ 1) (h1 : (H 64 13 = 0 ∧ (H 67 (Int.toNat (H 64 11))) = 20) → H 72 (Int.toNat (H 64 19)) = 8 → W2 o_X12 M_X12_tellCampaign (inN [64, 72, 73, 74, 75, 76, 77, 78, 79, 80, 81, 82, 83, 84, 85, 86, 87, 88, 89, 90, 91, 92, 93]) (q + 14) Q 28 [some (mR 69), none, none, none, none, none] [] (e_X12_fail H 2)) (h2 : ¬ (H 64 13 = 0 ∧ (H 67 (Int.toNat (H 64 11))) = 20 ∧ H 72 (Int.toNat (H 64 19)) = 8) → W2 o_X12 M_X12_tellCampaign (inN [64, 72, 73, 74, 75, 76, 77, 78, 79, 80, 81, 82, 83, 84, 85, 86, 87, 88, 89, 90, 91, 92, 93]) (q + 14) Q 28 [some (mR 69), none, none, none, none, none] [] H) : P2 D (q + 14) M_X12_tellCampaign [mR 69] H Q := by
  refine MP.to (D2 := inN [64, 72, 73, 74, 75, 76, 77, 78, 79, 80, 81, 82, 83, 84, 85, 86, 87, 88, 89, 90, 91, 92, 93]) (Q2 := Q) ?_ hD (fun v G' q _ => q)
  refine p2_vc [28] 400 oo_X12 q_X12_tellCampaign (by decide) rfl (Nat.le_of_ble_eq_true rfl) ?_
  refine sp_X12_is (by first | omega | (simp (disch := decide) only [gs_ne, gs_at_ne, gs_at]; omega)) ?_
  have c2 := fa_X12_is H 20
  refine ⟨fun (c3 : (f_X12_is H 20) = 0) => ?_, fun (c3 : ¬ (f_X12_is H 20) = 0) => ?_⟩
  · skip
    refine (show W2 o_X12 M_X12_tellCampaign (inN [64, 72, 73, 74, 75, 76, 77, 78, 79, 80, 81, 82, 83, 84, 85, 86, 87, 88, 89, 90, 91, 92, 93]) (q + 14) Q 28 [some (mR 69), none, none, none, none, none] [] H from ?_)
    exact h2 (by omega)
  · skip
    refine ⟨(show 0 ≤ (H 64 19) ∧ (H 64 19) < ((2 : Nat) : Int) from by first | omega | (simp (disch := omega) only [w32_i]; omega)), ?_⟩
    refine ⟨fun (c4 : ¬ (H 72 (Int.toNat (H 64 19))) = 8) => ?_, fun (c4 : (H 72 (Int.toNat (H 64 19))) = 8) => ?_⟩
    · skip
      refine (show W2 o_X12 M_X12_tellCampaign (inN [64, 72, 73, 74, 75, 76, 77, 78, 79, 80, 81, 82, 83, 84, 85, 86, 87, 88, 89, 90, 91, 92, 93]) (q + 14) Q 28 [some (mR 69), none, none, none, none, none] [] H from ?_)
      exact h2 (by omega)
    · skip
      refine sp_X12_fail (by first | omega | (simp (disch := decide) only [gs_ne, gs_at_ne, gs_at]; omega)) (insub (by decide)) ?_
      have c6 := fx_fail H 2
      refine (show W2 o_X12 M_X12_tellCampaign (inN [64, 72, 73, 74, 75, 76, 77, 78, 79, 80, 81, 82, 83, 84, 85, 86, 87, 88, 89, 90, 91, 92, 93]) (q + 14) Q 28 [some (mR 69), none, none, none, none, none] [] (e_X12_fail H 2) from ?_)
      exact h1 (by omega) (by omega)
set_option maxHeartbeats 8000000 in
theorem tm_28 {q : Nat} {H : mG} {Q : Option mV → mG → Prop} (hT : 0 ≤ H 64 11 ∧ H 64 11 ≤ 600) (h : W2 o_X12 M_X12_tellCampaign (inN [64, 72, 73, 74, 75, 76, 77, 78, 79, 80, 81, 82, 83, 84, 85, 86, 87, 88, 89, 90, 91, 92, 93]) (q + 14) Q 81 [some (mR 69), some (mI ((e_X12_must H 20) 64 11)), some (mI ((e_X12_must (e_X12_must (e_X12_must H 20) 1) 21) 64 11)), some (mI ((e_X12_must (e_X12_must (e_X12_must (e_X12_must (e_X12_must H 20) 1) 21) 2) 22) 64 11)), none, none] [] (e_X12_must (e_X12_must (e_X12_must (e_X12_must (e_X12_must (e_X12_must (e_X12_must H 20) 1) 21) 2) 22) 2) 4)) : W2 o_X12 M_X12_tellCampaign (inN [64, 72, 73, 74, 75, 76, 77, 78, 79, 80, 81, 82, 83, 84, 85, 86, 87, 88, 89, 90, 91, 92, 93]) (q + 14) Q 28 [some (mR 69), none, none, none, none, none] [] H := by
  refine w2_vc [55, 60, 66, 71, 76, 81] 400 oo_X12 q_X12_tellCampaign ?_
  refine sp_X12_must (by first | omega | (simp (disch := decide) only [gs_ne, gs_at_ne, gs_at]; omega)) (insub (by decide)) ?_
  have c2 := fx_must H 20
  refine sp_X12_must (by first | omega | (simp (disch := decide) only [gs_ne, gs_at_ne, gs_at]; omega)) (insub (by decide)) ?_
  have c4 := fx_must (e_X12_must H 20) 1
  refine sp_X12_must (by first | omega | (simp (disch := decide) only [gs_ne, gs_at_ne, gs_at]; omega)) (insub (by decide)) ?_
  have c6 := fx_must (e_X12_must (e_X12_must H 20) 1) 21
  refine (show W2 o_X12 M_X12_tellCampaign (inN [64, 72, 73, 74, 75, 76, 77, 78, 79, 80, 81, 82, 83, 84, 85, 86, 87, 88, 89, 90, 91, 92, 93]) (q + 14) Q 55 [some (mR 69), some (mI ((e_X12_must H 20) 64 11)), some (mI ((e_X12_must (e_X12_must (e_X12_must H 20) 1) 21) 64 11)), none, none, none] [] (e_X12_must (e_X12_must (e_X12_must H 20) 1) 21) from ?_)
  refine w2_vc [55, 60, 66, 71, 76, 81] 400 oo_X12 q_X12_tellCampaign ?_
  refine sp_X12_must (by first | omega | (simp (disch := decide) only [gs_ne, gs_at_ne, gs_at]; omega)) (insub (by decide)) ?_
  have c8 := fx_must (e_X12_must (e_X12_must (e_X12_must H 20) 1) 21) 2
  refine (show W2 o_X12 M_X12_tellCampaign (inN [64, 72, 73, 74, 75, 76, 77, 78, 79, 80, 81, 82, 83, 84, 85, 86, 87, 88, 89, 90, 91, 92, 93]) (q + 14) Q 60 [some (mR 69), some (mI ((e_X12_must H 20) 64 11)), some (mI ((e_X12_must (e_X12_must (e_X12_must H 20) 1) 21) 64 11)), none, none, none] [] (e_X12_must (e_X12_must (e_X12_must (e_X12_must H 20) 1) 21) 2) from ?_)
  refine w2_vc [55, 60, 66, 71, 76, 81] 400 oo_X12 q_X12_tellCampaign ?_
  refine sp_X12_must (by first | omega | (simp (disch := decide) only [gs_ne, gs_at_ne, gs_at]; omega)) (insub (by decide)) ?_
  have c10 := fx_must (e_X12_must (e_X12_must (e_X12_must (e_X12_must H 20) 1) 21) 2) 22
  refine (show W2 o_X12 M_X12_tellCampaign (inN [64, 72, 73, 74, 75, 76, 77, 78, 79, 80, 81, 82, 83, 84, 85, 86, 87, 88, 89, 90, 91, 92, 93]) (q + 14) Q 66 [some (mR 69), some (mI ((e_X12_must H 20) 64 11)), some (mI ((e_X12_must (e_X12_must (e_X12_must H 20) 1) 21) 64 11)), none, none, none] [] (e_X12_must (e_X12_must (e_X12_must (e_X12_must (e_X12_must H 20) 1) 21) 2) 22) from ?_)
  refine w2_vc [55, 60, 66, 71, 76, 81] 400 oo_X12 q_X12_tellCampaign ?_
  refine (show W2 o_X12 M_X12_tellCampaign (inN [64, 72, 73, 74, 75, 76, 77, 78, 79, 80, 81, 82, 83, 84, 85, 86, 87, 88, 89, 90, 91, 92, 93]) (q + 14) Q 71 [some (mR 69), some (mI ((e_X12_must H 20) 64 11)), some (mI ((e_X12_must (e_X12_must (e_X12_must H 20) 1) 21) 64 11)), some (mI ((e_X12_must (e_X12_must (e_X12_must (e_X12_must (e_X12_must H 20) 1) 21) 2) 22) 64 11)), none, none] [] (e_X12_must (e_X12_must (e_X12_must (e_X12_must (e_X12_must H 20) 1) 21) 2) 22) from ?_)
  refine w2_vc [55, 60, 66, 71, 76, 81] 400 oo_X12 q_X12_tellCampaign ?_
  refine sp_X12_must (by first | omega | (simp (disch := decide) only [gs_ne, gs_at_ne, gs_at]; omega)) (insub (by decide)) ?_
  have c12 := fx_must (e_X12_must (e_X12_must (e_X12_must (e_X12_must (e_X12_must H 20) 1) 21) 2) 22) 2
  refine (show W2 o_X12 M_X12_tellCampaign (inN [64, 72, 73, 74, 75, 76, 77, 78, 79, 80, 81, 82, 83, 84, 85, 86, 87, 88, 89, 90, 91, 92, 93]) (q + 14) Q 76 [some (mR 69), some (mI ((e_X12_must H 20) 64 11)), some (mI ((e_X12_must (e_X12_must (e_X12_must H 20) 1) 21) 64 11)), some (mI ((e_X12_must (e_X12_must (e_X12_must (e_X12_must (e_X12_must H 20) 1) 21) 2) 22) 64 11)), none, none] [] (e_X12_must (e_X12_must (e_X12_must (e_X12_must (e_X12_must (e_X12_must H 20) 1) 21) 2) 22) 2) from ?_)
  refine w2_vc [55, 60, 66, 71, 76, 81] 400 oo_X12 q_X12_tellCampaign ?_
  refine sp_X12_must (by first | omega | (simp (disch := decide) only [gs_ne, gs_at_ne, gs_at]; omega)) (insub (by decide)) ?_
  have c14 := fx_must (e_X12_must (e_X12_must (e_X12_must (e_X12_must (e_X12_must (e_X12_must H 20) 1) 21) 2) 22) 2) 4
  refine (show W2 o_X12 M_X12_tellCampaign (inN [64, 72, 73, 74, 75, 76, 77, 78, 79, 80, 81, 82, 83, 84, 85, 86, 87, 88, 89, 90, 91, 92, 93]) (q + 14) Q 81 [some (mR 69), some (mI ((e_X12_must H 20) 64 11)), some (mI ((e_X12_must (e_X12_must (e_X12_must H 20) 1) 21) 64 11)), some (mI ((e_X12_must (e_X12_must (e_X12_must (e_X12_must (e_X12_must H 20) 1) 21) 2) 22) 64 11)), none, none] [] (e_X12_must (e_X12_must (e_X12_must (e_X12_must (e_X12_must (e_X12_must (e_X12_must H 20) 1) 21) 2) 22) 2) 4) from ?_)
  exact h
set_option maxHeartbeats 8000000 in
theorem tm_81 {q : Nat} {H : mG} {Q : Option mV → mG → Prop} {i1 i2 i3 : Nat} (hs : 0 ≤ H 64 19 ∧ H 64 19 ≤ 1) (h1 : 0 < H 64 13 → Q none H) (h2 : H 64 13 ≤ 0 → W2 o_X12 M_X12_tellCampaign (inN [64, 72, 73, 74, 75, 76, 77, 78, 79, 80, 81, 82, 83, 84, 85, 86, 87, 88, 89, 90, 91, 92, 93]) (q + 14) Q 117 [some (mR 69), some (mI ((i1 : Nat) : Int)), some (mI ((i2 : Nat) : Int)), some (mI ((i3 : Nat) : Int)), some (mI (w32 ((w32 (8 * (H 64 19))) + (H 72 (Int.toNat (H 64 19)))))), some (mI (w32 (8 * (H 64 19))))] [] H) : W2 o_X12 M_X12_tellCampaign (inN [64, 72, 73, 74, 75, 76, 77, 78, 79, 80, 81, 82, 83, 84, 85, 86, 87, 88, 89, 90, 91, 92, 93]) (q + 14) Q 81 [some (mR 69), some (mI ((i1 : Nat) : Int)), some (mI ((i2 : Nat) : Int)), some (mI ((i3 : Nat) : Int)), none, none] [] H := by
  refine w2_vc [117] 400 oo_X12 q_X12_tellCampaign ?_
  refine ⟨fun (c1 : (H 64 13) ≤ 0) => ?_, fun (c1 : 0 < (H 64 13)) => ?_⟩
  · skip
    refine ⟨(show 0 ≤ (H 64 19) ∧ (H 64 19) < ((2 : Nat) : Int) from by first | omega | (simp (disch := omega) only [w32_i]; omega)), ?_⟩
    refine (show W2 o_X12 M_X12_tellCampaign (inN [64, 72, 73, 74, 75, 76, 77, 78, 79, 80, 81, 82, 83, 84, 85, 86, 87, 88, 89, 90, 91, 92, 93]) (q + 14) Q 117 [some (mR 69), some (mI ((i1 : Nat) : Int)), some (mI ((i2 : Nat) : Int)), some (mI ((i3 : Nat) : Int)), some (mI (w32 ((w32 (8 * (H 64 19))) + (H 72 (Int.toNat (H 64 19)))))), some (mI (w32 (8 * (H 64 19))))] [] H from ?_)
    exact h2 (by omega)
  · skip
    exact h1 (by omega)
set_option maxHeartbeats 8000000 in
theorem tm_117 {q : Nat} {H : mG} {Q : Option mV → mG → Prop} {i1 i2 i3 e j : Nat} (he : e ≤ 16) (hi : i1 ≤ 600) (h1 : e ≤ j → W2 o_X12 M_X12_tellCampaign (inN [64, 72, 73, 74, 75, 76, 77, 78, 79, 80, 81, 82, 83, 84, 85, 86, 87, 88, 89, 90, 91, 92, 93]) (q + 14) Q 153 [some (mR 69), some (mI ((i1 : Nat) : Int)), some (mI ((i2 : Nat) : Int)), some (mI ((i3 : Nat) : Int)), some (mI ((e : Nat) : Int)), none] [] H) (h2 : j < e → (H 73 (Int.toNat ((j : Nat) : Int)) = H 70 (Int.toNat ((i1 : Nat) : Int))) → W2 o_X12 M_X12_tellCampaign (inN [64, 72, 73, 74, 75, 76, 77, 78, 79, 80, 81, 82, 83, 84, 85, 86, 87, 88, 89, 90, 91, 92, 93]) (q + 14) Q 117 [some (mR 69), some (mI ((i1 : Nat) : Int)), some (mI ((i2 : Nat) : Int)), some (mI ((i3 : Nat) : Int)), some (mI ((e : Nat) : Int)), some (mI ((j + 1 : Nat) : Int))] [] (e_X12_wrong H 3 ((i1 : Nat) : Int))) (h3 : j < e → ¬ (H 73 (Int.toNat ((j : Nat) : Int)) = H 70 (Int.toNat ((i1 : Nat) : Int))) → W2 o_X12 M_X12_tellCampaign (inN [64, 72, 73, 74, 75, 76, 77, 78, 79, 80, 81, 82, 83, 84, 85, 86, 87, 88, 89, 90, 91, 92, 93]) (q + 14) Q 117 [some (mR 69), some (mI ((i1 : Nat) : Int)), some (mI ((i2 : Nat) : Int)), some (mI ((i3 : Nat) : Int)), some (mI ((e : Nat) : Int)), some (mI ((j + 1 : Nat) : Int))] [] H) : W2 o_X12 M_X12_tellCampaign (inN [64, 72, 73, 74, 75, 76, 77, 78, 79, 80, 81, 82, 83, 84, 85, 86, 87, 88, 89, 90, 91, 92, 93]) (q + 14) Q 117 [some (mR 69), some (mI ((i1 : Nat) : Int)), some (mI ((i2 : Nat) : Int)), some (mI ((i3 : Nat) : Int)), some (mI ((e : Nat) : Int)), some (mI ((j : Nat) : Int))] [] H := by
  refine w2_vc [117, 153] 400 oo_X12 q_X12_tellCampaign ?_
  refine ⟨fun (c1 : ((e : Nat) : Int) ≤ ((j : Nat) : Int)) => ?_, fun (c1 : ((j : Nat) : Int) < ((e : Nat) : Int)) => ?_⟩
  · skip
    refine (show W2 o_X12 M_X12_tellCampaign (inN [64, 72, 73, 74, 75, 76, 77, 78, 79, 80, 81, 82, 83, 84, 85, 86, 87, 88, 89, 90, 91, 92, 93]) (q + 14) Q 153 [some (mR 69), some (mI ((i1 : Nat) : Int)), some (mI ((i2 : Nat) : Int)), some (mI ((i3 : Nat) : Int)), some (mI ((e : Nat) : Int)), some (mI ((j : Nat) : Int))] [] H from ?_)
    refine WP.fg (L' := [some (mR 69), some (mI ((i1 : Nat) : Int)), some (mI ((i2 : Nat) : Int)), some (mI ((i3 : Nat) : Int)), some (mI ((e : Nat) : Int)), none]) ⟨rfl, rfl, rfl, rfl, rfl, trivial⟩ ?_
    exact h1 (by omega)
  · skip
    refine ⟨(show 0 ≤ ((j : Nat) : Int) ∧ ((j : Nat) : Int) < ((16 : Nat) : Int) from by first | omega | (simp (disch := omega) only [w32_i]; omega)), ?_⟩
    refine ⟨(show 0 ≤ ((i1 : Nat) : Int) ∧ ((i1 : Nat) : Int) < ((603 : Nat) : Int) from by first | omega | (simp (disch := omega) only [w32_i]; omega)), ?_⟩
    refine ⟨fun (c2 : ¬ (mLcmp (H 73 (Int.toNat ((j : Nat) : Int))) (H 70 (Int.toNat ((i1 : Nat) : Int)))) = 0) => ?_, fun (c2 : (mLcmp (H 73 (Int.toNat ((j : Nat) : Int))) (H 70 (Int.toNat ((i1 : Nat) : Int)))) = 0) => ?_⟩
    · skip
      refine (show W2 o_X12 M_X12_tellCampaign (inN [64, 72, 73, 74, 75, 76, 77, 78, 79, 80, 81, 82, 83, 84, 85, 86, 87, 88, 89, 90, 91, 92, 93]) (q + 14) Q 117 [some (mR 69), some (mI ((i1 : Nat) : Int)), some (mI ((i2 : Nat) : Int)), some (mI ((i3 : Nat) : Int)), some (mI ((e : Nat) : Int)), some (mI (w32 (((j : Nat) : Int) + 1)))] [] H from ?_)
      rw [w32_nat (by omega)]
      exact h3 (by omega) (fun y => c2 (lcmp_e.mpr y))
    · skip
      refine sp_X12_wrong (by first | omega | (simp (disch := decide) only [gs_ne, gs_at_ne, gs_at]; omega)) (insub (by decide)) ?_
      refine (show W2 o_X12 M_X12_tellCampaign (inN [64, 72, 73, 74, 75, 76, 77, 78, 79, 80, 81, 82, 83, 84, 85, 86, 87, 88, 89, 90, 91, 92, 93]) (q + 14) Q 117 [some (mR 69), some (mI ((i1 : Nat) : Int)), some (mI ((i2 : Nat) : Int)), some (mI ((i3 : Nat) : Int)), some (mI ((e : Nat) : Int)), some (mI (w32 (((j : Nat) : Int) + 1)))] [] (e_X12_wrong H 3 ((i1 : Nat) : Int)) from ?_)
      rw [w32_nat (by omega)]
      exact h2 (by omega) (lcmp_e.mp c2)
set_option maxHeartbeats 8000000 in
theorem tm_153 {q : Nat} {H : mG} {Q : Option mV → mG → Prop} {i1 i2 i3 e : Nat} (he : e < 16) (hi : i1 ≤ 600 ∧ i2 ≤ 600 ∧ i3 ≤ 600) (h : W2 o_X12 M_X12_tellCampaign (inN [64, 72, 73, 74, 75, 76, 77, 78, 79, 80, 81, 82, 83, 84, 85, 86, 87, 88, 89, 90, 91, 92, 93]) (q + 14) Q 192 [some (mR 69), none, some (mI ((i2 : Nat) : Int)), some (mI ((i3 : Nat) : Int)), none, none] [] (gs (gs (gs H 73 e (H 70 i1)) 74 e (H 69 i2)) 75 e (H 69 i3))) : W2 o_X12 M_X12_tellCampaign (inN [64, 72, 73, 74, 75, 76, 77, 78, 79, 80, 81, 82, 83, 84, 85, 86, 87, 88, 89, 90, 91, 92, 93]) (q + 14) Q 153 [some (mR 69), some (mI ((i1 : Nat) : Int)), some (mI ((i2 : Nat) : Int)), some (mI ((i3 : Nat) : Int)), some (mI ((e : Nat) : Int)), none] [] H := by
  refine w2_vc [166, 178, 179, 191, 192] 400 oo_X12 q_X12_tellCampaign ?_
  refine ⟨(show 0 ≤ ((i1 : Nat) : Int) ∧ ((i1 : Nat) : Int) < ((603 : Nat) : Int) from by first | omega | (simp (disch := omega) only [w32_i]; omega)), ?_⟩
  refine ⟨(show 0 ≤ ((e : Nat) : Int) ∧ ((e : Nat) : Int) < ((16 : Nat) : Int) from by first | omega | (simp (disch := omega) only [w32_i]; omega)), ?_⟩
  refine (show W2 o_X12 M_X12_tellCampaign (inN [64, 72, 73, 74, 75, 76, 77, 78, 79, 80, 81, 82, 83, 84, 85, 86, 87, 88, 89, 90, 91, 92, 93]) (q + 14) Q 166 [some (mR 69), some (mI ((i1 : Nat) : Int)), some (mI ((i2 : Nat) : Int)), some (mI ((i3 : Nat) : Int)), some (mI ((e : Nat) : Int)), none] [] (gs H 73 (Int.toNat ((e : Nat) : Int)) (H 70 (Int.toNat ((i1 : Nat) : Int)))) from ?_)
  refine w2_vc [166, 178, 179, 191, 192] 400 oo_X12 q_X12_tellCampaign ?_
  refine ⟨(show 0 ≤ ((i2 : Nat) : Int) ∧ ((i2 : Nat) : Int) < ((603 : Nat) : Int) from by first | omega | (simp (disch := omega) only [w32_i]; omega)), ?_⟩
  refine (show W2 o_X12 M_X12_tellCampaign (inN [64, 72, 73, 74, 75, 76, 77, 78, 79, 80, 81, 82, 83, 84, 85, 86, 87, 88, 89, 90, 91, 92, 93]) (q + 14) Q 178 [some (mR 69), some (mI ((i1 : Nat) : Int)), some (mI ((i2 : Nat) : Int)), some (mI ((i3 : Nat) : Int)), some (mI ((e : Nat) : Int)), none] [mI (H 69 (Int.toNat ((i2 : Nat) : Int))), mI ((e : Nat) : Int), mR 79] (gs H 73 (Int.toNat ((e : Nat) : Int)) (H 70 (Int.toNat ((i1 : Nat) : Int)))) from ?_)
  refine w2_vc [166, 178, 179, 191, 192] 400 oo_X12 q_X12_tellCampaign ?_
  refine ⟨(show 0 ≤ ((e : Nat) : Int) ∧ ((e : Nat) : Int) < ((16 : Nat) : Int) from by first | omega | (simp (disch := omega) only [w32_i]; omega)), ?_⟩
  refine (show W2 o_X12 M_X12_tellCampaign (inN [64, 72, 73, 74, 75, 76, 77, 78, 79, 80, 81, 82, 83, 84, 85, 86, 87, 88, 89, 90, 91, 92, 93]) (q + 14) Q 179 [some (mR 69), some (mI ((i1 : Nat) : Int)), some (mI ((i2 : Nat) : Int)), some (mI ((i3 : Nat) : Int)), some (mI ((e : Nat) : Int)), none] [] (gs (gs H 73 (Int.toNat ((e : Nat) : Int)) (H 70 (Int.toNat ((i1 : Nat) : Int)))) 74 (Int.toNat ((e : Nat) : Int)) (H 69 (Int.toNat ((i2 : Nat) : Int)))) from ?_)
  refine w2_vc [166, 178, 179, 191, 192] 400 oo_X12 q_X12_tellCampaign ?_
  refine ⟨(show 0 ≤ ((i3 : Nat) : Int) ∧ ((i3 : Nat) : Int) < ((603 : Nat) : Int) from by first | omega | (simp (disch := omega) only [w32_i]; omega)), ?_⟩
  refine (show W2 o_X12 M_X12_tellCampaign (inN [64, 72, 73, 74, 75, 76, 77, 78, 79, 80, 81, 82, 83, 84, 85, 86, 87, 88, 89, 90, 91, 92, 93]) (q + 14) Q 191 [some (mR 69), some (mI ((i1 : Nat) : Int)), some (mI ((i2 : Nat) : Int)), some (mI ((i3 : Nat) : Int)), some (mI ((e : Nat) : Int)), none] [mI (H 69 (Int.toNat ((i3 : Nat) : Int))), mI ((e : Nat) : Int), mR 80] (gs (gs H 73 (Int.toNat ((e : Nat) : Int)) (H 70 (Int.toNat ((i1 : Nat) : Int)))) 74 (Int.toNat ((e : Nat) : Int)) (H 69 (Int.toNat ((i2 : Nat) : Int)))) from ?_)
  refine w2_vc [166, 178, 179, 191, 192] 400 oo_X12 q_X12_tellCampaign ?_
  refine ⟨(show 0 ≤ ((e : Nat) : Int) ∧ ((e : Nat) : Int) < ((16 : Nat) : Int) from by first | omega | (simp (disch := omega) only [w32_i]; omega)), ?_⟩
  refine (show W2 o_X12 M_X12_tellCampaign (inN [64, 72, 73, 74, 75, 76, 77, 78, 79, 80, 81, 82, 83, 84, 85, 86, 87, 88, 89, 90, 91, 92, 93]) (q + 14) Q 192 [some (mR 69), some (mI ((i1 : Nat) : Int)), some (mI ((i2 : Nat) : Int)), some (mI ((i3 : Nat) : Int)), some (mI ((e : Nat) : Int)), none] [] (gs (gs (gs H 73 (Int.toNat ((e : Nat) : Int)) (H 70 (Int.toNat ((i1 : Nat) : Int)))) 74 (Int.toNat ((e : Nat) : Int)) (H 69 (Int.toNat ((i2 : Nat) : Int)))) 75 (Int.toNat ((e : Nat) : Int)) (H 69 (Int.toNat ((i3 : Nat) : Int)))) from ?_)
  refine WP.fg (L' := [some (mR 69), none, some (mI ((i2 : Nat) : Int)), some (mI ((i3 : Nat) : Int)), none, none]) ⟨rfl, rfl, rfl, trivial⟩ ?_
  rw [st_nat, st_nat, st_nat, st_nat]
  exact h
set_option maxHeartbeats 8000000 in
theorem tm_192 {q : Nat} {H : mG} {Q : Option mV → mG → Prop} {i2 i3 : Nat} (hi : i2 ≤ 600 ∧ i3 ≤ 600) (h1 : (H 69 (Int.toNat ((i3 : Nat) : Int)) ≤ H 69 (Int.toNat ((i2 : Nat) : Int)) ∨ 26 < H 69 (Int.toNat ((i3 : Nat) : Int))) → W2 o_X12 M_X12_tellCampaign (inN [64, 72, 73, 74, 75, 76, 77, 78, 79, 80, 81, 82, 83, 84, 85, 86, 87, 88, 89, 90, 91, 92, 93]) (q + 14) Q 224 [some (mR 69), none, none, none, none, none] [] (e_X12_wrong H 5 ((i3 : Nat) : Int))) (h2 : ¬ (H 69 (Int.toNat ((i3 : Nat) : Int)) ≤ H 69 (Int.toNat ((i2 : Nat) : Int)) ∨ 26 < H 69 (Int.toNat ((i3 : Nat) : Int))) → W2 o_X12 M_X12_tellCampaign (inN [64, 72, 73, 74, 75, 76, 77, 78, 79, 80, 81, 82, 83, 84, 85, 86, 87, 88, 89, 90, 91, 92, 93]) (q + 14) Q 224 [some (mR 69), none, none, none, none, none] [] H) : W2 o_X12 M_X12_tellCampaign (inN [64, 72, 73, 74, 75, 76, 77, 78, 79, 80, 81, 82, 83, 84, 85, 86, 87, 88, 89, 90, 91, 92, 93]) (q + 14) Q 192 [some (mR 69), none, some (mI ((i2 : Nat) : Int)), some (mI ((i3 : Nat) : Int)), none, none] [] H := by
  refine w2_vc [224] 400 oo_X12 q_X12_tellCampaign ?_
  refine ⟨(show 0 ≤ ((i3 : Nat) : Int) ∧ ((i3 : Nat) : Int) < ((603 : Nat) : Int) from by first | omega | (simp (disch := omega) only [w32_i]; omega)), ?_⟩
  refine ⟨(show 0 ≤ ((i2 : Nat) : Int) ∧ ((i2 : Nat) : Int) < ((603 : Nat) : Int) from by first | omega | (simp (disch := omega) only [w32_i]; omega)), ?_⟩
  refine ⟨fun (c1 : (H 69 (Int.toNat ((i3 : Nat) : Int))) ≤ (H 69 (Int.toNat ((i2 : Nat) : Int)))) => ?_, fun (c1 : (H 69 (Int.toNat ((i2 : Nat) : Int))) < (H 69 (Int.toNat ((i3 : Nat) : Int)))) => ?_⟩
  · skip
    refine sp_X12_wrong (by first | omega | (simp (disch := decide) only [gs_ne, gs_at_ne, gs_at]; omega)) (insub (by decide)) ?_
    refine (show W2 o_X12 M_X12_tellCampaign (inN [64, 72, 73, 74, 75, 76, 77, 78, 79, 80, 81, 82, 83, 84, 85, 86, 87, 88, 89, 90, 91, 92, 93]) (q + 14) Q 224 [some (mR 69), none, some (mI ((i2 : Nat) : Int)), some (mI ((i3 : Nat) : Int)), none, none] [] (e_X12_wrong H 5 ((i3 : Nat) : Int)) from ?_)
    refine WP.fg (L' := [some (mR 69), none, none, none, none, none]) ⟨rfl, trivial⟩ ?_
    exact h1 (by omega)
  · skip
    refine ⟨(show 0 ≤ ((i3 : Nat) : Int) ∧ ((i3 : Nat) : Int) < ((603 : Nat) : Int) from by first | omega | (simp (disch := omega) only [w32_i]; omega)), ?_⟩
    refine ⟨fun (c3 : (H 69 (Int.toNat ((i3 : Nat) : Int))) ≤ 26) => ?_, fun (c3 : 26 < (H 69 (Int.toNat ((i3 : Nat) : Int)))) => ?_⟩
    · skip
      refine (show W2 o_X12 M_X12_tellCampaign (inN [64, 72, 73, 74, 75, 76, 77, 78, 79, 80, 81, 82, 83, 84, 85, 86, 87, 88, 89, 90, 91, 92, 93]) (q + 14) Q 224 [some (mR 69), none, some (mI ((i2 : Nat) : Int)), some (mI ((i3 : Nat) : Int)), none, none] [] H from ?_)
      refine WP.fg (L' := [some (mR 69), none, none, none, none, none]) ⟨rfl, trivial⟩ ?_
      exact h2 (by omega)
    · skip
      refine sp_X12_wrong (by first | omega | (simp (disch := decide) only [gs_ne, gs_at_ne, gs_at]; omega)) (insub (by decide)) ?_
      refine (show W2 o_X12 M_X12_tellCampaign (inN [64, 72, 73, 74, 75, 76, 77, 78, 79, 80, 81, 82, 83, 84, 85, 86, 87, 88, 89, 90, 91, 92, 93]) (q + 14) Q 224 [some (mR 69), none, some (mI ((i2 : Nat) : Int)), some (mI ((i3 : Nat) : Int)), none, none] [] (e_X12_wrong H 5 ((i3 : Nat) : Int)) from ?_)
      refine WP.fg (L' := [some (mR 69), none, none, none, none, none]) ⟨rfl, trivial⟩ ?_
      exact h1 (by omega)
set_option maxHeartbeats 8000000 in
theorem tm_224 {q : Nat} {H : mG} {Q : Option mV → mG → Prop} (hs : 0 ≤ H 64 19 ∧ H 64 19 ≤ 1) (h : W2 o_X12 M_X12_tellCampaign (inN [64, 72, 73, 74, 75, 76, 77, 78, 79, 80, 81, 82, 83, 84, 85, 86, 87, 88, 89, 90, 91, 92, 93]) (q + 14) Q 237 [some (mR 69), none, none, none, none, none] [] (gs H 72 (Int.toNat (H 64 19)) (w32 ((H 72 (Int.toNat (H 64 19))) + 1)))) : W2 o_X12 M_X12_tellCampaign (inN [64, 72, 73, 74, 75, 76, 77, 78, 79, 80, 81, 82, 83, 84, 85, 86, 87, 88, 89, 90, 91, 92, 93]) (q + 14) Q 224 [some (mR 69), none, none, none, none, none] [] H := by
  refine w2_vc [237] 400 oo_X12 q_X12_tellCampaign ?_
  refine ⟨(show 0 ≤ (H 64 19) ∧ (H 64 19) < ((2 : Nat) : Int) from by first | omega | (simp (disch := omega) only [w32_i]; omega)), ?_⟩
  refine ⟨(show 0 ≤ (H 64 19) ∧ (H 64 19) < ((2 : Nat) : Int) from by first | omega | (simp (disch := omega) only [w32_i]; omega)), ?_⟩
  refine (show W2 o_X12 M_X12_tellCampaign (inN [64, 72, 73, 74, 75, 76, 77, 78, 79, 80, 81, 82, 83, 84, 85, 86, 87, 88, 89, 90, 91, 92, 93]) (q + 14) Q 237 [some (mR 69), none, none, none, none, none] [] (gs H 72 (Int.toNat (H 64 19)) (w32 ((H 72 (Int.toNat (H 64 19))) + 1))) from ?_)
  exact h
set_option maxHeartbeats 8000000 in
theorem tm_237 {q : Nat} {H : mG} {Q : Option mV → mG → Prop} {R : mG → Prop} (hT : 0 ≤ H 64 11 ∧ H 64 11 ≤ 600) (hs : 0 ≤ H 64 19 ∧ H 64 19 ≤ 1) (h1 : ¬ (H 64 13 = 0 ∧ ¬ (H 67 (Int.toNat (H 64 11))) = 23) → W2 o_X12 M_X12_tellCampaign (inN [64, 72, 73, 74, 75, 76, 77, 78, 79, 80, 81, 82, 83, 84, 85, 86, 87, 88, 89, 90, 91, 92, 93]) (q + 14) Q 271 [some (mR 69), none, none, none, none, none] [] H) (hE : (H 64 13 = 0 ∧ ¬ (H 67 (Int.toNat (H 64 11))) = 23) → (∀ Q' : Option mV → mG → Prop, (∀ H', R H' → Q' none H') → P2 (inN [64, 72, 73, 74, 75, 76, 77, 78, 79, 80, 81, 82, 83, 84, 85, 86, 87, 88, 89, 90, 91, 92, 93]) (q + 13) M_X12_tellClause [mR 69, mI (w32 ((H 72 (Int.toNat (H 64 19))) - 1))] H Q')) (h2 : ∀ H2, R H2 → W2 o_X12 M_X12_tellCampaign (inN [64, 72, 73, 74, 75, 76, 77, 78, 79, 80, 81, 82, 83, 84, 85, 86, 87, 88, 89, 90, 91, 92, 93]) (q + 14) Q 237 [some (mR 69), none, none, none, none, none] [] H2) : W2 o_X12 M_X12_tellCampaign (inN [64, 72, 73, 74, 75, 76, 77, 78, 79, 80, 81, 82, 83, 84, 85, 86, 87, 88, 89, 90, 91, 92, 93]) (q + 14) Q 237 [some (mR 69), none, none, none, none, none] [] H := by
  refine w2_vc [237, 268, 271] 400 oo_X12 q_X12_tellCampaign ?_
  refine ⟨fun (c1 : ¬ (H 64 13) = 0) => ?_, fun (c1 : (H 64 13) = 0) => ?_⟩
  · skip
    refine (show W2 o_X12 M_X12_tellCampaign (inN [64, 72, 73, 74, 75, 76, 77, 78, 79, 80, 81, 82, 83, 84, 85, 86, 87, 88, 89, 90, 91, 92, 93]) (q + 14) Q 271 [some (mR 69), none, none, none, none, none] [] H from ?_)
    exact h1 (by omega)
  · skip
    refine sp_X12_is (by first | omega | (simp (disch := decide) only [gs_ne, gs_at_ne, gs_at]; omega)) ?_
    have c3 := fa_X12_is H 23
    refine ⟨fun (c4 : ¬ (f_X12_is H 23) = 0) => ?_, fun (c4 : (f_X12_is H 23) = 0) => ?_⟩
    · skip
      refine (show W2 o_X12 M_X12_tellCampaign (inN [64, 72, 73, 74, 75, 76, 77, 78, 79, 80, 81, 82, 83, 84, 85, 86, 87, 88, 89, 90, 91, 92, 93]) (q + 14) Q 271 [some (mR 69), none, none, none, none, none] [] H from ?_)
      exact h1 (by omega)
    · skip
      refine ⟨(show 0 ≤ (H 64 19) ∧ (H 64 19) < ((2 : Nat) : Int) from by first | omega | (simp (disch := omega) only [w32_i]; omega)), ?_⟩
      refine hE (by omega) _ (fun H' hH' => ?_)
      refine (show W2 o_X12 M_X12_tellCampaign (inN [64, 72, 73, 74, 75, 76, 77, 78, 79, 80, 81, 82, 83, 84, 85, 86, 87, 88, 89, 90, 91, 92, 93]) (q + 14) Q 268 [some (mR 69), none, none, none, none, none] [] H' from ?_)
      refine w2_vc [237, 268, 271] 400 oo_X12 q_X12_tellCampaign ?_
      refine (show W2 o_X12 M_X12_tellCampaign (inN [64, 72, 73, 74, 75, 76, 77, 78, 79, 80, 81, 82, 83, 84, 85, 86, 87, 88, 89, 90, 91, 92, 93]) (q + 14) Q 237 [some (mR 69), none, none, none, none, none] [] H' from ?_)
      exact h2 H' hH'
set_option maxHeartbeats 8000000 in
theorem tm_271 {q : Nat} {H : mG} {Q : Option mV → mG → Prop} (hT : 0 ≤ H 64 11 ∧ H 64 11 ≤ 600) (h : Q none (e_X12_must H 23)) : W2 o_X12 M_X12_tellCampaign (inN [64, 72, 73, 74, 75, 76, 77, 78, 79, 80, 81, 82, 83, 84, 85, 86, 87, 88, 89, 90, 91, 92, 93]) (q + 14) Q 271 [some (mR 69), none, none, none, none, none] [] H := by
  refine w2_vc [] 400 oo_X12 q_X12_tellCampaign ?_
  refine sp_X12_must (by first | omega | (simp (disch := decide) only [gs_ne, gs_at_ne, gs_at]; omega)) (insub (by decide)) ?_
  have c2 := fx_must H 23
  exact h
