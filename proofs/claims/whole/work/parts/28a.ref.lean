/-! ===== printed by wip/whole/gen28.py: the reference, what needs no more than ranges ===== -/
def f_X12_isDigit (G : mG) (x : Int) : Int := (if x < 48 then 0 else (if 57 < x then 0 else 1))
theorem sp_X12_isDigit {D : Nat → Bool} {d : Nat} {G : mG} {x : Int} {Q : Option mV → mG → Prop} (h : Q (some (mI (f_X12_isDigit G x))) G) : P2 D (d + 1) M_X12_isDigit [mI x] G Q := by
  unfold f_X12_isDigit at h
  refine p2_vc [] 400 oo_X12 q_X12_isDigit (by decide) rfl (Nat.le_of_ble_eq_true rfl) ?_
  refine ⟨fun (c1 : x < 48) => ?_, fun (c1 : 48 ≤ x) => ?_⟩
  · rw [if_pos c1] at h
    exact ⟨by omega, h⟩
  · rw [if_neg (Int.not_lt.mpr c1)] at h
    refine ⟨fun (c2 : 57 < x) => ?_, fun (c2 : x ≤ 57) => ?_⟩
    · rw [if_pos c2] at h
      exact ⟨by omega, h⟩
    · rw [if_neg (Int.not_lt.mpr c2)] at h
      exact ⟨by omega, h⟩
def f_X12_isLetter (G : mG) (x : Int) : Int := (if x < 97 then 0 else (if 122 < x then 0 else 1))
theorem sp_X12_isLetter {D : Nat → Bool} {d : Nat} {G : mG} {x : Int} {Q : Option mV → mG → Prop} (h : Q (some (mI (f_X12_isLetter G x))) G) : P2 D (d + 1) M_X12_isLetter [mI x] G Q := by
  unfold f_X12_isLetter at h
  refine p2_vc [] 400 oo_X12 q_X12_isLetter (by decide) rfl (Nat.le_of_ble_eq_true rfl) ?_
  refine ⟨fun (c1 : x < 97) => ?_, fun (c1 : 97 ≤ x) => ?_⟩
  · rw [if_pos c1] at h
    exact ⟨by omega, h⟩
  · rw [if_neg (Int.not_lt.mpr c1)] at h
    refine ⟨fun (c2 : 122 < x) => ?_, fun (c2 : x ≤ 122) => ?_⟩
    · rw [if_pos c2] at h
      exact ⟨by omega, h⟩
    · rw [if_neg (Int.not_lt.mpr c2)] at h
      exact ⟨by omega, h⟩
def f_X12_isFortnight (G : mG) (x : Int) : Int := (if x < 0 then 0 else (if 26 ≤ x then 0 else 1))
theorem sp_X12_isFortnight {D : Nat → Bool} {d : Nat} {G : mG} {x : Int} {Q : Option mV → mG → Prop} (h : Q (some (mI (f_X12_isFortnight G x))) G) : P2 D (d + 1) M_X12_isFortnight [mI x] G Q := by
  unfold f_X12_isFortnight at h
  refine p2_vc [] 400 oo_X12 q_X12_isFortnight (by decide) rfl (Nat.le_of_ble_eq_true rfl) ?_
  refine ⟨fun (c1 : x < 0) => ?_, fun (c1 : 0 ≤ x) => ?_⟩
  · rw [if_pos c1] at h
    exact ⟨by omega, h⟩
  · rw [if_neg (Int.not_lt.mpr c1)] at h
    refine ⟨fun (c2 : 26 ≤ x) => ?_, fun (c2 : x < 26) => ?_⟩
    · rw [if_pos c2] at h
      exact ⟨by omega, h⟩
    · rw [if_neg (Int.not_le.mpr c2)] at h
      exact ⟨by omega, h⟩
theorem fa_X12_isFortnight (G : mG) (x : Int) : (f_X12_isFortnight G x = 1 ∧ 0 ≤ x ∧ x < 26) ∨ (f_X12_isFortnight G x = 0 ∧ ¬ (0 ≤ x ∧ x < 26)) := by
  unfold f_X12_isFortnight
  repeat' split
  all_goals omega
theorem fa_X12_isDigit (G : mG) (x : Int) : (f_X12_isDigit G x = 1 ∧ 48 ≤ x ∧ x ≤ 57) ∨ (f_X12_isDigit G x = 0 ∧ ¬ (48 ≤ x ∧ x ≤ 57)) := by
  unfold f_X12_isDigit
  repeat' split
  all_goals omega
theorem fa_X12_isLetter (G : mG) (x : Int) : (f_X12_isLetter G x = 1 ∧ 97 ≤ x ∧ x ≤ 122) ∨ (f_X12_isLetter G x = 0 ∧ ¬ (97 ≤ x ∧ x ≤ 122)) := by
  unfold f_X12_isLetter
  repeat' split
  all_goals omega
def f_X12_isBoard (G : mG) (x : Int) : Int := (if x < 0 then 0 else (if (G 64 44) ≤ x then 0 else 1))
theorem sp_X12_isBoard {D : Nat → Bool} {d : Nat} {G : mG} {x : Int} {Q : Option mV → mG → Prop} (h : Q (some (mI (f_X12_isBoard G x))) G) : P2 D (d + 1) M_X12_isBoard [mR 69, mI x] G Q := by
  unfold f_X12_isBoard at h
  refine p2_vc [] 400 oo_X12 q_X12_isBoard (by decide) rfl (Nat.le_of_ble_eq_true rfl) ?_
  refine ⟨fun (c1 : x < 0) => ?_, fun (c1 : 0 ≤ x) => ?_⟩
  · rw [if_pos c1] at h
    exact ⟨by omega, h⟩
  · rw [if_neg (Int.not_lt.mpr c1)] at h
    refine ⟨fun (c2 : (G 64 44) ≤ x) => ?_, fun (c2 : x < (G 64 44)) => ?_⟩
    · rw [if_pos c2] at h
      exact ⟨by omega, h⟩
    · rw [if_neg (Int.not_le.mpr c2)] at h
      exact ⟨by omega, h⟩
def f_X12_isKnown (G : mG) (x : Int) : Int := (if x < 0 then 0 else (if (G 64 51) < x then 0 else 1))
theorem sp_X12_isKnown {D : Nat → Bool} {d : Nat} {G : mG} {x : Int} {Q : Option mV → mG → Prop} (h : Q (some (mI (f_X12_isKnown G x))) G) : P2 D (d + 1) M_X12_isKnown [mR 69, mI x] G Q := by
  unfold f_X12_isKnown at h
  refine p2_vc [] 400 oo_X12 q_X12_isKnown (by decide) rfl (Nat.le_of_ble_eq_true rfl) ?_
  refine ⟨fun (c1 : x < 0) => ?_, fun (c1 : 0 ≤ x) => ?_⟩
  · rw [if_pos c1] at h
    exact ⟨by omega, h⟩
  · rw [if_neg (Int.not_lt.mpr c1)] at h
    refine ⟨fun (c2 : (G 64 51) < x) => ?_, fun (c2 : x ≤ (G 64 51)) => ?_⟩
    · rw [if_pos c2] at h
      exact ⟨by omega, h⟩
    · rw [if_neg (Int.not_lt.mpr c2)] at h
      exact ⟨by omega, h⟩
def f_X12_isCampaign (G : mG) (x : Int) : Int := (if x < 0 then 0 else (if (G 72 (Int.toNat (G 64 18))) ≤ x then 0 else 1))
theorem sp_X12_isCampaign {D : Nat → Bool} {d : Nat} {G : mG} {x : Int} {Q : Option mV → mG → Prop} (hl : 0 ≤ G 64 18 ∧ G 64 18 ≤ 1) (h : Q (some (mI (f_X12_isCampaign G x))) G) : P2 D (d + 1) M_X12_isCampaign [mR 69, mI x] G Q := by
  unfold f_X12_isCampaign at h
  refine p2_vc [] 400 oo_X12 q_X12_isCampaign (by decide) rfl (Nat.le_of_ble_eq_true rfl) ?_
  refine ⟨fun (c1 : x < 0) => ?_, fun (c1 : 0 ≤ x) => ?_⟩
  · rw [if_pos c1] at h
    exact ⟨by omega, h⟩
  · rw [if_neg (Int.not_lt.mpr c1)] at h
    refine ⟨(show 0 ≤ (G 64 18) ∧ (G 64 18) < ((2 : Nat) : Int) from by first | omega | (simp (disch := omega) only [w32_i]; omega)), ?_⟩
    refine ⟨fun (c2 : (G 72 (Int.toNat (G 64 18))) ≤ x) => ?_, fun (c2 : x < (G 72 (Int.toNat (G 64 18)))) => ?_⟩
    · rw [if_pos c2] at h
      exact ⟨by omega, h⟩
    · rw [if_neg (Int.not_le.mpr c2)] at h
      exact ⟨by omega, h⟩
theorem fa_X12_isBoard (G : mG) (x : Int) : (f_X12_isBoard G x = 1 ∧ 0 ≤ x ∧ x < G 64 44) ∨ (f_X12_isBoard G x = 0 ∧ ¬ (0 ≤ x ∧ x < G 64 44)) := by
  unfold f_X12_isBoard
  repeat' split
  all_goals omega
theorem fa_X12_isKnown (G : mG) (x : Int) : (f_X12_isKnown G x = 1 ∧ 0 ≤ x ∧ x ≤ G 64 51) ∨ (f_X12_isKnown G x = 0 ∧ ¬ (0 ≤ x ∧ x ≤ G 64 51)) := by
  unfold f_X12_isKnown
  repeat' split
  all_goals omega
theorem fa_X12_isCampaign (G : mG) (x : Int) : (f_X12_isCampaign G x = 1 ∧ 0 ≤ x ∧ x < G 72 (Int.toNat (G 64 18))) ∨ (f_X12_isCampaign G x = 0 ∧ ¬ (0 ≤ x ∧ x < G 72 (Int.toNat (G 64 18)))) := by
  unfold f_X12_isCampaign
  repeat' split
  all_goals omega
def g_X12_put_3 (G : mG) (x : Int) : Nat → mG → mG := fun j1 s1 => (gs (gs s1 65 (Int.toNat (s1 64 2)) (w8 (w8 (mShr x (24 - 8 * ((j1 : Nat) : Int)))))) 64 2 (w32 ((s1 64 2) + 1)))
def e_X12_put (G : mG) (x : Int) : mG := (fd (g_X12_put_3 G x) G 4)
theorem fr_g_X12_put_3 (G : mG) (x : Int) {k : Nat} (hk : ∀ a ∈ ([64, 65] : List Nat), k ≠ a) (j : Nat) (s : mG) : (g_X12_put_3 G x j s) k = s k := by
  unfold g_X12_put_3
  repeat' with_reducible first | apply ite_f | apply ite_f2 | apply ite_p | apply ite_p2
  all_goals first | (simp only [gs_ne (hk (64) (by simp)), gs_ne (hk (65) (by simp))]; done) | rfl
theorem frp_g_X12_put_3_64 (G : mG) (x : Int) {i : Nat} (hj : ∀ a ∈ ([2] : List Nat), i ≠ a) (j : Nat) (s : mG) : (g_X12_put_3 G x j s) 64 i = s 64 i := by
  unfold g_X12_put_3
  repeat' with_reducible first | apply ite_f | apply ite_f2 | apply ite_p | apply ite_p2
  all_goals first | (simp only [gs_at_ne (hj 2 (by simp)), gs_ne (show (64) ≠ (65) from by omega)]; done) | rfl
theorem frp_X12_put_64 {G : mG} {x : Int} {i : Nat} (hj : ∀ a ∈ ([2] : List Nat), i ≠ a) : (e_X12_put G x) 64 i = G 64 i := by
  unfold e_X12_put
  repeat' with_reducible first | apply ite_f | apply ite_f2 | apply ite_p | apply ite_p2
  all_goals first | (simp only [gs_at_ne (hj 2 (by simp)), gs_ne (show (64) ≠ (65) from by omega), fd_frp (frp_g_X12_put_3_64 _ _ hj)]; done) | rfl
theorem fr_X12_put {G : mG} {x : Int} {k : Nat} (hk : ∀ a ∈ ([64, 65] : List Nat), k ≠ a) : (e_X12_put G x) k = G k := by
  unfold e_X12_put
  repeat' with_reducible first | apply ite_f | apply ite_f2 | apply ite_p | apply ite_p2
  all_goals first | (simp only [gs_ne (hk (64) (by simp)), gs_ne (hk (65) (by simp)), fd_fr (fr_g_X12_put_3 _ _ hk)]; done) | rfl
theorem sp_X12_put {D : Nat → Bool} {d : Nat} {G : mG} {x : Int} {Q : Option mV → mG → Prop} (ht : 0 ≤ G 64 2 ∧ G 64 2 ≤ 2996) (hD : ∀ k, D k = false → inN [64, 65] k = false) (h : Q none (e_X12_put G x)) : P2 D (d + 1) M_X12_put [mR 69, mI x] G Q := by
  unfold e_X12_put at h
  refine MP.to (D2 := inN [64, 65]) (Q2 := Q) ?_ hD (fun v G' q _ => q)
  refine p2_vc [3, 20, 30] 400 oo_X12 q_X12_put (by decide) rfl (Nat.le_of_ble_eq_true rfl) ?_
  refine (show W2 o_X12 M_X12_put (inN [64, 65]) (d + 1) Q 3 [some (mR 69), some (mI x), some (mI (24 - 8 * ((0 : Nat) : Int)))] [] G from ?_)
  refine lupI (g_X12_put_3 G x) G (fun j1 s1 => W2 o_X12 M_X12_put (inN [64, 65]) (d + 1) Q 3 [some (mR 69), some (mI x), some (mI (24 - 8 * ((j1 : Nat) : Int)))] [] s1) (fun j s => s 64 2 = G 64 2 + ((j : Nat) : Int)) 4 ⟨(Int.add_zero _).symm, fun j s hj hI => by unfold g_X12_put_3; rw [gs_at, hI, w32_i (by omega) (by omega)]; omega⟩ (fun j1 s1 hj1 hI1 ih1 => ?_) (fun hI1 => ?_)
  · have ih1 : W2 o_X12 M_X12_put (inN [64, 65]) (d + 1) Q 3 [some (mR 69), some (mI x), some (mI (24 - 8 * ((j1 + 1 : Nat) : Int)))] [] (g_X12_put_3 G x j1 s1) := ih1
    unfold g_X12_put_3 at ih1
    have hI1 := hI1
    refine w2_vc [3, 20, 30] 400 oo_X12 q_X12_put ?_
    refine ⟨fun (c1 : (24 - 8 * ((j1 : Nat) : Int)) < 0) => ?_, fun (c1 : 0 ≤ (24 - 8 * ((j1 : Nat) : Int))) => ?_⟩
    · skip
      exfalso; first | omega | (rw [w32_i (by omega) (by omega)] at c1; omega) | (simp (disch := omega) only [w32_i] at *; omega)
    · skip
      refine ⟨(show 0 ≤ (s1 64 2) ∧ (s1 64 2) < ((3000 : Nat) : Int) from by first | omega | (simp (disch := omega) only [w32_i]; omega)), ?_⟩
      refine (show W2 o_X12 M_X12_put (inN [64, 65]) (d + 1) Q 20 [some (mR 69), some (mI x), some (mI (24 - 8 * ((j1 : Nat) : Int)))] [] (gs s1 65 (Int.toNat (s1 64 2)) (w8 (w8 (mShr x (24 - 8 * ((j1 : Nat) : Int)))))) from ?_)
      refine w2_vc [3, 20, 30] 400 oo_X12 q_X12_put ?_
      refine (show W2 o_X12 M_X12_put (inN [64, 65]) (d + 1) Q 30 [some (mR 69), some (mI x), some (mI (24 - 8 * ((j1 : Nat) : Int)))] [] (gs (gs s1 65 (Int.toNat (s1 64 2)) (w8 (w8 (mShr x (24 - 8 * ((j1 : Nat) : Int)))))) 64 2 (w32 ((s1 64 2) + 1))) from ?_)
      refine w2_vc [3, 20, 30] 400 oo_X12 q_X12_put ?_
      refine (show W2 o_X12 M_X12_put (inN [64, 65]) (d + 1) Q 3 [some (mR 69), some (mI x), some (mI (w32 ((24 - 8 * ((j1 : Nat) : Int)) + (-8))))] [] (gs (gs s1 65 (Int.toNat (s1 64 2)) (w8 (w8 (mShr x (24 - 8 * ((j1 : Nat) : Int)))))) 64 2 (w32 ((s1 64 2) + 1))) from ?_)
      rw [show w32 (24 - 8 * ((j1 : Nat) : Int) + (-8)) = 24 - 8 * ((j1 + 1 : Nat) : Int) from by rw [w32_i (by omega) (by omega)]; omega]
      exact ih1
  · skip
    refine (show W2 o_X12 M_X12_put (inN [64, 65]) (d + 1) Q 3 [some (mR 69), some (mI x), some (mI (24 - 8 * ((4 : Nat) : Int)))] [] (fd (g_X12_put_3 G x) G 4) from ?_)
    have hI1 := hI1
    refine w2_vc [3, 20, 30] 400 oo_X12 q_X12_put ?_
    refine ⟨fun (c2 : (24 - 8 * ((4 : Nat) : Int)) < 0) => ?_, fun (c2 : 0 ≤ (24 - 8 * ((4 : Nat) : Int))) => ?_⟩
    · skip
      exact h
    · skip
      exfalso; first | omega | (rw [w32_i (by omega) (by omega)] at c2; omega) | (simp (disch := omega) only [w32_i] at *; omega)
theorem ft_X12_put (G : mG) (x : Int) (ht : 0 ≤ G 64 2 ∧ G 64 2 ≤ 2996) : (e_X12_put G x) 64 2 = G 64 2 + 4 := by
  unfold e_X12_put
  have := fd_inv (g := g_X12_put_3 G x) (a := G) (n := 4) (fun j s => s 64 2 = G 64 2 + ((j : Nat) : Int)) (Int.add_zero _).symm (fun j s hj hI => by unfold g_X12_put_3; rw [gs_at, hI, w32_i (by omega) (by omega)]; omega)
  rw [this]
  rfl
