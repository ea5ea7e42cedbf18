/-! ===== printed by wip/whole/gen28.py: the reference, what needs no more than ranges ===== -/
def f_X12_isDigit (G : mG) (x : Int) : Int := (if x < 48 then 0 else (if 57 < x then 0 else 1))
theorem sp_X12_isDigit {D : Nat → Bool} {d : Nat} {G : mG} {x : Int} {Q : Option mV → mG → Prop} (h : Q (some (mI (f_X12_isDigit G x))) G) : P2 D (d + 1) M_X12_isDigit [mI x] G Q := by
  unfold f_X12_isDigit at h
  refine p2_vc [] 400 oo_X12 q_X12_isDigit (by decide) rfl (Nat.le_of_ble_eq_true rfl) ?_
  refine ⟨fun (c1 : x < 48) => ?_, fun (c1 : 48 ≤ x) => ?_⟩
  · rw [if_pos c1] at h
    exact ⟨by omega, h⟩
  · rw [if_neg (Int.not_lt.mpr c1)] at h
    refine ⟨fun (c2 : 57 < x) => ?_, fun (c2 : x ≤ 57) => ?_⟩
    · rw [if_pos c2] at h
      exact ⟨by omega, h⟩
    · rw [if_neg (Int.not_lt.mpr c2)] at h
      exact ⟨by omega, h⟩
def f_X12_isLetter (G : mG) (x : Int) : Int := (if x < 97 then 0 else (if 122 < x then 0 else 1))
theorem sp_X12_isLetter {D : Nat → Bool} {d : Nat} {G : mG} {x : Int} {Q : Option mV → mG → Prop} (h : Q (some (mI (f_X12_isLetter G x))) G) : P2 D (d + 1) M_X12_isLetter [mI x] G Q := by
  unfold f_X12_isLetter at h
  refine p2_vc [] 400 oo_X12 q_X12_isLetter (by decide) rfl (Nat.le_of_ble_eq_true rfl) ?_
  refine ⟨fun (c1 : x < 97) => ?_, fun (c1 : 97 ≤ x) => ?_⟩
  · rw [if_pos c1] at h
    exact ⟨by omega, h⟩
  · rw [if_neg (Int.not_lt.mpr c1)] at h
    refine ⟨fun (c2 : 122 < x) => ?_, fun (c2 : x ≤ 122) => ?_⟩
    · rw [if_pos c2] at h
      exact ⟨by omega, h⟩
    · rw [if_neg (Int.not_lt.mpr c2)] at h
      exact ⟨by omega, h⟩
def f_X12_isFortnight (G : mG) (x : Int) : Int := (if x < 0 then 0 else (if 26 ≤ x then 0 else 1))
theorem sp_X12_isFortnight {D : Nat → Bool} {d : Nat} {G : mG} {x : Int} {Q : Option mV → mG → Prop} (h : Q (some (mI (f_X12_isFortnight G x))) G) : P2 D (d + 1) M_X12_isFortnight [mI x] G Q := by
  unfold f_X12_isFortnight at h
  refine p2_vc [] 400 oo_X12 q_X12_isFortnight (by decide) rfl (Nat.le_of_ble_eq_true rfl) ?_
  refine ⟨fun (c1 : x < 0) => ?_, fun (c1 : 0 ≤ x) => ?_⟩
  · rw [if_pos c1] at h
    exact ⟨by omega, h⟩
  · rw [if_neg (Int.not_lt.mpr c1)] at h
    refine ⟨fun (c2 : 26 ≤ x) => ?_, fun (c2 : x < 26) => ?_⟩
    · rw [if_pos c2] at h
      exact ⟨by omega, h⟩
    · rw [if_neg (Int.not_le.mpr c2)] at h
      exact ⟨by omega, h⟩
theorem fa_X12_isFortnight (G : mG) (x : Int) : (f_X12_isFortnight G x = 1 ∧ 0 ≤ x ∧ x < 26) ∨ (f_X12_isFortnight G x = 0 ∧ ¬ (0 ≤ x ∧ x < 26)) := by
  unfold f_X12_isFortnight
  repeat' split
  all_goals omega
theorem fa_X12_isDigit (G : mG) (x : Int) : (f_X12_isDigit G x = 1 ∧ 48 ≤ x ∧ x ≤ 57) ∨ (f_X12_isDigit G x = 0 ∧ ¬ (48 ≤ x ∧ x ≤ 57)) := by
  unfold f_X12_isDigit
  repeat' split
  all_goals omega
theorem fa_X12_isLetter (G : mG) (x : Int) : (f_X12_isLetter G x = 1 ∧ 97 ≤ x ∧ x ≤ 122) ∨ (f_X12_isLetter G x = 0 ∧ ¬ (97 ≤ x ∧ x ≤ 122)) := by
  unfold f_X12_isLetter
  repeat' split
  all_goals omega
def f_X12_isBoard (G : mG) (x : Int) : Int := (if x < 0 then 0 else (if (G 64 44) ≤ x then 0 else 1))
theorem sp_X12_isBoard {D : Nat → Bool} {d : Nat} {G : mG} {x : Int} {Q : Option mV → mG → Prop} (h : Q (some (mI (f_X12_isBoard G x))) G) : P2 D (d + 1) M_X12_isBoard [mR 69, mI x] G Q := by
  unfold f_X12_isBoard at h
  refine p2_vc [] 400 oo_X12 q_X12_isBoard (by decide) rfl (Nat.le_of_ble_eq_true rfl) ?_
  refine ⟨fun (c1 : x < 0) => ?_, fun (c1 : 0 ≤ x) => ?_⟩
  · rw [if_pos c1] at h
    exact ⟨by omega, h⟩
  · rw [if_neg (Int.not_lt.mpr c1)] at h
    refine ⟨fun (c2 : (G 64 44) ≤ x) => ?_, fun (c2 : x < (G 64 44)) => ?_⟩
    · rw [if_pos c2] at h
      exact ⟨by omega, h⟩
    · rw [if_neg (Int.not_le.mpr c2)] at h
      exact ⟨by omega, h⟩
def f_X12_isKnown (G : mG) (x : Int) : Int := (if x < 0 then 0 else (if (G 64 51) < x then 0 else 1))
theorem sp_X12_isKnown {D : Nat → Bool} {d : Nat} {G : mG} {x : Int} {Q : Option mV → mG → Prop} (h : Q (some (mI (f_X12_isKnown G x))) G) : P2 D (d + 1) M_X12_isKnown [mR 69, mI x] G Q := by
  unfold f_X12_isKnown at h
  refine p2_vc [] 400 oo_X12 q_X12_isKnown (by decide) rfl (Nat.le_of_ble_eq_true rfl) ?_
  refine ⟨fun (c1 : x < 0) => ?_, fun (c1 : 0 ≤ x) => ?_⟩
  · rw [if_pos c1] at h
    exact ⟨by omega, h⟩
  · rw [if_neg (Int.not_lt.mpr c1)] at h
    refine ⟨fun (c2 : (G 64 51) < x) => ?_, fun (c2 : x ≤ (G 64 51)) => ?_⟩
    · rw [if_pos c2] at h
      exact ⟨by omega, h⟩
    · rw [if_neg (Int.not_lt.mpr c2)] at h
      exact ⟨by omega, h⟩
def f_X12_isCampaign (G : mG) (x : Int) : Int := (if x < 0 then 0 else (if (G 72 (Int.toNat (G 64 18))) ≤ x then 0 else 1))
theorem sp_X12_isCampaign {D : Nat → Bool} {d : Nat} {G : mG} {x : Int} {Q : Option mV → mG → Prop} (hl : 0 ≤ G 64 18 ∧ G 64 18 ≤ 1) (h : Q (some (mI (f_X12_isCampaign G x))) G) : P2 D (d + 1) M_X12_isCampaign [mR 69, mI x] G Q := by
  unfold f_X12_isCampaign at h
  refine p2_vc [] 400 oo_X12 q_X12_isCampaign (by decide) rfl (Nat.le_of_ble_eq_true rfl) ?_
  refine ⟨fun (c1 : x < 0) => ?_, fun (c1 : 0 ≤ x) => ?_⟩
  · rw [if_pos c1] at h
    exact ⟨by omega, h⟩
  · rw [if_neg (Int.not_lt.mpr c1)] at h
    refine ⟨(show 0 ≤ (G 64 18) ∧ (G 64 18) < ((2 : Nat) : Int) from by first | omega | (simp (disch := omega) only [w32_i]; omega)), ?_⟩
    refine ⟨fun (c2 : (G 72 (Int.toNat (G 64 18))) ≤ x) => ?_, fun (c2 : x < (G 72 (Int.toNat (G 64 18)))) => ?_⟩
    · rw [if_pos c2] at h
      exact ⟨by omega, h⟩
    · rw [if_neg (Int.not_le.mpr c2)] at h
      exact ⟨by omega, h⟩
theorem fa_X12_isBoard (G : mG) (x : Int) : (f_X12_isBoard G x = 1 ∧ 0 ≤ x ∧ x < G 64 44) ∨ (f_X12_isBoard G x = 0 ∧ ¬ (0 ≤ x ∧ x < G 64 44)) := by
  unfold f_X12_isBoard
  repeat' split
  all_goals omega
theorem fa_X12_isKnown (G : mG) (x : Int) : (f_X12_isKnown G x = 1 ∧ 0 ≤ x ∧ x ≤ G 64 51) ∨ (f_X12_isKnown G x = 0 ∧ ¬ (0 ≤ x ∧ x ≤ G 64 51)) := by
  unfold f_X12_isKnown
  repeat' split
  all_goals omega
theorem fa_X12_isCampaign (G : mG) (x : Int) : (f_X12_isCampaign G x = 1 ∧ 0 ≤ x ∧ x < G 72 (Int.toNat (G 64 18))) ∨ (f_X12_isCampaign G x = 0 ∧ ¬ (0 ≤ x ∧ x < G 72 (Int.toNat (G 64 18)))) := by
  unfold f_X12_isCampaign
  repeat' split
  all_goals omega
def g_X12_put_3 (G : mG) (x : Int) : Nat → mG → mG := fun j1 s1 => (gs (gs s1 65 (Int.toNat (s1 64 2)) (w8 (w8 (mShr x (24 - 8 * ((j1 : Nat) : Int)))))) 64 2 (w32 ((s1 64 2) + 1)))
def e_X12_put (G : mG) (x : Int) : mG := (fd (g_X12_put_3 G x) G 4)
theorem fr_g_X12_put_3 (G : mG) (x : Int) {k : Nat} (hk : ∀ a ∈ ([64, 65] : List Nat), k ≠ a) (j : Nat) (s : mG) : (g_X12_put_3 G x j s) k = s k := by
  unfold g_X12_put_3
  repeat' with_reducible first | apply ite_f | apply ite_f2 | apply ite_p | apply ite_p2
  all_goals first | (simp only [gs_ne (hk (64) (by simp)), gs_ne (hk (65) (by simp))]; done) | rfl
theorem frp_g_X12_put_3_64 (G : mG) (x : Int) {i : Nat} (hj : ∀ a ∈ ([2] : List Nat), i ≠ a) (j : Nat) (s : mG) : (g_X12_put_3 G x j s) 64 i = s 64 i := by
  unfold g_X12_put_3
  repeat' with_reducible first | apply ite_f | apply ite_f2 | apply ite_p | apply ite_p2
  all_goals first | (simp only [gs_at_ne (hj 2 (by simp)), gs_ne (show (64) ≠ (65) from by omega)]; done) | rfl
theorem frp_X12_put_64 {G : mG} {x : Int} {i : Nat} (hj : ∀ a ∈ ([2] : List Nat), i ≠ a) : (e_X12_put G x) 64 i = G 64 i := by
  unfold e_X12_put
  repeat' with_reducible first | apply ite_f | apply ite_f2 | apply ite_p | apply ite_p2
  all_goals first | (simp only [gs_at_ne (hj 2 (by simp)), gs_ne (show (64) ≠ (65) from by omega), fd_frp (frp_g_X12_put_3_64 _ _ hj)]; done) | rfl
theorem fr_X12_put {G : mG} {x : Int} {k : Nat} (hk : ∀ a ∈ ([64, 65] : List Nat), k ≠ a) : (e_X12_put G x) k = G k := by
  unfold e_X12_put
  repeat' with_reducible first | apply ite_f | apply ite_f2 | apply ite_p | apply ite_p2
  all_goals first | (simp only [gs_ne (hk (64) (by simp)), gs_ne (hk (65) (by simp)), fd_fr (fr_g_X12_put_3 _ _ hk)]; done) | rfl
theorem sp_X12_put {D : Nat → Bool} {d : Nat} {G : mG} {x : Int} {Q : Option mV → mG → Prop} (ht : 0 ≤ G 64 2 ∧ G 64 2 ≤ 2996) (hD : ∀ k, D k = false → inN [64, 65] k = false) (h : Q none (e_X12_put G x)) : P2 D (d + 1) M_X12_put [mR 69, mI x] G Q := by
  unfold e_X12_put at h
  refine MP.to (D2 := inN [64, 65]) (Q2 := Q) ?_ hD (fun v G' q _ => q)
  refine p2_vc [3, 20, 30] 400 oo_X12 q_X12_put (by decide) rfl (Nat.le_of_ble_eq_true rfl) ?_
  refine (show W2 o_X12 M_X12_put (inN [64, 65]) (d + 1) Q 3 [some (mR 69), some (mI x), some (mI (24 - 8 * ((0 : Nat) : Int)))] [] G from ?_)
  refine lupI (g_X12_put_3 G x) G (fun j1 s1 => W2 o_X12 M_X12_put (inN [64, 65]) (d + 1) Q 3 [some (mR 69), some (mI x), some (mI (24 - 8 * ((j1 : Nat) : Int)))] [] s1) (fun j s => s 64 2 = G 64 2 + ((j : Nat) : Int)) 4 ⟨(Int.add_zero _).symm, fun j s hj hI => by unfold g_X12_put_3; rw [gs_at, hI, w32_i (by omega) (by omega)]; omega⟩ (fun j1 s1 hj1 hI1 ih1 => ?_) (fun hI1 => ?_)
  · have ih1 : W2 o_X12 M_X12_put (inN [64, 65]) (d + 1) Q 3 [some (mR 69), some (mI x), some (mI (24 - 8 * ((j1 + 1 : Nat) : Int)))] [] (g_X12_put_3 G x j1 s1) := ih1
    unfold g_X12_put_3 at ih1
    have hI1 := hI1
    refine w2_vc [3, 20, 30] 400 oo_X12 q_X12_put ?_
    refine ⟨fun (c1 : (24 - 8 * ((j1 : Nat) : Int)) < 0) => ?_, fun (c1 : 0 ≤ (24 - 8 * ((j1 : Nat) : Int))) => ?_⟩
    · skip
      exfalso; first | omega | (rw [w32_i (by omega) (by omega)] at c1; omega) | (simp (disch := omega) only [w32_i] at *; omega)
    · skip
      refine ⟨(show 0 ≤ (s1 64 2) ∧ (s1 64 2) < ((3000 : Nat) : Int) from by first | omega | (simp (disch := omega) only [w32_i]; omega)), ?_⟩
      refine (show W2 o_X12 M_X12_put (inN [64, 65]) (d + 1) Q 20 [some (mR 69), some (mI x), some (mI (24 - 8 * ((j1 : Nat) : Int)))] [] (gs s1 65 (Int.toNat (s1 64 2)) (w8 (w8 (mShr x (24 - 8 * ((j1 : Nat) : Int)))))) from ?_)
      refine w2_vc [3, 20, 30] 400 oo_X12 q_X12_put ?_
      refine (show W2 o_X12 M_X12_put (inN [64, 65]) (d + 1) Q 30 [some (mR 69), some (mI x), some (mI (24 - 8 * ((j1 : Nat) : Int)))] [] (gs (gs s1 65 (Int.toNat (s1 64 2)) (w8 (w8 (mShr x (24 - 8 * ((j1 : Nat) : Int)))))) 64 2 (w32 ((s1 64 2) + 1))) from ?_)
      refine w2_vc [3, 20, 30] 400 oo_X12 q_X12_put ?_
      refine (show W2 o_X12 M_X12_put (inN [64, 65]) (d + 1) Q 3 [some (mR 69), some (mI x), some (mI (w32 ((24 - 8 * ((j1 : Nat) : Int)) + (-8))))] [] (gs (gs s1 65 (Int.toNat (s1 64 2)) (w8 (w8 (mShr x (24 - 8 * ((j1 : Nat) : Int)))))) 64 2 (w32 ((s1 64 2) + 1))) from ?_)
      rw [show w32 (24 - 8 * ((j1 : Nat) : Int) + (-8)) = 24 - 8 * ((j1 + 1 : Nat) : Int) from by rw [w32_i (by omega) (by omega)]; omega]
      exact ih1
  · skip
    refine (show W2 o_X12 M_X12_put (inN [64, 65]) (d + 1) Q 3 [some (mR 69), some (mI x), some (mI (24 - 8 * ((4 : Nat) : Int)))] [] (fd (g_X12_put_3 G x) G 4) from ?_)
    have hI1 := hI1
    refine w2_vc [3, 20, 30] 400 oo_X12 q_X12_put ?_
    refine ⟨fun (c2 : (24 - 8 * ((4 : Nat) : Int)) < 0) => ?_, fun (c2 : 0 ≤ (24 - 8 * ((4 : Nat) : Int))) => ?_⟩
    · skip
      exact h
    · skip
      exfalso; first | omega | (rw [w32_i (by omega) (by omega)] at c2; omega) | (simp (disch := omega) only [w32_i] at *; omega)
theorem ft_X12_put (G : mG) (x : Int) (ht : 0 ≤ G 64 2 ∧ G 64 2 ≤ 2996) : (e_X12_put G x) 64 2 = G 64 2 + 4 := by
  unfold e_X12_put
  have := fd_inv (g := g_X12_put_3 G x) (a := G) (n := 4) (fun j s => s 64 2 = G 64 2 + ((j : Nat) : Int)) (Int.add_zero _).symm (fun j s hj hI => by unfold g_X12_put_3; rw [gs_at, hI, w32_i (by omega) (by omega)]; omega)
  rw [this]
  rfl
def r_X12_feed (G : mG) (a : Int) (b : Int) (x : Int) (y : Int) (z : Int) : Int × mG := (if (w32 ((G 64 2) + 20)) ≤ 3000 then (((e_X12_put (e_X12_put (e_X12_put (e_X12_put (e_X12_put G a) b) x) y) z) 64 2), (e_X12_put (e_X12_put (e_X12_put (e_X12_put (e_X12_put G a) b) x) y) z)) else ((-1), G))
theorem frp_X12_feed_64 {G : mG} {a : Int} {b : Int} {x : Int} {y : Int} {z : Int} {i : Nat} (hj : ∀ a ∈ ([2] : List Nat), i ≠ a) : (r_X12_feed G a b x y z).2 64 i = G 64 i := by
  unfold r_X12_feed
  repeat' with_reducible first | apply ite_f | apply ite_f2 | apply ite_p | apply ite_p2
  all_goals first | (simp only [gs_at_ne (hj 2 (by simp)), gs_ne (show (64) ≠ (65) from by omega), frp_X12_put_64 (fun a ha => hj a (by simp only [List.mem_cons, List.not_mem_nil, or_false] at ha ⊢; omega))]; done) | rfl
theorem fr_X12_feed {G : mG} {a : Int} {b : Int} {x : Int} {y : Int} {z : Int} {k : Nat} (hk : ∀ a ∈ ([64, 65] : List Nat), k ≠ a) : (r_X12_feed G a b x y z).2 k = G k := by
  unfold r_X12_feed
  repeat' with_reducible first | apply ite_f | apply ite_f2 | apply ite_p | apply ite_p2
  all_goals first | (simp only [gs_ne (hk (64) (by simp)), gs_ne (hk (65) (by simp)), fr_X12_put (fun a ha => hk a (by simp only [List.mem_cons, List.not_mem_nil, or_false] at ha ⊢; omega))]; done) | rfl
theorem sp_X12_feed {D : Nat → Bool} {d : Nat} {G : mG} {a : Int} {b : Int} {x : Int} {y : Int} {z : Int} {Q : Option mV → mG → Prop} (ht : 0 ≤ G 64 2 ∧ G 64 2 ≤ 3000) (hD : ∀ k, D k = false → inN [64, 65] k = false) (h : Q (some (mI (r_X12_feed G a b x y z).1)) (r_X12_feed G a b x y z).2) : P2 D (d + 2) M_X12_feed [mR 69, mI a, mI b, mI x, mI y, mI z] G Q := by
  unfold r_X12_feed at h
  have hw0 : w32 ((G 64 2) + 20) = (G 64 2) + 20 := w32_i (by omega) (by omega)
  refine MP.to (D2 := inN [64, 65]) (Q2 := Q) ?_ hD (fun v G' q _ => q)
  refine p2_vc [42] 400 oo_X12 q_X12_feed (by decide) rfl (Nat.le_of_ble_eq_true rfl) ?_
  refine ⟨fun (c1 : (w32 ((G 64 2) + 20)) ≤ 3000) => ?_, fun (c1 : 3000 < (w32 ((G 64 2) + 20))) => ?_⟩
  · rw [if_pos c1] at h
    refine sp_X12_put (by omega) (insub (by decide)) ?_
    have c3 := ft_X12_put G a (by omega)
    refine sp_X12_put (by first | omega | (simp (disch := decide) only [gs_ne, gs_at_ne, fr_X12_put, frp_X12_put_64]; omega)) (insub (by decide)) ?_
    have c5 := ft_X12_put (e_X12_put G a) b (by omega)
    refine sp_X12_put (by first | omega | (simp (disch := decide) only [gs_ne, gs_at_ne, fr_X12_put, frp_X12_put_64]; omega)) (insub (by decide)) ?_
    have c7 := ft_X12_put (e_X12_put (e_X12_put G a) b) x (by omega)
    refine sp_X12_put (by first | omega | (simp (disch := decide) only [gs_ne, gs_at_ne, fr_X12_put, frp_X12_put_64]; omega)) (insub (by decide)) ?_
    have c9 := ft_X12_put (e_X12_put (e_X12_put (e_X12_put G a) b) x) y (by omega)
    refine sp_X12_put (by first | omega | (simp (disch := decide) only [gs_ne, gs_at_ne, fr_X12_put, frp_X12_put_64]; omega)) (insub (by decide)) ?_
    have c11 := ft_X12_put (e_X12_put (e_X12_put (e_X12_put (e_X12_put G a) b) x) y) z (by omega)
    refine (show W2 o_X12 M_X12_feed (inN [64, 65]) (d + 2) Q 42 [some (mR 69), some (mI a), some (mI b), some (mI x), some (mI y), some (mI z)] [] (e_X12_put (e_X12_put (e_X12_put (e_X12_put (e_X12_put G a) b) x) y) z) from ?_)
    refine w2_vc [42] 400 oo_X12 q_X12_feed ?_
    exact h
  · rw [if_neg (Int.not_le.mpr c1)] at h
    exact h
def r_X12_back (G : mG) (n : Int) : Int × mG := (if n < 0 then ((-1), G) else (if n ≤ (G 64 2) then ((w32 ((G 64 2) - n)), (gs G 64 2 (w32 ((G 64 2) - n)))) else ((-1), G)))
theorem frp_X12_back_64 {G : mG} {n : Int} {i : Nat} (hj : ∀ a ∈ ([2] : List Nat), i ≠ a) : (r_X12_back G n).2 64 i = G 64 i := by
  unfold r_X12_back
  repeat' with_reducible first | apply ite_f | apply ite_f2 | apply ite_p | apply ite_p2
  all_goals first | (simp only [gs_at_ne (hj 2 (by simp))]; done) | rfl
theorem fr_X12_back {G : mG} {n : Int} {k : Nat} (hk : ∀ a ∈ ([64] : List Nat), k ≠ a) : (r_X12_back G n).2 k = G k := by
  unfold r_X12_back
  repeat' with_reducible first | apply ite_f | apply ite_f2 | apply ite_p | apply ite_p2
  all_goals first | (simp only [gs_ne (hk (64) (by simp))]; done) | rfl
theorem sp_X12_back {D : Nat → Bool} {d : Nat} {G : mG} {n : Int} {Q : Option mV → mG → Prop} (hD : ∀ k, D k = false → inN [64] k = false) (h : Q (some (mI (r_X12_back G n).1)) (r_X12_back G n).2) : P2 D (d + 1) M_X12_back [mR 69, mI n] G Q := by
  unfold r_X12_back at h
  refine MP.to (D2 := inN [64]) (Q2 := Q) ?_ hD (fun v G' q _ => q)
  refine p2_vc [24] 400 oo_X12 q_X12_back (by decide) rfl (Nat.le_of_ble_eq_true rfl) ?_
  refine ⟨fun (c1 : n < 0) => ?_, fun (c1 : 0 ≤ n) => ?_⟩
  · rw [if_pos c1] at h
    exact h
  · rw [if_neg (Int.not_lt.mpr c1)] at h
    refine ⟨fun (c2 : n ≤ (G 64 2)) => ?_, fun (c2 : (G 64 2) < n) => ?_⟩
    · rw [if_pos c2] at h
      refine (show W2 o_X12 M_X12_back (inN [64]) (d + 1) Q 24 [some (mR 69), some (mI n)] [] (gs G 64 2 (w32 ((G 64 2) - n))) from ?_)
      refine w2_vc [24] 400 oo_X12 q_X12_back ?_
      exact h
    · rw [if_neg (Int.not_le.mpr c2)] at h
      exact h
def f_X12_at (G : mG) (x : Int) : Int := (if (G 64 4) ≤ x then 0 else (mAnd (G 66 (Int.toNat x)) 255))
theorem sp_X12_at {D : Nat → Bool} {d : Nat} {G : mG} {x : Int} {Q : Option mV → mG → Prop} (hx : 0 ≤ x) (hz : G 64 4 ≤ 3000) (h : Q (some (mI (f_X12_at G x))) G) : P2 D (d + 1) M_X12_at [mR 69, mI x] G Q := by
  unfold f_X12_at at h
  refine p2_vc [] 400 oo_X12 q_X12_at (by decide) rfl (Nat.le_of_ble_eq_true rfl) ?_
  refine ⟨fun (c1 : (G 64 4) ≤ x) => ?_, fun (c1 : x < (G 64 4)) => ?_⟩
  · rw [if_pos c1] at h
    exact h
  · rw [if_neg (Int.not_le.mpr c1)] at h
    refine ⟨(show 0 ≤ x ∧ x < ((3000 : Nat) : Int) from by first | omega | (simp (disch := omega) only [w32_i]; omega)), ?_⟩
    exact h
def f_X12_more (G : mG) (x : Int) (y : Int) : Int := (if ¬ y = 0 then (w64 ((w64 (27 * x)) + (w32 ((w32 (y - 97)) + 1)))) else x)
theorem sp_X12_more {D : Nat → Bool} {d : Nat} {G : mG} {x : Int} {y : Int} {Q : Option mV → mG → Prop} (h : Q (some (mJ (f_X12_more G x y))) G) : P2 D (d + 1) M_X12_more [mJ x, mI y] G Q := by
  unfold f_X12_more at h
  refine p2_vc [] 400 oo_X12 q_X12_more (by decide) rfl (Nat.le_of_ble_eq_true rfl) ?_
  refine ⟨fun (c1 : ¬ y = 0) => ?_, fun (c1 : y = 0) => ?_⟩
  · rw [if_pos c1] at h
    exact h
  · rw [if_neg (fun q => q c1)] at h
    exact h
def f_X12_place (G : mG) : Int := (G 64 17)
theorem sp_X12_place {D : Nat → Bool} {d : Nat} {G : mG} {Q : Option mV → mG → Prop} (h : Q (some (mI (f_X12_place G ))) G) : P2 D (d + 1) M_X12_place [mR 69] G Q := by
  unfold f_X12_place at h
  refine p2_vc [] 400 oo_X12 q_X12_place (by decide) rfl (Nat.le_of_ble_eq_true rfl) ?_
  exact h
def e_X12_token (G : mG) (x : Int) (y : Int) (z : Int) (w : Int) : mG := (gs (gs (gs (gs (gs G 67 (Int.toNat (G 64 10)) x) 68 (Int.toNat (G 64 10)) y) 69 (Int.toNat (G 64 10)) z) 70 (Int.toNat (G 64 10)) w) 64 10 (w32 ((G 64 10) + 1)))
theorem frp_X12_token_64 {G : mG} {x : Int} {y : Int} {z : Int} {w : Int} {i : Nat} (hj : ∀ a ∈ ([10] : List Nat), i ≠ a) : (e_X12_token G x y z w) 64 i = G 64 i := by
  unfold e_X12_token
  repeat' with_reducible first | apply ite_f | apply ite_f2 | apply ite_p | apply ite_p2
  all_goals first | (simp only [gs_at_ne (hj 10 (by simp)), gs_ne (show (64) ≠ (67) from by omega), gs_ne (show (64) ≠ (68) from by omega), gs_ne (show (64) ≠ (69) from by omega), gs_ne (show (64) ≠ (70) from by omega)]; done) | rfl
theorem fr_X12_token {G : mG} {x : Int} {y : Int} {z : Int} {w : Int} {k : Nat} (hk : ∀ a ∈ ([64, 67, 68, 69, 70] : List Nat), k ≠ a) : (e_X12_token G x y z w) k = G k := by
  unfold e_X12_token
  repeat' with_reducible first | apply ite_f | apply ite_f2 | apply ite_p | apply ite_p2
  all_goals first | (simp only [gs_ne (hk (64) (by simp)), gs_ne (hk (67) (by simp)), gs_ne (hk (68) (by simp)), gs_ne (hk (69) (by simp)), gs_ne (hk (70) (by simp))]; done) | rfl
theorem sp_X12_token {D : Nat → Bool} {d : Nat} {G : mG} {x : Int} {y : Int} {z : Int} {w : Int} {Q : Option mV → mG → Prop} (hk : 0 ≤ G 64 10 ∧ G 64 10 < 603) (hD : ∀ k, D k = false → inN [64, 67, 68, 69, 70] k = false) (h : Q none (e_X12_token G x y z w)) : P2 D (d + 1) M_X12_token [mR 69, mI x, mI y, mI z, mJ w] G Q := by
  unfold e_X12_token at h
  refine MP.to (D2 := inN [64, 67, 68, 69, 70]) (Q2 := Q) ?_ hD (fun v G' q _ => q)
  refine p2_vc [10, 20, 30, 41, 51] 400 oo_X12 q_X12_token (by decide) rfl (Nat.le_of_ble_eq_true rfl) ?_
  refine ⟨(show 0 ≤ (G 64 10) ∧ (G 64 10) < ((603 : Nat) : Int) from by first | omega | (simp (disch := omega) only [w32_i]; omega)), ?_⟩
  refine (show W2 o_X12 M_X12_token (inN [64, 67, 68, 69, 70]) (d + 1) Q 10 [some (mR 69), some (mI x), some (mI y), some (mI z), some (mJ w), none] [] (gs G 67 (Int.toNat (G 64 10)) x) from ?_)
  refine w2_vc [10, 20, 30, 41, 51] 400 oo_X12 q_X12_token ?_
  refine ⟨(show 0 ≤ (G 64 10) ∧ (G 64 10) < ((603 : Nat) : Int) from by first | omega | (simp (disch := omega) only [w32_i]; omega)), ?_⟩
  refine (show W2 o_X12 M_X12_token (inN [64, 67, 68, 69, 70]) (d + 1) Q 20 [some (mR 69), some (mI x), some (mI y), some (mI z), some (mJ w), none] [] (gs (gs G 67 (Int.toNat (G 64 10)) x) 68 (Int.toNat (G 64 10)) y) from ?_)
  refine w2_vc [10, 20, 30, 41, 51] 400 oo_X12 q_X12_token ?_
  refine ⟨(show 0 ≤ (G 64 10) ∧ (G 64 10) < ((603 : Nat) : Int) from by first | omega | (simp (disch := omega) only [w32_i]; omega)), ?_⟩
  refine (show W2 o_X12 M_X12_token (inN [64, 67, 68, 69, 70]) (d + 1) Q 30 [some (mR 69), some (mI x), some (mI y), some (mI z), some (mJ w), none] [] (gs (gs (gs G 67 (Int.toNat (G 64 10)) x) 68 (Int.toNat (G 64 10)) y) 69 (Int.toNat (G 64 10)) z) from ?_)
  refine w2_vc [10, 20, 30, 41, 51] 400 oo_X12 q_X12_token ?_
  refine ⟨(show 0 ≤ (G 64 10) ∧ (G 64 10) < ((603 : Nat) : Int) from by first | omega | (simp (disch := omega) only [w32_i]; omega)), ?_⟩
  refine (show W2 o_X12 M_X12_token (inN [64, 67, 68, 69, 70]) (d + 1) Q 41 [some (mR 69), some (mI x), some (mI y), some (mI z), some (mJ w), none] [] (gs (gs (gs (gs G 67 (Int.toNat (G 64 10)) x) 68 (Int.toNat (G 64 10)) y) 69 (Int.toNat (G 64 10)) z) 70 (Int.toNat (G 64 10)) w) from ?_)
  refine w2_vc [10, 20, 30, 41, 51] 400 oo_X12 q_X12_token ?_
  refine (show W2 o_X12 M_X12_token (inN [64, 67, 68, 69, 70]) (d + 1) Q 51 [some (mR 69), some (mI x), some (mI y), some (mI z), some (mJ w), none] [] (gs (gs (gs (gs (gs G 67 (Int.toNat (G 64 10)) x) 68 (Int.toNat (G 64 10)) y) 69 (Int.toNat (G 64 10)) z) 70 (Int.toNat (G 64 10)) w) 64 10 (w32 ((G 64 10) + 1))) from ?_)
  refine w2_vc [10, 20, 30, 41, 51] 400 oo_X12 q_X12_token ?_
  exact h
def r_X12_sign (G : mG) (a : Int) (x : Int) (y : Int) : Int × mG := (if y = 61 then (if ¬ x = 61 then (if ¬ x = 33 then (if ¬ x = 60 then (if ¬ x = 59 then (if ¬ x = 40 then (if ¬ x = 41 then (if ¬ x = 43 then (if ¬ x = 45 then (if ¬ x = 42 then (if ¬ x = 60 then (1, (e_X12_token G 3 a 0 0)) else (1, (e_X12_token G 13 a 0 0))) else (1, (e_X12_token G 10 a 0 0))) else (1, (e_X12_token G 9 a 0 0))) else (1, (e_X12_token G 8 a 0 0))) else (1, (e_X12_token G 7 a 0 0))) else (1, (e_X12_token G 6 a 0 0))) else (1, (e_X12_token G 4 a 0 0))) else (2, (e_X12_token G 14 a 0 0))) else (2, (e_X12_token G 12 a 0 0))) else (2, (e_X12_token G 11 a 0 0))) else (if ¬ x = 59 then (if ¬ x = 40 then (if ¬ x = 41 then (if ¬ x = 43 then (if ¬ x = 45 then (if ¬ x = 42 then (if ¬ x = 60 then (1, (e_X12_token G 3 a 0 0)) else (1, (e_X12_token G 13 a 0 0))) else (1, (e_X12_token G 10 a 0 0))) else (1, (e_X12_token G 9 a 0 0))) else (1, (e_X12_token G 8 a 0 0))) else (1, (e_X12_token G 7 a 0 0))) else (1, (e_X12_token G 6 a 0 0))) else (1, (e_X12_token G 4 a 0 0))))
theorem frp_X12_sign_64 {G : mG} {a : Int} {x : Int} {y : Int} {i : Nat} (hj : ∀ a ∈ ([10] : List Nat), i ≠ a) : (r_X12_sign G a x y).2 64 i = G 64 i := by
  unfold r_X12_sign
  repeat' with_reducible first | apply ite_f | apply ite_f2 | apply ite_p | apply ite_p2
  all_goals first | (simp only [gs_at_ne (hj 10 (by simp)), gs_ne (show (64) ≠ (67) from by omega), gs_ne (show (64) ≠ (68) from by omega), gs_ne (show (64) ≠ (69) from by omega), gs_ne (show (64) ≠ (70) from by omega), frp_X12_token_64 (fun a ha => hj a (by simp only [List.mem_cons, List.not_mem_nil, or_false] at ha ⊢; omega))]; done) | rfl
theorem fr_X12_sign {G : mG} {a : Int} {x : Int} {y : Int} {k : Nat} (hk : ∀ a ∈ ([64, 67, 68, 69, 70] : List Nat), k ≠ a) : (r_X12_sign G a x y).2 k = G k := by
  unfold r_X12_sign
  repeat' with_reducible first | apply ite_f | apply ite_f2 | apply ite_p | apply ite_p2
  all_goals first | (simp only [gs_ne (hk (64) (by simp)), gs_ne (hk (67) (by simp)), gs_ne (hk (68) (by simp)), gs_ne (hk (69) (by simp)), gs_ne (hk (70) (by simp)), fr_X12_token (fun a ha => hk a (by simp only [List.mem_cons, List.not_mem_nil, or_false] at ha ⊢; omega))]; done) | rfl
set_option maxHeartbeats 8000000 in
theorem sp_X12_sign {D : Nat → Bool} {d : Nat} {G : mG} {a : Int} {x : Int} {y : Int} {Q : Option mV → mG → Prop} (hk : 0 ≤ G 64 10 ∧ G 64 10 < 603) (hD : ∀ k, D k = false → inN [64, 67, 68, 69, 70] k = false) (h : Q (some (mI (r_X12_sign G a x y).1)) (r_X12_sign G a x y).2) : P2 D (d + 2) M_X12_sign [mR 69, mI a, mI x, mI y] G Q := by
  unfold r_X12_sign at h
  refine MP.to (D2 := inN [64, 67, 68, 69, 70]) (Q2 := Q) ?_ hD (fun v G' q _ => q)
  refine p2_vc [157] 400 oo_X12 q_X12_sign (by decide) rfl (Nat.le_of_ble_eq_true rfl) ?_
  refine ⟨fun (c1 : y = 61) => ?_, fun (c1 : ¬ y = 61) => ?_⟩
  · rw [if_pos c1] at h
    refine ⟨fun (c2 : ¬ x = 61) => ?_, fun (c2 : x = 61) => ?_⟩
    · rw [if_pos c2] at h
      refine ⟨fun (c3 : ¬ x = 33) => ?_, fun (c3 : x = 33) => ?_⟩
      · rw [if_pos c3] at h
        refine ⟨fun (c4 : ¬ x = 60) => ?_, fun (c4 : x = 60) => ?_⟩
        · rw [if_pos c4] at h
          refine ⟨fun _ => ?_, fun (c : (0 : Int) < 0) => absurd c (by decide)⟩
          refine ⟨fun (c5 : ¬ x = 59) => ?_, fun (c5 : x = 59) => ?_⟩
          · rw [if_pos c5] at h
            refine ⟨fun (c6 : ¬ x = 40) => ?_, fun (c6 : x = 40) => ?_⟩
            · rw [if_pos c6] at h
              refine ⟨fun (c7 : ¬ x = 41) => ?_, fun (c7 : x = 41) => ?_⟩
              · rw [if_pos c7] at h
                refine ⟨fun (c8 : ¬ x = 43) => ?_, fun (c8 : x = 43) => ?_⟩
                · rw [if_pos c8] at h
                  refine ⟨fun (c9 : ¬ x = 45) => ?_, fun (c9 : x = 45) => ?_⟩
                  · rw [if_pos c9] at h
                    refine ⟨fun (c10 : ¬ x = 42) => ?_, fun (c10 : x = 42) => ?_⟩
                    · rw [if_pos c10] at h
                      refine ⟨fun (c11 : ¬ x = 60) => ?_, fun (c11 : x = 60) => ?_⟩
                      · rw [if_pos c11] at h
                        refine sp_X12_token (by omega) (insub (by decide)) ?_
                        refine (show W2 o_X12 M_X12_sign (inN [64, 67, 68, 69, 70]) (d + 2) Q 157 [some (mR 69), some (mI a), some (mI x), some (mI y), some (mI 0), some (mI 3)] [] (e_X12_token G 3 a 0 0) from ?_)
                        refine w2_vc [157] 400 oo_X12 q_X12_sign ?_
                        refine ⟨fun _ => ?_, fun (c : (0 : Int) < 0) => absurd c (by decide)⟩
                        exact h
                      · rw [if_neg (fun q => q c11)] at h
                        refine sp_X12_token (by omega) (insub (by decide)) ?_
                        refine (show W2 o_X12 M_X12_sign (inN [64, 67, 68, 69, 70]) (d + 2) Q 157 [some (mR 69), some (mI a), some (mI x), some (mI y), some (mI 0), some (mI 13)] [] (e_X12_token G 13 a 0 0) from ?_)
                        refine w2_vc [157] 400 oo_X12 q_X12_sign ?_
                        refine ⟨fun _ => ?_, fun (c : (0 : Int) < 0) => absurd c (by decide)⟩
                        exact h
                    · rw [if_neg (fun q => q c10)] at h
                      refine sp_X12_token (by omega) (insub (by decide)) ?_
                      refine (show W2 o_X12 M_X12_sign (inN [64, 67, 68, 69, 70]) (d + 2) Q 157 [some (mR 69), some (mI a), some (mI x), some (mI y), some (mI 0), some (mI 10)] [] (e_X12_token G 10 a 0 0) from ?_)
                      refine w2_vc [157] 400 oo_X12 q_X12_sign ?_
                      refine ⟨fun _ => ?_, fun (c : (0 : Int) < 0) => absurd c (by decide)⟩
                      exact h
                  · rw [if_neg (fun q => q c9)] at h
                    refine sp_X12_token (by omega) (insub (by decide)) ?_
                    refine (show W2 o_X12 M_X12_sign (inN [64, 67, 68, 69, 70]) (d + 2) Q 157 [some (mR 69), some (mI a), some (mI x), some (mI y), some (mI 0), some (mI 9)] [] (e_X12_token G 9 a 0 0) from ?_)
                    refine w2_vc [157] 400 oo_X12 q_X12_sign ?_
                    refine ⟨fun _ => ?_, fun (c : (0 : Int) < 0) => absurd c (by decide)⟩
                    exact h
                · rw [if_neg (fun q => q c8)] at h
                  refine sp_X12_token (by omega) (insub (by decide)) ?_
                  refine (show W2 o_X12 M_X12_sign (inN [64, 67, 68, 69, 70]) (d + 2) Q 157 [some (mR 69), some (mI a), some (mI x), some (mI y), some (mI 0), some (mI 8)] [] (e_X12_token G 8 a 0 0) from ?_)
                  refine w2_vc [157] 400 oo_X12 q_X12_sign ?_
                  refine ⟨fun _ => ?_, fun (c : (0 : Int) < 0) => absurd c (by decide)⟩
                  exact h
              · rw [if_neg (fun q => q c7)] at h
                refine sp_X12_token (by omega) (insub (by decide)) ?_
                refine (show W2 o_X12 M_X12_sign (inN [64, 67, 68, 69, 70]) (d + 2) Q 157 [some (mR 69), some (mI a), some (mI x), some (mI y), some (mI 0), some (mI 7)] [] (e_X12_token G 7 a 0 0) from ?_)
                refine w2_vc [157] 400 oo_X12 q_X12_sign ?_
                refine ⟨fun _ => ?_, fun (c : (0 : Int) < 0) => absurd c (by decide)⟩
                exact h
            · rw [if_neg (fun q => q c6)] at h
              refine sp_X12_token (by omega) (insub (by decide)) ?_
              refine (show W2 o_X12 M_X12_sign (inN [64, 67, 68, 69, 70]) (d + 2) Q 157 [some (mR 69), some (mI a), some (mI x), some (mI y), some (mI 0), some (mI 6)] [] (e_X12_token G 6 a 0 0) from ?_)
              refine w2_vc [157] 400 oo_X12 q_X12_sign ?_
              refine ⟨fun _ => ?_, fun (c : (0 : Int) < 0) => absurd c (by decide)⟩
              exact h
          · rw [if_neg (fun q => q c5)] at h
            refine sp_X12_token (by omega) (insub (by decide)) ?_
            refine (show W2 o_X12 M_X12_sign (inN [64, 67, 68, 69, 70]) (d + 2) Q 157 [some (mR 69), some (mI a), some (mI x), some (mI y), some (mI 0), some (mI 4)] [] (e_X12_token G 4 a 0 0) from ?_)
            refine w2_vc [157] 400 oo_X12 q_X12_sign ?_
            refine ⟨fun _ => ?_, fun (c : (0 : Int) < 0) => absurd c (by decide)⟩
            exact h
        · rw [if_neg (fun q => q c4)] at h
          refine ⟨fun (c : (14 : Int) ≤ 0) => absurd c (by decide), fun _ => ?_⟩
          refine sp_X12_token (by omega) (insub (by decide)) ?_
          refine (show W2 o_X12 M_X12_sign (inN [64, 67, 68, 69, 70]) (d + 2) Q 157 [some (mR 69), some (mI a), some (mI x), some (mI y), some (mI 14), some (mI 14)] [] (e_X12_token G 14 a 0 0) from ?_)
          refine w2_vc [157] 400 oo_X12 q_X12_sign ?_
          refine ⟨fun (c : (14 : Int) ≤ 0) => absurd c (by decide), fun _ => ?_⟩
          exact h
      · rw [if_neg (fun q => q c3)] at h
        refine ⟨fun (c : (12 : Int) ≤ 0) => absurd c (by decide), fun _ => ?_⟩
        refine sp_X12_token (by omega) (insub (by decide)) ?_
        refine (show W2 o_X12 M_X12_sign (inN [64, 67, 68, 69, 70]) (d + 2) Q 157 [some (mR 69), some (mI a), some (mI x), some (mI y), some (mI 12), some (mI 12)] [] (e_X12_token G 12 a 0 0) from ?_)
        refine w2_vc [157] 400 oo_X12 q_X12_sign ?_
        refine ⟨fun (c : (12 : Int) ≤ 0) => absurd c (by decide), fun _ => ?_⟩
        exact h
    · rw [if_neg (fun q => q c2)] at h
      refine ⟨fun (c : (11 : Int) ≤ 0) => absurd c (by decide), fun _ => ?_⟩
      refine sp_X12_token (by omega) (insub (by decide)) ?_
      refine (show W2 o_X12 M_X12_sign (inN [64, 67, 68, 69, 70]) (d + 2) Q 157 [some (mR 69), some (mI a), some (mI x), some (mI y), some (mI 11), some (mI 11)] [] (e_X12_token G 11 a 0 0) from ?_)
      refine w2_vc [157] 400 oo_X12 q_X12_sign ?_
      refine ⟨fun (c : (11 : Int) ≤ 0) => absurd c (by decide), fun _ => ?_⟩
      exact h
  · rw [if_neg (c1)] at h
    refine ⟨fun _ => ?_, fun (c : (0 : Int) < 0) => absurd c (by decide)⟩
    refine ⟨fun (c23 : ¬ x = 59) => ?_, fun (c23 : x = 59) => ?_⟩
    · rw [if_pos c23] at h
      refine ⟨fun (c24 : ¬ x = 40) => ?_, fun (c24 : x = 40) => ?_⟩
      · rw [if_pos c24] at h
        refine ⟨fun (c25 : ¬ x = 41) => ?_, fun (c25 : x = 41) => ?_⟩
        · rw [if_pos c25] at h
          refine ⟨fun (c26 : ¬ x = 43) => ?_, fun (c26 : x = 43) => ?_⟩
          · rw [if_pos c26] at h
            refine ⟨fun (c27 : ¬ x = 45) => ?_, fun (c27 : x = 45) => ?_⟩
            · rw [if_pos c27] at h
              refine ⟨fun (c28 : ¬ x = 42) => ?_, fun (c28 : x = 42) => ?_⟩
              · rw [if_pos c28] at h
                refine ⟨fun (c29 : ¬ x = 60) => ?_, fun (c29 : x = 60) => ?_⟩
                · rw [if_pos c29] at h
                  refine sp_X12_token (by omega) (insub (by decide)) ?_
                  refine (show W2 o_X12 M_X12_sign (inN [64, 67, 68, 69, 70]) (d + 2) Q 157 [some (mR 69), some (mI a), some (mI x), some (mI y), some (mI 0), some (mI 3)] [] (e_X12_token G 3 a 0 0) from ?_)
                  refine w2_vc [157] 400 oo_X12 q_X12_sign ?_
                  refine ⟨fun _ => ?_, fun (c : (0 : Int) < 0) => absurd c (by decide)⟩
                  exact h
                · rw [if_neg (fun q => q c29)] at h
                  refine sp_X12_token (by omega) (insub (by decide)) ?_
                  refine (show W2 o_X12 M_X12_sign (inN [64, 67, 68, 69, 70]) (d + 2) Q 157 [some (mR 69), some (mI a), some (mI x), some (mI y), some (mI 0), some (mI 13)] [] (e_X12_token G 13 a 0 0) from ?_)
                  refine w2_vc [157] 400 oo_X12 q_X12_sign ?_
                  refine ⟨fun _ => ?_, fun (c : (0 : Int) < 0) => absurd c (by decide)⟩
                  exact h
              · rw [if_neg (fun q => q c28)] at h
                refine sp_X12_token (by omega) (insub (by decide)) ?_
                refine (show W2 o_X12 M_X12_sign (inN [64, 67, 68, 69, 70]) (d + 2) Q 157 [some (mR 69), some (mI a), some (mI x), some (mI y), some (mI 0), some (mI 10)] [] (e_X12_token G 10 a 0 0) from ?_)
                refine w2_vc [157] 400 oo_X12 q_X12_sign ?_
                refine ⟨fun _ => ?_, fun (c : (0 : Int) < 0) => absurd c (by decide)⟩
                exact h
            · rw [if_neg (fun q => q c27)] at h
              refine sp_X12_token (by omega) (insub (by decide)) ?_
              refine (show W2 o_X12 M_X12_sign (inN [64, 67, 68, 69, 70]) (d + 2) Q 157 [some (mR 69), some (mI a), some (mI x), some (mI y), some (mI 0), some (mI 9)] [] (e_X12_token G 9 a 0 0) from ?_)
              refine w2_vc [157] 400 oo_X12 q_X12_sign ?_
              refine ⟨fun _ => ?_, fun (c : (0 : Int) < 0) => absurd c (by decide)⟩
              exact h
          · rw [if_neg (fun q => q c26)] at h
            refine sp_X12_token (by omega) (insub (by decide)) ?_
            refine (show W2 o_X12 M_X12_sign (inN [64, 67, 68, 69, 70]) (d + 2) Q 157 [some (mR 69), some (mI a), some (mI x), some (mI y), some (mI 0), some (mI 8)] [] (e_X12_token G 8 a 0 0) from ?_)
            refine w2_vc [157] 400 oo_X12 q_X12_sign ?_
            refine ⟨fun _ => ?_, fun (c : (0 : Int) < 0) => absurd c (by decide)⟩
            exact h
        · rw [if_neg (fun q => q c25)] at h
          refine sp_X12_token (by omega) (insub (by decide)) ?_
          refine (show W2 o_X12 M_X12_sign (inN [64, 67, 68, 69, 70]) (d + 2) Q 157 [some (mR 69), some (mI a), some (mI x), some (mI y), some (mI 0), some (mI 7)] [] (e_X12_token G 7 a 0 0) from ?_)
          refine w2_vc [157] 400 oo_X12 q_X12_sign ?_
          refine ⟨fun _ => ?_, fun (c : (0 : Int) < 0) => absurd c (by decide)⟩
          exact h
      · rw [if_neg (fun q => q c24)] at h
        refine sp_X12_token (by omega) (insub (by decide)) ?_
        refine (show W2 o_X12 M_X12_sign (inN [64, 67, 68, 69, 70]) (d + 2) Q 157 [some (mR 69), some (mI a), some (mI x), some (mI y), some (mI 0), some (mI 6)] [] (e_X12_token G 6 a 0 0) from ?_)
        refine w2_vc [157] 400 oo_X12 q_X12_sign ?_
        refine ⟨fun _ => ?_, fun (c : (0 : Int) < 0) => absurd c (by decide)⟩
        exact h
    · rw [if_neg (fun q => q c23)] at h
      refine sp_X12_token (by omega) (insub (by decide)) ?_
      refine (show W2 o_X12 M_X12_sign (inN [64, 67, 68, 69, 70]) (d + 2) Q 157 [some (mR 69), some (mI a), some (mI x), some (mI y), some (mI 0), some (mI 4)] [] (e_X12_token G 4 a 0 0) from ?_)
      refine w2_vc [157] 400 oo_X12 q_X12_sign ?_
      refine ⟨fun _ => ?_, fun (c : (0 : Int) < 0) => absurd c (by decide)⟩
      exact h
def f_X12_is (G : mG) (x : Int) : Int := (if ¬ (G 64 13) = 0 then 0 else (if ¬ (G 67 (Int.toNat (G 64 11))) = x then 0 else 1))
theorem sp_X12_is {D : Nat → Bool} {d : Nat} {G : mG} {x : Int} {Q : Option mV → mG → Prop} (hT : 0 ≤ G 64 11 ∧ G 64 11 ≤ 602) (h : Q (some (mI (f_X12_is G x))) G) : P2 D (d + 1) M_X12_is [mR 69, mI x] G Q := by
  unfold f_X12_is at h
  refine p2_vc [] 400 oo_X12 q_X12_is (by decide) rfl (Nat.le_of_ble_eq_true rfl) ?_
  refine ⟨fun (c1 : ¬ (G 64 13) = 0) => ?_, fun (c1 : (G 64 13) = 0) => ?_⟩
  · rw [if_pos c1] at h
    exact ⟨by omega, h⟩
  · rw [if_neg (fun q => q c1)] at h
    refine ⟨(show 0 ≤ (G 64 11) ∧ (G 64 11) < ((603 : Nat) : Int) from by first | omega | (simp (disch := omega) only [w32_i]; omega)), ?_⟩
    refine ⟨fun (c2 : ¬ (G 67 (Int.toNat (G 64 11))) = x) => ?_, fun (c2 : (G 67 (Int.toNat (G 64 11))) = x) => ?_⟩
    · rw [if_pos c2] at h
      exact ⟨by omega, h⟩
    · rw [if_neg (fun q => q c2)] at h
      exact ⟨by omega, h⟩
theorem fa_X12_is (G : mG) (x : Int) : (f_X12_is G x = 1 ∧ G 64 13 = 0 ∧ G 67 (Int.toNat (G 64 11)) = x) ∨ (f_X12_is G x = 0 ∧ ¬ (G 64 13 = 0 ∧ G 67 (Int.toNat (G 64 11)) = x)) := by
  unfold f_X12_is
  repeat' split
  all_goals omega
def e_X12_fail (G : mG) (x : Int) : mG := (if (G 64 13) ≤ 0 then (gs (gs G 64 13 x) 64 14 (G 68 (Int.toNat (G 64 11)))) else G)
theorem frp_X12_fail_64 {G : mG} {x : Int} {i : Nat} (hj : ∀ a ∈ ([13, 14] : List Nat), i ≠ a) : (e_X12_fail G x) 64 i = G 64 i := by
  unfold e_X12_fail
  repeat' with_reducible first | apply ite_f | apply ite_f2 | apply ite_p | apply ite_p2
  all_goals first | (simp only [gs_at_ne (hj 13 (by simp)), gs_at_ne (hj 14 (by simp))]; done) | rfl
theorem fr_X12_fail {G : mG} {x : Int} {k : Nat} (hk : ∀ a ∈ ([64] : List Nat), k ≠ a) : (e_X12_fail G x) k = G k := by
  unfold e_X12_fail
  repeat' with_reducible first | apply ite_f | apply ite_f2 | apply ite_p | apply ite_p2
  all_goals first | (simp only [gs_ne (hk (64) (by simp))]; done) | rfl
theorem sp_X12_fail {D : Nat → Bool} {d : Nat} {G : mG} {x : Int} {Q : Option mV → mG → Prop} (hT : 0 ≤ G 64 11 ∧ G 64 11 ≤ 602) (hD : ∀ k, D k = false → inN [64] k = false) (h : Q none (e_X12_fail G x)) : P2 D (d + 1) M_X12_fail [mR 69, mI x] G Q := by
  unfold e_X12_fail at h
  refine MP.to (D2 := inN [64]) (Q2 := Q) ?_ hD (fun v G' q _ => q)
  refine p2_vc [13, 26] 400 oo_X12 q_X12_fail (by decide) rfl (Nat.le_of_ble_eq_true rfl) ?_
  refine ⟨fun (c1 : (G 64 13) ≤ 0) => ?_, fun (c1 : 0 < (G 64 13)) => ?_⟩
  · rw [if_pos c1] at h
    refine (show W2 o_X12 M_X12_fail (inN [64]) (d + 1) Q 13 [some (mR 69), some (mI x)] [] (gs G 64 13 x) from ?_)
    refine w2_vc [13, 26] 400 oo_X12 q_X12_fail ?_
    refine ⟨(show 0 ≤ (G 64 11) ∧ (G 64 11) < ((603 : Nat) : Int) from by first | omega | (simp (disch := omega) only [w32_i]; omega)), ?_⟩
    refine (show W2 o_X12 M_X12_fail (inN [64]) (d + 1) Q 26 [some (mR 69), some (mI x)] [] (gs (gs G 64 13 x) 64 14 (G 68 (Int.toNat (G 64 11)))) from ?_)
    refine w2_vc [13, 26] 400 oo_X12 q_X12_fail ?_
    exact h
  · rw [if_neg (Int.not_le.mpr c1)] at h
    exact h
def e_X12_wrong (G : mG) (x : Int) (y : Int) : mG := (if 0 < (G 64 13) then G else (if (G 64 15) = 0 then (gs (gs G 64 15 x) 64 16 (G 68 (Int.toNat y))) else (if (G 64 16) < (G 68 (Int.toNat y)) then G else (if ¬ (G 68 (Int.toNat y)) = (G 64 16) then (gs (gs G 64 15 x) 64 16 (G 68 (Int.toNat y))) else (if x < (G 64 15) then (gs (gs G 64 15 x) 64 16 (G 68 (Int.toNat y))) else G)))))
theorem frp_X12_wrong_64 {G : mG} {x : Int} {y : Int} {i : Nat} (hj : ∀ a ∈ ([15, 16] : List Nat), i ≠ a) : (e_X12_wrong G x y) 64 i = G 64 i := by
  unfold e_X12_wrong
  repeat' with_reducible first | apply ite_f | apply ite_f2 | apply ite_p | apply ite_p2
  all_goals first | (simp only [gs_at_ne (hj 15 (by simp)), gs_at_ne (hj 16 (by simp))]; done) | rfl
theorem fr_X12_wrong {G : mG} {x : Int} {y : Int} {k : Nat} (hk : ∀ a ∈ ([64] : List Nat), k ≠ a) : (e_X12_wrong G x y) k = G k := by
  unfold e_X12_wrong
  repeat' with_reducible first | apply ite_f | apply ite_f2 | apply ite_p | apply ite_p2
  all_goals first | (simp only [gs_ne (hk (64) (by simp))]; done) | rfl
theorem sp_X12_wrong {D : Nat → Bool} {d : Nat} {G : mG} {x : Int} {y : Int} {Q : Option mV → mG → Prop} (hy : 0 ≤ y ∧ y ≤ 602) (hD : ∀ k, D k = false → inN [64] k = false) (h : Q none (e_X12_wrong G x y)) : P2 D (d + 1) M_X12_wrong [mR 69, mI x, mI y] G Q := by
  unfold e_X12_wrong at h
  refine MP.to (D2 := inN [64]) (Q2 := Q) ?_ hD (fun v G' q _ => q)
  refine p2_vc [51, 56] 400 oo_X12 q_X12_wrong (by decide) rfl (Nat.le_of_ble_eq_true rfl) ?_
  refine ⟨(show 0 ≤ y ∧ y < ((603 : Nat) : Int) from by first | omega | (simp (disch := omega) only [w32_i]; omega)), ?_⟩
  refine ⟨fun (c1 : 0 < (G 64 13)) => ?_, fun (c1 : (G 64 13) ≤ 0) => ?_⟩
  · rw [if_pos c1] at h
    exact h
  · rw [if_neg (Int.not_lt.mpr c1)] at h
    refine ⟨fun (c2 : (G 64 15) = 0) => ?_, fun (c2 : ¬ (G 64 15) = 0) => ?_⟩
    · rw [if_pos c2] at h
      refine (show W2 o_X12 M_X12_wrong (inN [64]) (d + 1) Q 51 [some (mR 69), some (mI x), some (mI y), some (mI (G 68 (Int.toNat y)))] [] (gs G 64 15 x) from ?_)
      refine w2_vc [51, 56] 400 oo_X12 q_X12_wrong ?_
      refine (show W2 o_X12 M_X12_wrong (inN [64]) (d + 1) Q 56 [some (mR 69), some (mI x), some (mI y), some (mI (G 68 (Int.toNat y)))] [] (gs (gs G 64 15 x) 64 16 (G 68 (Int.toNat y))) from ?_)
      refine w2_vc [51, 56] 400 oo_X12 q_X12_wrong ?_
      exact h
    · rw [if_neg (c2)] at h
      refine ⟨fun (c3 : (G 64 16) < (G 68 (Int.toNat y))) => ?_, fun (c3 : (G 68 (Int.toNat y)) ≤ (G 64 16)) => ?_⟩
      · rw [if_pos c3] at h
        exact h
      · rw [if_neg (Int.not_lt.mpr c3)] at h
        refine ⟨fun (c4 : ¬ (G 68 (Int.toNat y)) = (G 64 16)) => ?_, fun (c4 : (G 68 (Int.toNat y)) = (G 64 16)) => ?_⟩
        · rw [if_pos c4] at h
          refine (show W2 o_X12 M_X12_wrong (inN [64]) (d + 1) Q 51 [some (mR 69), some (mI x), some (mI y), some (mI (G 68 (Int.toNat y)))] [] (gs G 64 15 x) from ?_)
          refine w2_vc [51, 56] 400 oo_X12 q_X12_wrong ?_
          refine (show W2 o_X12 M_X12_wrong (inN [64]) (d + 1) Q 56 [some (mR 69), some (mI x), some (mI y), some (mI (G 68 (Int.toNat y)))] [] (gs (gs G 64 15 x) 64 16 (G 68 (Int.toNat y))) from ?_)
          refine w2_vc [51, 56] 400 oo_X12 q_X12_wrong ?_
          exact h
        · rw [if_neg (fun q => q c4)] at h
          refine ⟨fun (c5 : x < (G 64 15)) => ?_, fun (c5 : (G 64 15) ≤ x) => ?_⟩
          · rw [if_pos c5] at h
            refine (show W2 o_X12 M_X12_wrong (inN [64]) (d + 1) Q 51 [some (mR 69), some (mI x), some (mI y), some (mI (G 68 (Int.toNat y)))] [] (gs G 64 15 x) from ?_)
            refine w2_vc [51, 56] 400 oo_X12 q_X12_wrong ?_
            refine (show W2 o_X12 M_X12_wrong (inN [64]) (d + 1) Q 56 [some (mR 69), some (mI x), some (mI y), some (mI (G 68 (Int.toNat y)))] [] (gs (gs G 64 15 x) 64 16 (G 68 (Int.toNat y))) from ?_)
            refine w2_vc [51, 56] 400 oo_X12 q_X12_wrong ?_
            exact h
          · rw [if_neg (Int.not_lt.mpr c5)] at h
            exact h
def e_X12_next (G : mG) : mG := (if ¬ (G 64 11) = 600 then (gs G 64 11 (w32 ((G 64 11) + 1))) else (e_X12_fail G 2))
theorem frp_X12_next_64 {G : mG} {i : Nat} (hj : ∀ a ∈ ([11, 13, 14] : List Nat), i ≠ a) : (e_X12_next G ) 64 i = G 64 i := by
  unfold e_X12_next
  repeat' with_reducible first | apply ite_f | apply ite_f2 | apply ite_p | apply ite_p2
  all_goals first | (simp only [gs_at_ne (hj 11 (by simp)), gs_at_ne (hj 13 (by simp)), gs_at_ne (hj 14 (by simp)), frp_X12_fail_64 (fun a ha => hj a (by simp only [List.mem_cons, List.not_mem_nil, or_false] at ha ⊢; omega))]; done) | rfl
theorem fr_X12_next {G : mG} {k : Nat} (hk : ∀ a ∈ ([64] : List Nat), k ≠ a) : (e_X12_next G ) k = G k := by
  unfold e_X12_next
  repeat' with_reducible first | apply ite_f | apply ite_f2 | apply ite_p | apply ite_p2
  all_goals first | (simp only [gs_ne (hk (64) (by simp)), fr_X12_fail (fun a ha => hk a (by simp only [List.mem_cons, List.not_mem_nil, or_false] at ha ⊢; omega))]; done) | rfl
theorem sp_X12_next {D : Nat → Bool} {d : Nat} {G : mG} {Q : Option mV → mG → Prop} (hT : 0 ≤ G 64 11 ∧ G 64 11 ≤ 602) (hD : ∀ k, D k = false → inN [64] k = false) (h : Q none (e_X12_next G )) : P2 D (d + 2) M_X12_next [mR 69] G Q := by
  unfold e_X12_next at h
  refine MP.to (D2 := inN [64]) (Q2 := Q) ?_ hD (fun v G' q _ => q)
  refine p2_vc [28] 400 oo_X12 q_X12_next (by decide) rfl (Nat.le_of_ble_eq_true rfl) ?_
  refine ⟨fun (c1 : ¬ (G 64 11) = 600) => ?_, fun (c1 : (G 64 11) = 600) => ?_⟩
  · rw [if_pos c1] at h
    refine (show W2 o_X12 M_X12_next (inN [64]) (d + 2) Q 28 [some (mR 69)] [] (gs G 64 11 (w32 ((G 64 11) + 1))) from ?_)
    refine w2_vc [28] 400 oo_X12 q_X12_next ?_
    exact h
  · rw [if_neg (fun q => q c1)] at h
    refine sp_X12_fail (by omega) (insub (by decide)) ?_
    refine (show W2 o_X12 M_X12_next (inN [64]) (d + 2) Q 28 [some (mR 69)] [] (e_X12_fail G 2) from ?_)
    refine w2_vc [28] 400 oo_X12 q_X12_next ?_
    exact h
def e_X12_must (G : mG) (x : Int) : mG := (if (f_X12_is G x) = 0 then (e_X12_fail G 1) else (e_X12_next G ))
theorem frp_X12_must_64 {G : mG} {x : Int} {i : Nat} (hj : ∀ a ∈ ([11, 13, 14] : List Nat), i ≠ a) : (e_X12_must G x) 64 i = G 64 i := by
  unfold e_X12_must
  repeat' with_reducible first | apply ite_f | apply ite_f2 | apply ite_p | apply ite_p2
  all_goals first | (simp only [gs_at_ne (hj 11 (by simp)), gs_at_ne (hj 13 (by simp)), gs_at_ne (hj 14 (by simp)), frp_X12_fail_64 (fun a ha => hj a (by simp only [List.mem_cons, List.not_mem_nil, or_false] at ha ⊢; omega)), frp_X12_next_64 (fun a ha => hj a (by simp only [List.mem_cons, List.not_mem_nil, or_false] at ha ⊢; omega))]; done) | rfl
theorem fr_X12_must {G : mG} {x : Int} {k : Nat} (hk : ∀ a ∈ ([64] : List Nat), k ≠ a) : (e_X12_must G x) k = G k := by
  unfold e_X12_must
  repeat' with_reducible first | apply ite_f | apply ite_f2 | apply ite_p | apply ite_p2
  all_goals first | (simp only [gs_ne (hk (64) (by simp)), fr_X12_fail (fun a ha => hk a (by simp only [List.mem_cons, List.not_mem_nil, or_false] at ha ⊢; omega)), fr_X12_next (fun a ha => hk a (by simp only [List.mem_cons, List.not_mem_nil, or_false] at ha ⊢; omega))]; done) | rfl
theorem sp_X12_must {D : Nat → Bool} {d : Nat} {G : mG} {x : Int} {Q : Option mV → mG → Prop} (hT : 0 ≤ G 64 11 ∧ G 64 11 ≤ 602) (hD : ∀ k, D k = false → inN [64] k = false) (h : Q none (e_X12_must G x)) : P2 D (d + 3) M_X12_must [mR 69, mI x] G Q := by
  unfold e_X12_must at h
  refine MP.to (D2 := inN [64]) (Q2 := Q) ?_ hD (fun v G' q _ => q)
  refine p2_vc [] 400 oo_X12 q_X12_must (by decide) rfl (Nat.le_of_ble_eq_true rfl) ?_
  refine sp_X12_is (by omega) ?_
  have c2 := fa_X12_is G x
  refine ⟨fun (c3 : (f_X12_is G x) = 0) => ?_, fun (c3 : ¬ (f_X12_is G x) = 0) => ?_⟩
  · rw [if_pos c3] at h
    refine sp_X12_fail (by omega) (insub (by decide)) ?_
    exact h
  · rw [if_neg (c3)] at h
    refine sp_X12_next (by omega) (insub (by decide)) ?_
    exact h
def e_X12_emit (G : mG) (x : Int) (y : Int) : mG := (gs (gs (gs G 91 (Int.toNat (G 64 39)) x) 92 (Int.toNat (G 64 39)) y) 64 39 (w32 ((G 64 39) + 1)))
theorem frp_X12_emit_64 {G : mG} {x : Int} {y : Int} {i : Nat} (hj : ∀ a ∈ ([39] : List Nat), i ≠ a) : (e_X12_emit G x y) 64 i = G 64 i := by
  unfold e_X12_emit
  repeat' with_reducible first | apply ite_f | apply ite_f2 | apply ite_p | apply ite_p2
  all_goals first | (simp only [gs_at_ne (hj 39 (by simp)), gs_ne (show (64) ≠ (91) from by omega), gs_ne (show (64) ≠ (92) from by omega)]; done) | rfl
theorem fr_X12_emit {G : mG} {x : Int} {y : Int} {k : Nat} (hk : ∀ a ∈ ([64, 91, 92] : List Nat), k ≠ a) : (e_X12_emit G x y) k = G k := by
  unfold e_X12_emit
  repeat' with_reducible first | apply ite_f | apply ite_f2 | apply ite_p | apply ite_p2
  all_goals first | (simp only [gs_ne (hk (64) (by simp)), gs_ne (hk (91) (by simp)), gs_ne (hk (92) (by simp))]; done) | rfl
theorem sp_X12_emit {D : Nat → Bool} {d : Nat} {G : mG} {x : Int} {y : Int} {Q : Option mV → mG → Prop} (hq : 0 ≤ G 64 39 ∧ G 64 39 < 1400) (hD : ∀ k, D k = false → inN [64, 91, 92] k = false) (h : Q none (e_X12_emit G x y)) : P2 D (d + 1) M_X12_emit [mR 69, mI x, mI y] G Q := by
  unfold e_X12_emit at h
  refine MP.to (D2 := inN [64, 91, 92]) (Q2 := Q) ?_ hD (fun v G' q _ => q)
  refine p2_vc [10, 20, 30] 400 oo_X12 q_X12_emit (by decide) rfl (Nat.le_of_ble_eq_true rfl) ?_
  refine ⟨(show 0 ≤ (G 64 39) ∧ (G 64 39) < ((1400 : Nat) : Int) from by first | omega | (simp (disch := omega) only [w32_i]; omega)), ?_⟩
  refine (show W2 o_X12 M_X12_emit (inN [64, 91, 92]) (d + 1) Q 10 [some (mR 69), some (mI x), some (mI y)] [] (gs G 91 (Int.toNat (G 64 39)) x) from ?_)
  refine w2_vc [10, 20, 30] 400 oo_X12 q_X12_emit ?_
  refine ⟨(show 0 ≤ (G 64 39) ∧ (G 64 39) < ((1400 : Nat) : Int) from by first | omega | (simp (disch := omega) only [w32_i]; omega)), ?_⟩
  refine (show W2 o_X12 M_X12_emit (inN [64, 91, 92]) (d + 1) Q 20 [some (mR 69), some (mI x), some (mI y)] [] (gs (gs G 91 (Int.toNat (G 64 39)) x) 92 (Int.toNat (G 64 39)) y) from ?_)
  refine w2_vc [10, 20, 30] 400 oo_X12 q_X12_emit ?_
  refine (show W2 o_X12 M_X12_emit (inN [64, 91, 92]) (d + 1) Q 30 [some (mR 69), some (mI x), some (mI y)] [] (gs (gs (gs G 91 (Int.toNat (G 64 39)) x) 92 (Int.toNat (G 64 39)) y) 64 39 (w32 ((G 64 39) + 1))) from ?_)
  refine w2_vc [10, 20, 30] 400 oo_X12 q_X12_emit ?_
  exact h
def g_X12_board_125 (G : mG) (a : Int) (b : Int) (x : Int) (y : Int) (z : Int) : Nat → mG → mG := fun j1 s1 => (gs s1 105 (Int.toNat (w32 ((w32 (9 * ((j1 : Nat) : Int))) + (s1 64 44)))) (-1))
def r_X12_board (G : mG) (a : Int) (b : Int) (x : Int) (y : Int) (z : Int) : Int × mG := (if (G 64 44) = 9 then ((-1), G) else (if a < 0 then ((-1), G) else (if 5 < a then ((-1), G) else (if b < 1 then ((-1), G) else (if 9 < b then ((-1), G) else (if x < 0 then ((-1), G) else (if 1000 < x then ((-1), G) else (if y < 0 then ((-1), G) else (if y ≤ 255 then (if z = 0 then ((w32 ((w32 (((fd (g_X12_board_125 G a b x y z) (gs (gs (gs (gs (gs G 94 (Int.toNat (G 64 44)) a) 95 (Int.toNat (G 64 44)) b) 96 (Int.toNat (G 64 44)) x) 97 (Int.toNat (G 64 44)) y) 98 (Int.toNat (G 64 44)) 0) 26) 64 44) + 1)) - 1)), (gs (fd (g_X12_board_125 G a b x y z) (gs (gs (gs (gs (gs G 94 (Int.toNat (G 64 44)) a) 95 (Int.toNat (G 64 44)) b) 96 (Int.toNat (G 64 44)) x) 97 (Int.toNat (G 64 44)) y) 98 (Int.toNat (G 64 44)) 0) 26) 64 44 (w32 (((fd (g_X12_board_125 G a b x y z) (gs (gs (gs (gs (gs G 94 (Int.toNat (G 64 44)) a) 95 (Int.toNat (G 64 44)) b) 96 (Int.toNat (G 64 44)) x) 97 (Int.toNat (G 64 44)) y) 98 (Int.toNat (G 64 44)) 0) 26) 64 44) + 1)))) else (if (G 64 44) ≤ 0 then ((w32 ((w32 (((fd (g_X12_board_125 G a b x y z) (gs (gs (gs (gs (gs G 94 (Int.toNat (G 64 44)) a) 95 (Int.toNat (G 64 44)) b) 96 (Int.toNat (G 64 44)) x) 97 (Int.toNat (G 64 44)) y) 98 (Int.toNat (G 64 44)) 0) 26) 64 44) + 1)) - 1)), (gs (fd (g_X12_board_125 G a b x y z) (gs (gs (gs (gs (gs G 94 (Int.toNat (G 64 44)) a) 95 (Int.toNat (G 64 44)) b) 96 (Int.toNat (G 64 44)) x) 97 (Int.toNat (G 64 44)) y) 98 (Int.toNat (G 64 44)) 0) 26) 64 44 (w32 (((fd (g_X12_board_125 G a b x y z) (gs (gs (gs (gs (gs G 94 (Int.toNat (G 64 44)) a) 95 (Int.toNat (G 64 44)) b) 96 (Int.toNat (G 64 44)) x) 97 (Int.toNat (G 64 44)) y) 98 (Int.toNat (G 64 44)) 0) 26) 64 44) + 1)))) else ((w32 ((w32 (((fd (g_X12_board_125 G a b x y z) (gs (gs (gs (gs (gs G 94 (Int.toNat (G 64 44)) a) 95 (Int.toNat (G 64 44)) b) 96 (Int.toNat (G 64 44)) x) 97 (Int.toNat (G 64 44)) y) 98 (Int.toNat (G 64 44)) 1) 26) 64 44) + 1)) - 1)), (gs (fd (g_X12_board_125 G a b x y z) (gs (gs (gs (gs (gs G 94 (Int.toNat (G 64 44)) a) 95 (Int.toNat (G 64 44)) b) 96 (Int.toNat (G 64 44)) x) 97 (Int.toNat (G 64 44)) y) 98 (Int.toNat (G 64 44)) 1) 26) 64 44 (w32 (((fd (g_X12_board_125 G a b x y z) (gs (gs (gs (gs (gs G 94 (Int.toNat (G 64 44)) a) 95 (Int.toNat (G 64 44)) b) 96 (Int.toNat (G 64 44)) x) 97 (Int.toNat (G 64 44)) y) 98 (Int.toNat (G 64 44)) 1) 26) 64 44) + 1)))))) else ((-1), G))))))))))
theorem fr_g_X12_board_125 (G : mG) (a : Int) (b : Int) (x : Int) (y : Int) (z : Int) {k : Nat} (hk : ∀ a ∈ ([64, 94, 95, 96, 97, 98, 105] : List Nat), k ≠ a) (j : Nat) (s : mG) : (g_X12_board_125 G a b x y z j s) k = s k := by
  unfold g_X12_board_125
  repeat' with_reducible first | apply ite_f | apply ite_f2 | apply ite_p | apply ite_p2
  all_goals first | (simp only [gs_ne (hk (64) (by simp)), gs_ne (hk (94) (by simp)), gs_ne (hk (95) (by simp)), gs_ne (hk (96) (by simp)), gs_ne (hk (97) (by simp)), gs_ne (hk (98) (by simp)), gs_ne (hk (105) (by simp))]; done) | rfl
theorem frp_g_X12_board_125_64 (G : mG) (a : Int) (b : Int) (x : Int) (y : Int) (z : Int) {i : Nat} (hj : ∀ a ∈ ([44] : List Nat), i ≠ a) (j : Nat) (s : mG) : (g_X12_board_125 G a b x y z j s) 64 i = s 64 i := by
  unfold g_X12_board_125
  repeat' with_reducible first | apply ite_f | apply ite_f2 | apply ite_p | apply ite_p2
  all_goals first | (simp only [gs_at_ne (hj 44 (by simp)), gs_ne (show (64) ≠ (94) from by omega), gs_ne (show (64) ≠ (95) from by omega), gs_ne (show (64) ≠ (96) from by omega), gs_ne (show (64) ≠ (97) from by omega), gs_ne (show (64) ≠ (98) from by omega), gs_ne (show (64) ≠ (105) from by omega)]; done) | rfl
theorem frp_X12_board_64 {G : mG} {a : Int} {b : Int} {x : Int} {y : Int} {z : Int} {i : Nat} (hj : ∀ a ∈ ([44] : List Nat), i ≠ a) : (r_X12_board G a b x y z).2 64 i = G 64 i := by
  unfold r_X12_board
  repeat' with_reducible first | apply ite_f | apply ite_f2 | apply ite_p | apply ite_p2
  all_goals first | (simp only [gs_at_ne (hj 44 (by simp)), gs_ne (show (64) ≠ (94) from by omega), gs_ne (show (64) ≠ (95) from by omega), gs_ne (show (64) ≠ (96) from by omega), gs_ne (show (64) ≠ (97) from by omega), gs_ne (show (64) ≠ (98) from by omega), gs_ne (show (64) ≠ (105) from by omega), fd_frp (frp_g_X12_board_125_64 _ _ _ _ _ _ hj)]; done) | rfl
theorem fr_X12_board {G : mG} {a : Int} {b : Int} {x : Int} {y : Int} {z : Int} {k : Nat} (hk : ∀ a ∈ ([64, 94, 95, 96, 97, 98, 105] : List Nat), k ≠ a) : (r_X12_board G a b x y z).2 k = G k := by
  unfold r_X12_board
  repeat' with_reducible first | apply ite_f | apply ite_f2 | apply ite_p | apply ite_p2
  all_goals first | (simp only [gs_ne (hk (64) (by simp)), gs_ne (hk (94) (by simp)), gs_ne (hk (95) (by simp)), gs_ne (hk (96) (by simp)), gs_ne (hk (97) (by simp)), gs_ne (hk (98) (by simp)), gs_ne (hk (105) (by simp)), fd_fr (fr_g_X12_board_125 _ _ _ _ _ _ hk)]; done) | rfl
set_option maxHeartbeats 8000000 in
theorem sp_X12_board {D : Nat → Bool} {d : Nat} {G : mG} {a : Int} {b : Int} {x : Int} {y : Int} {z : Int} {Q : Option mV → mG → Prop} (hbd : 0 ≤ G 64 44 ∧ G 64 44 ≤ 9) (hz : z = 0 ∨ z = 1) (hD : ∀ k, D k = false → inN [64, 94, 95, 96, 97, 98, 105] k = false) (h : Q (some (mI (r_X12_board G a b x y z).1)) (r_X12_board G a b x y z).2) : P2 D (d + 1) M_X12_board [mR 69, mI a, mI b, mI x, mI y, mI z] G Q := by
  unfold r_X12_board at h
  refine MP.to (D2 := inN [64, 94, 95, 96, 97, 98, 105]) (Q2 := Q) ?_ hD (fun v G' q _ => q)
  refine p2_vc [65, 75, 85, 96, 122, 125, 148, 164] 400 oo_X12 q_X12_board (by decide) rfl (Nat.le_of_ble_eq_true rfl) ?_
  refine ⟨fun (c1 : (G 64 44) = 9) => ?_, fun (c1 : ¬ (G 64 44) = 9) => ?_⟩
  · rw [if_pos c1] at h
    exact h
  · rw [if_neg (c1)] at h
    refine ⟨fun (c2 : a < 0) => ?_, fun (c2 : 0 ≤ a) => ?_⟩
    · rw [if_pos c2] at h
      exact h
    · rw [if_neg (Int.not_lt.mpr c2)] at h
      refine ⟨fun (c3 : 5 < a) => ?_, fun (c3 : a ≤ 5) => ?_⟩
      · rw [if_pos c3] at h
        exact h
      · rw [if_neg (Int.not_lt.mpr c3)] at h
        refine ⟨fun (c4 : b < 1) => ?_, fun (c4 : 1 ≤ b) => ?_⟩
        · rw [if_pos c4] at h
          exact h
        · rw [if_neg (Int.not_lt.mpr c4)] at h
          refine ⟨fun (c5 : 9 < b) => ?_, fun (c5 : b ≤ 9) => ?_⟩
          · rw [if_pos c5] at h
            exact h
          · rw [if_neg (Int.not_lt.mpr c5)] at h
            refine ⟨fun (c6 : x < 0) => ?_, fun (c6 : 0 ≤ x) => ?_⟩
            · rw [if_pos c6] at h
              exact h
            · rw [if_neg (Int.not_lt.mpr c6)] at h
              refine ⟨fun (c7 : 1000 < x) => ?_, fun (c7 : x ≤ 1000) => ?_⟩
              · rw [if_pos c7] at h
                exact h
              · rw [if_neg (Int.not_lt.mpr c7)] at h
                refine ⟨fun (c8 : y < 0) => ?_, fun (c8 : 0 ≤ y) => ?_⟩
                · rw [if_pos c8] at h
                  exact h
                · rw [if_neg (Int.not_lt.mpr c8)] at h
                  refine ⟨fun (c9 : y ≤ 255) => ?_, fun (c9 : 255 < y) => ?_⟩
                  · rw [if_pos c9] at h
                    refine ⟨(show 0 ≤ (G 64 44) ∧ (G 64 44) < ((9 : Nat) : Int) from by first | omega | (simp (disch := omega) only [w32_i]; omega)), ?_⟩
                    refine (show W2 o_X12 M_X12_board (inN [64, 94, 95, 96, 97, 98, 105]) (d + 1) Q 65 [some (mR 69), some (mI a), some (mI b), some (mI x), some (mI y), some (mI z), none] [] (gs G 94 (Int.toNat (G 64 44)) a) from ?_)
                    refine w2_vc [65, 75, 85, 96, 122, 125, 148, 164] 400 oo_X12 q_X12_board ?_
                    refine ⟨(show 0 ≤ (G 64 44) ∧ (G 64 44) < ((9 : Nat) : Int) from by first | omega | (simp (disch := omega) only [w32_i]; omega)), ?_⟩
                    refine (show W2 o_X12 M_X12_board (inN [64, 94, 95, 96, 97, 98, 105]) (d + 1) Q 75 [some (mR 69), some (mI a), some (mI b), some (mI x), some (mI y), some (mI z), none] [] (gs (gs G 94 (Int.toNat (G 64 44)) a) 95 (Int.toNat (G 64 44)) b) from ?_)
                    refine w2_vc [65, 75, 85, 96, 122, 125, 148, 164] 400 oo_X12 q_X12_board ?_
                    refine ⟨(show 0 ≤ (G 64 44) ∧ (G 64 44) < ((9 : Nat) : Int) from by first | omega | (simp (disch := omega) only [w32_i]; omega)), ?_⟩
                    refine (show W2 o_X12 M_X12_board (inN [64, 94, 95, 96, 97, 98, 105]) (d + 1) Q 85 [some (mR 69), some (mI a), some (mI b), some (mI x), some (mI y), some (mI z), none] [] (gs (gs (gs G 94 (Int.toNat (G 64 44)) a) 95 (Int.toNat (G 64 44)) b) 96 (Int.toNat (G 64 44)) x) from ?_)
                    refine w2_vc [65, 75, 85, 96, 122, 125, 148, 164] 400 oo_X12 q_X12_board ?_
                    refine ⟨(show 0 ≤ (G 64 44) ∧ (G 64 44) < ((9 : Nat) : Int) from by first | omega | (simp (disch := omega) only [w32_i]; omega)), ?_⟩
                    refine (show W2 o_X12 M_X12_board (inN [64, 94, 95, 96, 97, 98, 105]) (d + 1) Q 96 [some (mR 69), some (mI a), some (mI b), some (mI x), some (mI y), some (mI z), none] [] (gs (gs (gs (gs G 94 (Int.toNat (G 64 44)) a) 95 (Int.toNat (G 64 44)) b) 96 (Int.toNat (G 64 44)) x) 97 (Int.toNat (G 64 44)) y) from ?_)
                    refine w2_vc [65, 75, 85, 96, 122, 125, 148, 164] 400 oo_X12 q_X12_board ?_
                    refine ⟨fun (c10 : z = 0) => ?_, fun (c10 : ¬ z = 0) => ?_⟩
                    · rw [if_pos c10] at h
                      refine ⟨(show 0 ≤ (G 64 44) ∧ (G 64 44) < ((9 : Nat) : Int) from by first | omega | (simp (disch := omega) only [w32_i]; omega)), by omega, ?_⟩
                      refine (show W2 o_X12 M_X12_board (inN [64, 94, 95, 96, 97, 98, 105]) (d + 1) Q 122 [some (mR 69), some (mI a), some (mI b), some (mI x), some (mI y), some (mI z), none] [] (gs (gs (gs (gs (gs G 94 (Int.toNat (G 64 44)) a) 95 (Int.toNat (G 64 44)) b) 96 (Int.toNat (G 64 44)) x) 97 (Int.toNat (G 64 44)) y) 98 (Int.toNat (G 64 44)) 0) from ?_)
                      refine w2_vc [65, 75, 85, 96, 122, 125, 148, 164] 400 oo_X12 q_X12_board ?_
                      refine (show W2 o_X12 M_X12_board (inN [64, 94, 95, 96, 97, 98, 105]) (d + 1) Q 125 [some (mR 69), some (mI a), some (mI b), some (mI x), some (mI y), some (mI z), some (mI ((0 : Nat) : Int))] [] (gs (gs (gs (gs (gs G 94 (Int.toNat (G 64 44)) a) 95 (Int.toNat (G 64 44)) b) 96 (Int.toNat (G 64 44)) x) 97 (Int.toNat (G 64 44)) y) 98 (Int.toNat (G 64 44)) 0) from ?_)
                      refine lupI (g_X12_board_125 G a b x y z) (gs (gs (gs (gs (gs G 94 (Int.toNat (G 64 44)) a) 95 (Int.toNat (G 64 44)) b) 96 (Int.toNat (G 64 44)) x) 97 (Int.toNat (G 64 44)) y) 98 (Int.toNat (G 64 44)) 0) (fun j1 s1 => W2 o_X12 M_X12_board (inN [64, 94, 95, 96, 97, 98, 105]) (d + 1) Q 125 [some (mR 69), some (mI a), some (mI b), some (mI x), some (mI y), some (mI z), some (mI ((j1 : Nat) : Int))] [] s1) (fun (_ : Nat) s => (∀ k, (∀ a ∈ ([64, 94, 95, 96, 97, 98, 105] : List Nat), k ≠ a) → s k = (gs (gs (gs (gs (gs G 94 (Int.toNat (G 64 44)) a) 95 (Int.toNat (G 64 44)) b) 96 (Int.toNat (G 64 44)) x) 97 (Int.toNat (G 64 44)) y) 98 (Int.toNat (G 64 44)) 0) k) ∧ (∀ i, (∀ a ∈ ([44] : List Nat), i ≠ a) → s 64 i = (gs (gs (gs (gs (gs G 94 (Int.toNat (G 64 44)) a) 95 (Int.toNat (G 64 44)) b) 96 (Int.toNat (G 64 44)) x) 97 (Int.toNat (G 64 44)) y) 98 (Int.toNat (G 64 44)) 0) 64 i)) 26 ⟨⟨fun _ _ => rfl, fun _ _ => rfl⟩, fun j s _ hI => ⟨fun k hk => by rw [← hI.1 k hk]; exact fr_g_X12_board_125 G a b x y z hk j s, fun i hi => by rw [← hI.2 i hi]; exact frp_g_X12_board_125_64 G a b x y z hi j s⟩⟩ (fun j1 s1 hj1 hI1 ih1 => ?_) (fun hI1 => ?_)
                      · have ih1 : W2 o_X12 M_X12_board (inN [64, 94, 95, 96, 97, 98, 105]) (d + 1) Q 125 [some (mR 69), some (mI a), some (mI b), some (mI x), some (mI y), some (mI z), some (mI ((j1 + 1 : Nat) : Int))] [] (g_X12_board_125 G a b x y z j1 s1) := ih1
                        unfold g_X12_board_125 at ih1
                        have hF1 := hI1.1
                        have hP1_64 := hI1.2
                        have hI1a : s1 64 44 = G 64 44 := by simp (disch := decide) only [hF1, hP1_64, gs_ne]
                        refine w2_vc [65, 75, 85, 96, 122, 125, 148, 164] 400 oo_X12 q_X12_board ?_
                        refine ⟨fun (c11 : 26 ≤ ((j1 : Nat) : Int)) => ?_, fun (c11 : ((j1 : Nat) : Int) < 26) => ?_⟩
                        · skip
                          exfalso; first | omega | (rw [w32_i (by omega) (by omega)] at c11; omega) | (simp (disch := omega) only [w32_i] at *; omega)
                        · skip
                          refine ⟨(show 0 ≤ (w32 ((w32 (9 * ((j1 : Nat) : Int))) + (s1 64 44))) ∧ (w32 ((w32 (9 * ((j1 : Nat) : Int))) + (s1 64 44))) < ((234 : Nat) : Int) from by first | omega | (simp (disch := omega) only [w32_i]; omega)), ?_⟩
                          refine (show W2 o_X12 M_X12_board (inN [64, 94, 95, 96, 97, 98, 105]) (d + 1) Q 148 [some (mR 69), some (mI a), some (mI b), some (mI x), some (mI y), some (mI z), some (mI ((j1 : Nat) : Int))] [] (gs s1 105 (Int.toNat (w32 ((w32 (9 * ((j1 : Nat) : Int))) + (s1 64 44)))) (-1)) from ?_)
                          refine w2_vc [65, 75, 85, 96, 122, 125, 148, 164] 400 oo_X12 q_X12_board ?_
                          refine (show W2 o_X12 M_X12_board (inN [64, 94, 95, 96, 97, 98, 105]) (d + 1) Q 125 [some (mR 69), some (mI a), some (mI b), some (mI x), some (mI y), some (mI z), some (mI (w32 (((j1 : Nat) : Int) + 1)))] [] (gs s1 105 (Int.toNat (w32 ((w32 (9 * ((j1 : Nat) : Int))) + (s1 64 44)))) (-1)) from ?_)
                          rw [w32_nat (by omega)]
                          exact ih1
                      · skip
                        refine (show W2 o_X12 M_X12_board (inN [64, 94, 95, 96, 97, 98, 105]) (d + 1) Q 125 [some (mR 69), some (mI a), some (mI b), some (mI x), some (mI y), some (mI z), some (mI ((26 : Nat) : Int))] [] (fd (g_X12_board_125 G a b x y z) (gs (gs (gs (gs (gs G 94 (Int.toNat (G 64 44)) a) 95 (Int.toNat (G 64 44)) b) 96 (Int.toNat (G 64 44)) x) 97 (Int.toNat (G 64 44)) y) 98 (Int.toNat (G 64 44)) 0) 26) from ?_)
                        have hF1 := hI1.1
                        have hP1_64 := hI1.2
                        have hI1a : (fd (g_X12_board_125 G a b x y z) (gs (gs (gs (gs (gs G 94 (Int.toNat (G 64 44)) a) 95 (Int.toNat (G 64 44)) b) 96 (Int.toNat (G 64 44)) x) 97 (Int.toNat (G 64 44)) y) 98 (Int.toNat (G 64 44)) 0) 26) 64 44 = G 64 44 := by simp (disch := decide) only [hF1, hP1_64, gs_ne]
                        refine w2_vc [65, 75, 85, 96, 122, 125, 148, 164] 400 oo_X12 q_X12_board ?_
                        refine ⟨fun (c12 : 26 ≤ ((26 : Nat) : Int)) => ?_, fun (c12 : ((26 : Nat) : Int) < 26) => ?_⟩
                        · skip
                          refine (show W2 o_X12 M_X12_board (inN [64, 94, 95, 96, 97, 98, 105]) (d + 1) Q 164 [some (mR 69), some (mI a), some (mI b), some (mI x), some (mI y), some (mI z), some (mI ((26 : Nat) : Int))] [] (gs (fd (g_X12_board_125 G a b x y z) (gs (gs (gs (gs (gs G 94 (Int.toNat (G 64 44)) a) 95 (Int.toNat (G 64 44)) b) 96 (Int.toNat (G 64 44)) x) 97 (Int.toNat (G 64 44)) y) 98 (Int.toNat (G 64 44)) 0) 26) 64 44 (w32 (((fd (g_X12_board_125 G a b x y z) (gs (gs (gs (gs (gs G 94 (Int.toNat (G 64 44)) a) 95 (Int.toNat (G 64 44)) b) 96 (Int.toNat (G 64 44)) x) 97 (Int.toNat (G 64 44)) y) 98 (Int.toNat (G 64 44)) 0) 26) 64 44) + 1))) from ?_)
                          refine w2_vc [65, 75, 85, 96, 122, 125, 148, 164] 400 oo_X12 q_X12_board ?_
                          exact h
                        · skip
                          exfalso; first | omega | (rw [w32_i (by omega) (by omega)] at c12; omega) | (simp (disch := omega) only [w32_i] at *; omega)
                    · rw [if_neg (c10)] at h
                      refine ⟨fun (c13 : (G 64 44) ≤ 0) => ?_, fun (c13 : 0 < (G 64 44)) => ?_⟩
                      · rw [if_pos c13] at h
                        refine ⟨(show 0 ≤ (G 64 44) ∧ (G 64 44) < ((9 : Nat) : Int) from by first | omega | (simp (disch := omega) only [w32_i]; omega)), by omega, ?_⟩
                        refine (show W2 o_X12 M_X12_board (inN [64, 94, 95, 96, 97, 98, 105]) (d + 1) Q 122 [some (mR 69), some (mI a), some (mI b), some (mI x), some (mI y), some (mI z), none] [] (gs (gs (gs (gs (gs G 94 (Int.toNat (G 64 44)) a) 95 (Int.toNat (G 64 44)) b) 96 (Int.toNat (G 64 44)) x) 97 (Int.toNat (G 64 44)) y) 98 (Int.toNat (G 64 44)) 0) from ?_)
                        refine w2_vc [65, 75, 85, 96, 122, 125, 148, 164] 400 oo_X12 q_X12_board ?_
                        refine (show W2 o_X12 M_X12_board (inN [64, 94, 95, 96, 97, 98, 105]) (d + 1) Q 125 [some (mR 69), some (mI a), some (mI b), some (mI x), some (mI y), some (mI z), some (mI ((0 : Nat) : Int))] [] (gs (gs (gs (gs (gs G 94 (Int.toNat (G 64 44)) a) 95 (Int.toNat (G 64 44)) b) 96 (Int.toNat (G 64 44)) x) 97 (Int.toNat (G 64 44)) y) 98 (Int.toNat (G 64 44)) 0) from ?_)
                        refine lupI (g_X12_board_125 G a b x y z) (gs (gs (gs (gs (gs G 94 (Int.toNat (G 64 44)) a) 95 (Int.toNat (G 64 44)) b) 96 (Int.toNat (G 64 44)) x) 97 (Int.toNat (G 64 44)) y) 98 (Int.toNat (G 64 44)) 0) (fun j1 s1 => W2 o_X12 M_X12_board (inN [64, 94, 95, 96, 97, 98, 105]) (d + 1) Q 125 [some (mR 69), some (mI a), some (mI b), some (mI x), some (mI y), some (mI z), some (mI ((j1 : Nat) : Int))] [] s1) (fun (_ : Nat) s => (∀ k, (∀ a ∈ ([64, 94, 95, 96, 97, 98, 105] : List Nat), k ≠ a) → s k = (gs (gs (gs (gs (gs G 94 (Int.toNat (G 64 44)) a) 95 (Int.toNat (G 64 44)) b) 96 (Int.toNat (G 64 44)) x) 97 (Int.toNat (G 64 44)) y) 98 (Int.toNat (G 64 44)) 0) k) ∧ (∀ i, (∀ a ∈ ([44] : List Nat), i ≠ a) → s 64 i = (gs (gs (gs (gs (gs G 94 (Int.toNat (G 64 44)) a) 95 (Int.toNat (G 64 44)) b) 96 (Int.toNat (G 64 44)) x) 97 (Int.toNat (G 64 44)) y) 98 (Int.toNat (G 64 44)) 0) 64 i)) 26 ⟨⟨fun _ _ => rfl, fun _ _ => rfl⟩, fun j s _ hI => ⟨fun k hk => by rw [← hI.1 k hk]; exact fr_g_X12_board_125 G a b x y z hk j s, fun i hi => by rw [← hI.2 i hi]; exact frp_g_X12_board_125_64 G a b x y z hi j s⟩⟩ (fun j1 s1 hj1 hI1 ih1 => ?_) (fun hI1 => ?_)
                        · have ih1 : W2 o_X12 M_X12_board (inN [64, 94, 95, 96, 97, 98, 105]) (d + 1) Q 125 [some (mR 69), some (mI a), some (mI b), some (mI x), some (mI y), some (mI z), some (mI ((j1 + 1 : Nat) : Int))] [] (g_X12_board_125 G a b x y z j1 s1) := ih1
                          unfold g_X12_board_125 at ih1
                          have hF1 := hI1.1
                          have hP1_64 := hI1.2
                          have hI1a : s1 64 44 = G 64 44 := by simp (disch := decide) only [hF1, hP1_64, gs_ne]
                          refine w2_vc [65, 75, 85, 96, 122, 125, 148, 164] 400 oo_X12 q_X12_board ?_
                          refine ⟨fun (c14 : 26 ≤ ((j1 : Nat) : Int)) => ?_, fun (c14 : ((j1 : Nat) : Int) < 26) => ?_⟩
                          · skip
                            exfalso; first | omega | (rw [w32_i (by omega) (by omega)] at c14; omega) | (simp (disch := omega) only [w32_i] at *; omega)
                          · skip
                            refine ⟨(show 0 ≤ (w32 ((w32 (9 * ((j1 : Nat) : Int))) + (s1 64 44))) ∧ (w32 ((w32 (9 * ((j1 : Nat) : Int))) + (s1 64 44))) < ((234 : Nat) : Int) from by first | omega | (simp (disch := omega) only [w32_i]; omega)), ?_⟩
                            refine (show W2 o_X12 M_X12_board (inN [64, 94, 95, 96, 97, 98, 105]) (d + 1) Q 148 [some (mR 69), some (mI a), some (mI b), some (mI x), some (mI y), some (mI z), some (mI ((j1 : Nat) : Int))] [] (gs s1 105 (Int.toNat (w32 ((w32 (9 * ((j1 : Nat) : Int))) + (s1 64 44)))) (-1)) from ?_)
                            refine w2_vc [65, 75, 85, 96, 122, 125, 148, 164] 400 oo_X12 q_X12_board ?_
                            refine (show W2 o_X12 M_X12_board (inN [64, 94, 95, 96, 97, 98, 105]) (d + 1) Q 125 [some (mR 69), some (mI a), some (mI b), some (mI x), some (mI y), some (mI z), some (mI (w32 (((j1 : Nat) : Int) + 1)))] [] (gs s1 105 (Int.toNat (w32 ((w32 (9 * ((j1 : Nat) : Int))) + (s1 64 44)))) (-1)) from ?_)
                            rw [w32_nat (by omega)]
                            exact ih1
                        · skip
                          refine (show W2 o_X12 M_X12_board (inN [64, 94, 95, 96, 97, 98, 105]) (d + 1) Q 125 [some (mR 69), some (mI a), some (mI b), some (mI x), some (mI y), some (mI z), some (mI ((26 : Nat) : Int))] [] (fd (g_X12_board_125 G a b x y z) (gs (gs (gs (gs (gs G 94 (Int.toNat (G 64 44)) a) 95 (Int.toNat (G 64 44)) b) 96 (Int.toNat (G 64 44)) x) 97 (Int.toNat (G 64 44)) y) 98 (Int.toNat (G 64 44)) 0) 26) from ?_)
                          have hF1 := hI1.1
                          have hP1_64 := hI1.2
                          have hI1a : (fd (g_X12_board_125 G a b x y z) (gs (gs (gs (gs (gs G 94 (Int.toNat (G 64 44)) a) 95 (Int.toNat (G 64 44)) b) 96 (Int.toNat (G 64 44)) x) 97 (Int.toNat (G 64 44)) y) 98 (Int.toNat (G 64 44)) 0) 26) 64 44 = G 64 44 := by simp (disch := decide) only [hF1, hP1_64, gs_ne]
                          refine w2_vc [65, 75, 85, 96, 122, 125, 148, 164] 400 oo_X12 q_X12_board ?_
                          refine ⟨fun (c15 : 26 ≤ ((26 : Nat) : Int)) => ?_, fun (c15 : ((26 : Nat) : Int) < 26) => ?_⟩
                          · skip
                            refine (show W2 o_X12 M_X12_board (inN [64, 94, 95, 96, 97, 98, 105]) (d + 1) Q 164 [some (mR 69), some (mI a), some (mI b), some (mI x), some (mI y), some (mI z), some (mI ((26 : Nat) : Int))] [] (gs (fd (g_X12_board_125 G a b x y z) (gs (gs (gs (gs (gs G 94 (Int.toNat (G 64 44)) a) 95 (Int.toNat (G 64 44)) b) 96 (Int.toNat (G 64 44)) x) 97 (Int.toNat (G 64 44)) y) 98 (Int.toNat (G 64 44)) 0) 26) 64 44 (w32 (((fd (g_X12_board_125 G a b x y z) (gs (gs (gs (gs (gs G 94 (Int.toNat (G 64 44)) a) 95 (Int.toNat (G 64 44)) b) 96 (Int.toNat (G 64 44)) x) 97 (Int.toNat (G 64 44)) y) 98 (Int.toNat (G 64 44)) 0) 26) 64 44) + 1))) from ?_)
                            refine w2_vc [65, 75, 85, 96, 122, 125, 148, 164] 400 oo_X12 q_X12_board ?_
                            exact h
                          · skip
                            exfalso; first | omega | (rw [w32_i (by omega) (by omega)] at c15; omega) | (simp (disch := omega) only [w32_i] at *; omega)
                      · rw [if_neg (Int.not_le.mpr c13)] at h
                        refine ⟨(show 0 ≤ (G 64 44) ∧ (G 64 44) < ((9 : Nat) : Int) from by first | omega | (simp (disch := omega) only [w32_i]; omega)), by omega, ?_⟩
                        refine (show W2 o_X12 M_X12_board (inN [64, 94, 95, 96, 97, 98, 105]) (d + 1) Q 122 [some (mR 69), some (mI a), some (mI b), some (mI x), some (mI y), some (mI z), none] [] (gs (gs (gs (gs (gs G 94 (Int.toNat (G 64 44)) a) 95 (Int.toNat (G 64 44)) b) 96 (Int.toNat (G 64 44)) x) 97 (Int.toNat (G 64 44)) y) 98 (Int.toNat (G 64 44)) 1) from ?_)
                        refine w2_vc [65, 75, 85, 96, 122, 125, 148, 164] 400 oo_X12 q_X12_board ?_
                        refine (show W2 o_X12 M_X12_board (inN [64, 94, 95, 96, 97, 98, 105]) (d + 1) Q 125 [some (mR 69), some (mI a), some (mI b), some (mI x), some (mI y), some (mI z), some (mI ((0 : Nat) : Int))] [] (gs (gs (gs (gs (gs G 94 (Int.toNat (G 64 44)) a) 95 (Int.toNat (G 64 44)) b) 96 (Int.toNat (G 64 44)) x) 97 (Int.toNat (G 64 44)) y) 98 (Int.toNat (G 64 44)) 1) from ?_)
                        refine lupI (g_X12_board_125 G a b x y z) (gs (gs (gs (gs (gs G 94 (Int.toNat (G 64 44)) a) 95 (Int.toNat (G 64 44)) b) 96 (Int.toNat (G 64 44)) x) 97 (Int.toNat (G 64 44)) y) 98 (Int.toNat (G 64 44)) 1) (fun j1 s1 => W2 o_X12 M_X12_board (inN [64, 94, 95, 96, 97, 98, 105]) (d + 1) Q 125 [some (mR 69), some (mI a), some (mI b), some (mI x), some (mI y), some (mI z), some (mI ((j1 : Nat) : Int))] [] s1) (fun (_ : Nat) s => (∀ k, (∀ a ∈ ([64, 94, 95, 96, 97, 98, 105] : List Nat), k ≠ a) → s k = (gs (gs (gs (gs (gs G 94 (Int.toNat (G 64 44)) a) 95 (Int.toNat (G 64 44)) b) 96 (Int.toNat (G 64 44)) x) 97 (Int.toNat (G 64 44)) y) 98 (Int.toNat (G 64 44)) 1) k) ∧ (∀ i, (∀ a ∈ ([44] : List Nat), i ≠ a) → s 64 i = (gs (gs (gs (gs (gs G 94 (Int.toNat (G 64 44)) a) 95 (Int.toNat (G 64 44)) b) 96 (Int.toNat (G 64 44)) x) 97 (Int.toNat (G 64 44)) y) 98 (Int.toNat (G 64 44)) 1) 64 i)) 26 ⟨⟨fun _ _ => rfl, fun _ _ => rfl⟩, fun j s _ hI => ⟨fun k hk => by rw [← hI.1 k hk]; exact fr_g_X12_board_125 G a b x y z hk j s, fun i hi => by rw [← hI.2 i hi]; exact frp_g_X12_board_125_64 G a b x y z hi j s⟩⟩ (fun j1 s1 hj1 hI1 ih1 => ?_) (fun hI1 => ?_)
                        · have ih1 : W2 o_X12 M_X12_board (inN [64, 94, 95, 96, 97, 98, 105]) (d + 1) Q 125 [some (mR 69), some (mI a), some (mI b), some (mI x), some (mI y), some (mI z), some (mI ((j1 + 1 : Nat) : Int))] [] (g_X12_board_125 G a b x y z j1 s1) := ih1
                          unfold g_X12_board_125 at ih1
                          have hF1 := hI1.1
                          have hP1_64 := hI1.2
                          have hI1a : s1 64 44 = G 64 44 := by simp (disch := decide) only [hF1, hP1_64, gs_ne]
                          refine w2_vc [65, 75, 85, 96, 122, 125, 148, 164] 400 oo_X12 q_X12_board ?_
                          refine ⟨fun (c16 : 26 ≤ ((j1 : Nat) : Int)) => ?_, fun (c16 : ((j1 : Nat) : Int) < 26) => ?_⟩
                          · skip
                            exfalso; first | omega | (rw [w32_i (by omega) (by omega)] at c16; omega) | (simp (disch := omega) only [w32_i] at *; omega)
                          · skip
                            refine ⟨(show 0 ≤ (w32 ((w32 (9 * ((j1 : Nat) : Int))) + (s1 64 44))) ∧ (w32 ((w32 (9 * ((j1 : Nat) : Int))) + (s1 64 44))) < ((234 : Nat) : Int) from by first | omega | (simp (disch := omega) only [w32_i]; omega)), ?_⟩
                            refine (show W2 o_X12 M_X12_board (inN [64, 94, 95, 96, 97, 98, 105]) (d + 1) Q 148 [some (mR 69), some (mI a), some (mI b), some (mI x), some (mI y), some (mI z), some (mI ((j1 : Nat) : Int))] [] (gs s1 105 (Int.toNat (w32 ((w32 (9 * ((j1 : Nat) : Int))) + (s1 64 44)))) (-1)) from ?_)
                            refine w2_vc [65, 75, 85, 96, 122, 125, 148, 164] 400 oo_X12 q_X12_board ?_
                            refine (show W2 o_X12 M_X12_board (inN [64, 94, 95, 96, 97, 98, 105]) (d + 1) Q 125 [some (mR 69), some (mI a), some (mI b), some (mI x), some (mI y), some (mI z), some (mI (w32 (((j1 : Nat) : Int) + 1)))] [] (gs s1 105 (Int.toNat (w32 ((w32 (9 * ((j1 : Nat) : Int))) + (s1 64 44)))) (-1)) from ?_)
                            rw [w32_nat (by omega)]
                            exact ih1
                        · skip
                          refine (show W2 o_X12 M_X12_board (inN [64, 94, 95, 96, 97, 98, 105]) (d + 1) Q 125 [some (mR 69), some (mI a), some (mI b), some (mI x), some (mI y), some (mI z), some (mI ((26 : Nat) : Int))] [] (fd (g_X12_board_125 G a b x y z) (gs (gs (gs (gs (gs G 94 (Int.toNat (G 64 44)) a) 95 (Int.toNat (G 64 44)) b) 96 (Int.toNat (G 64 44)) x) 97 (Int.toNat (G 64 44)) y) 98 (Int.toNat (G 64 44)) 1) 26) from ?_)
                          have hF1 := hI1.1
                          have hP1_64 := hI1.2
                          have hI1a : (fd (g_X12_board_125 G a b x y z) (gs (gs (gs (gs (gs G 94 (Int.toNat (G 64 44)) a) 95 (Int.toNat (G 64 44)) b) 96 (Int.toNat (G 64 44)) x) 97 (Int.toNat (G 64 44)) y) 98 (Int.toNat (G 64 44)) 1) 26) 64 44 = G 64 44 := by simp (disch := decide) only [hF1, hP1_64, gs_ne]
                          refine w2_vc [65, 75, 85, 96, 122, 125, 148, 164] 400 oo_X12 q_X12_board ?_
                          refine ⟨fun (c17 : 26 ≤ ((26 : Nat) : Int)) => ?_, fun (c17 : ((26 : Nat) : Int) < 26) => ?_⟩
                          · skip
                            refine (show W2 o_X12 M_X12_board (inN [64, 94, 95, 96, 97, 98, 105]) (d + 1) Q 164 [some (mR 69), some (mI a), some (mI b), some (mI x), some (mI y), some (mI z), some (mI ((26 : Nat) : Int))] [] (gs (fd (g_X12_board_125 G a b x y z) (gs (gs (gs (gs (gs G 94 (Int.toNat (G 64 44)) a) 95 (Int.toNat (G 64 44)) b) 96 (Int.toNat (G 64 44)) x) 97 (Int.toNat (G 64 44)) y) 98 (Int.toNat (G 64 44)) 1) 26) 64 44 (w32 (((fd (g_X12_board_125 G a b x y z) (gs (gs (gs (gs (gs G 94 (Int.toNat (G 64 44)) a) 95 (Int.toNat (G 64 44)) b) 96 (Int.toNat (G 64 44)) x) 97 (Int.toNat (G 64 44)) y) 98 (Int.toNat (G 64 44)) 1) 26) 64 44) + 1))) from ?_)
                            refine w2_vc [65, 75, 85, 96, 122, 125, 148, 164] 400 oo_X12 q_X12_board ?_
                            exact h
                          · skip
                            exfalso; first | omega | (rw [w32_i (by omega) (by omega)] at c17; omega) | (simp (disch := omega) only [w32_i] at *; omega)
                  · rw [if_neg (Int.not_le.mpr c9)] at h
                    exact h
def r_X12_pace (G : mG) (x : Int) (y : Int) : Int × mG := (if x < 0 then (0, G) else (if 5 < x then (0, G) else (if y < 1 then (0, G) else (if y ≤ 9 then (1, (gs G 99 (Int.toNat x) y)) else (0, G)))))
theorem fr_X12_pace {G : mG} {x : Int} {y : Int} {k : Nat} (hk : ∀ a ∈ ([99] : List Nat), k ≠ a) : (r_X12_pace G x y).2 k = G k := by
  unfold r_X12_pace
  repeat' with_reducible first | apply ite_f | apply ite_f2 | apply ite_p | apply ite_p2
  all_goals first | (simp only [gs_ne (hk (99) (by simp))]; done) | rfl
theorem sp_X12_pace {D : Nat → Bool} {d : Nat} {G : mG} {x : Int} {y : Int} {Q : Option mV → mG → Prop} (hD : ∀ k, D k = false → inN [99] k = false) (h : Q (some (mI (r_X12_pace G x y).1)) (r_X12_pace G x y).2) : P2 D (d + 1) M_X12_pace [mR 69, mI x, mI y] G Q := by
  unfold r_X12_pace at h
  refine MP.to (D2 := inN [99]) (Q2 := Q) ?_ hD (fun v G' q _ => q)
  refine p2_vc [29] 400 oo_X12 q_X12_pace (by decide) rfl (Nat.le_of_ble_eq_true rfl) ?_
  refine ⟨fun (c1 : x < 0) => ?_, fun (c1 : 0 ≤ x) => ?_⟩
  · rw [if_pos c1] at h
    exact ⟨by omega, h⟩
  · rw [if_neg (Int.not_lt.mpr c1)] at h
    refine ⟨fun (c2 : 5 < x) => ?_, fun (c2 : x ≤ 5) => ?_⟩
    · rw [if_pos c2] at h
      exact ⟨by omega, h⟩
    · rw [if_neg (Int.not_lt.mpr c2)] at h
      refine ⟨fun (c3 : y < 1) => ?_, fun (c3 : 1 ≤ y) => ?_⟩
      · rw [if_pos c3] at h
        exact ⟨by omega, h⟩
      · rw [if_neg (Int.not_lt.mpr c3)] at h
        refine ⟨fun (c4 : y ≤ 9) => ?_, fun (c4 : 9 < y) => ?_⟩
        · rw [if_pos c4] at h
          refine ⟨(show 0 ≤ x ∧ x < ((6 : Nat) : Int) from by first | omega | (simp (disch := omega) only [w32_i]; omega)), ?_⟩
          refine (show W2 o_X12 M_X12_pace (inN [99]) (d + 1) Q 29 [some (mR 69), some (mI x), some (mI y)] [] (gs G 99 (Int.toNat x) y) from ?_)
          refine w2_vc [29] 400 oo_X12 q_X12_pace ?_
          exact ⟨by omega, h⟩
        · rw [if_neg (Int.not_le.mpr c4)] at h
          exact ⟨by omega, h⟩
def r_X12_fact (G : mG) (kd : Int) (b : Int) (f : Int) (dy : Int) : Int × mG := (if (G 64 51) = 300 then ((-1), G) else (if kd < 0 then ((-1), G) else (if 4 < kd then ((-1), G) else (if (f_X12_isBoard G b) = 0 then ((-1), G) else (if (f_X12_isFortnight G f) = 0 then ((-1), G) else (if dy < 0 then ((-1), G) else (if ¬ kd = 4 then (if dy ≤ 13 then ((w32 ((w32 ((G 64 51) + 1)) - 1)), (gs (gs (gs (gs (gs G 100 (Int.toNat (G 64 51)) kd) 101 (Int.toNat (G 64 51)) b) 102 (Int.toNat (G 64 51)) f) 103 (Int.toNat (G 64 51)) dy) 64 51 (w32 ((G 64 51) + 1)))) else ((-1), G)) else (if dy ≤ 0 then ((w32 ((w32 ((G 64 51) + 1)) - 1)), (gs (gs (gs (gs (gs G 100 (Int.toNat (G 64 51)) kd) 101 (Int.toNat (G 64 51)) b) 102 (Int.toNat (G 64 51)) f) 103 (Int.toNat (G 64 51)) dy) 64 51 (w32 ((G 64 51) + 1)))) else ((-1), G)))))))))
theorem frp_X12_fact_64 {G : mG} {kd : Int} {b : Int} {f : Int} {dy : Int} {i : Nat} (hj : ∀ a ∈ ([51] : List Nat), i ≠ a) : (r_X12_fact G kd b f dy).2 64 i = G 64 i := by
  unfold r_X12_fact
  repeat' with_reducible first | apply ite_f | apply ite_f2 | apply ite_p | apply ite_p2
  all_goals first | (simp only [gs_at_ne (hj 51 (by simp)), gs_ne (show (64) ≠ (100) from by omega), gs_ne (show (64) ≠ (101) from by omega), gs_ne (show (64) ≠ (102) from by omega), gs_ne (show (64) ≠ (103) from by omega)]; done) | rfl
theorem fr_X12_fact {G : mG} {kd : Int} {b : Int} {f : Int} {dy : Int} {k : Nat} (hk : ∀ a ∈ ([64, 100, 101, 102, 103] : List Nat), k ≠ a) : (r_X12_fact G kd b f dy).2 k = G k := by
  unfold r_X12_fact
  repeat' with_reducible first | apply ite_f | apply ite_f2 | apply ite_p | apply ite_p2
  all_goals first | (simp only [gs_ne (hk (64) (by simp)), gs_ne (hk (100) (by simp)), gs_ne (hk (101) (by simp)), gs_ne (hk (102) (by simp)), gs_ne (hk (103) (by simp))]; done) | rfl
set_option maxHeartbeats 8000000 in
theorem sp_X12_fact {D : Nat → Bool} {d : Nat} {G : mG} {kd : Int} {b : Int} {f : Int} {dy : Int} {Q : Option mV → mG → Prop} (hfa : 0 ≤ G 64 51 ∧ G 64 51 ≤ 300) (hD : ∀ k, D k = false → inN [64, 100, 101, 102, 103] k = false) (h : Q (some (mI (r_X12_fact G kd b f dy).1)) (r_X12_fact G kd b f dy).2) : P2 D (d + 2) M_X12_fact [mR 69, mI kd, mI b, mI f, mI dy] G Q := by
  unfold r_X12_fact at h
  refine MP.to (D2 := inN [64, 100, 101, 102, 103]) (Q2 := Q) ?_ hD (fun v G' q _ => q)
  refine p2_vc [67, 77, 87, 98, 108] 400 oo_X12 q_X12_fact (by decide) rfl (Nat.le_of_ble_eq_true rfl) ?_
  refine ⟨fun (c1 : (G 64 51) = 300) => ?_, fun (c1 : ¬ (G 64 51) = 300) => ?_⟩
  · rw [if_pos c1] at h
    exact h
  · rw [if_neg (c1)] at h
    refine ⟨fun (c2 : kd < 0) => ?_, fun (c2 : 0 ≤ kd) => ?_⟩
    · rw [if_pos c2] at h
      exact h
    · rw [if_neg (Int.not_lt.mpr c2)] at h
      refine ⟨fun (c3 : 4 < kd) => ?_, fun (c3 : kd ≤ 4) => ?_⟩
      · rw [if_pos c3] at h
        exact h
      · rw [if_neg (Int.not_lt.mpr c3)] at h
        refine sp_X12_isBoard  ?_
        have c5 := fa_X12_isBoard G b
        refine ⟨fun (c6 : (f_X12_isBoard G b) = 0) => ?_, fun (c6 : ¬ (f_X12_isBoard G b) = 0) => ?_⟩
        · rw [if_pos c6] at h
          exact h
        · rw [if_neg (c6)] at h
          refine sp_X12_isFortnight  ?_
          have c8 := fa_X12_isFortnight G f
          refine ⟨fun (c9 : (f_X12_isFortnight G f) = 0) => ?_, fun (c9 : ¬ (f_X12_isFortnight G f) = 0) => ?_⟩
          · rw [if_pos c9] at h
            exact h
          · rw [if_neg (c9)] at h
            refine ⟨fun (c10 : dy < 0) => ?_, fun (c10 : 0 ≤ dy) => ?_⟩
            · rw [if_pos c10] at h
              exact h
            · rw [if_neg (Int.not_lt.mpr c10)] at h
              refine ⟨fun (c11 : ¬ kd = 4) => ?_, fun (c11 : kd = 4) => ?_⟩
              · rw [if_pos c11] at h
                refine ⟨fun (c12 : dy ≤ 13) => ?_, fun (c12 : 13 < dy) => ?_⟩
                · rw [if_pos c12] at h
                  refine ⟨(show 0 ≤ (G 64 51) ∧ (G 64 51) < ((300 : Nat) : Int) from by first | omega | (simp (disch := omega) only [w32_i]; omega)), ?_⟩
                  refine (show W2 o_X12 M_X12_fact (inN [64, 100, 101, 102, 103]) (d + 2) Q 67 [some (mR 69), some (mI kd), some (mI b), some (mI f), some (mI dy)] [] (gs G 100 (Int.toNat (G 64 51)) kd) from ?_)
                  refine w2_vc [67, 77, 87, 98, 108] 400 oo_X12 q_X12_fact ?_
                  refine ⟨(show 0 ≤ (G 64 51) ∧ (G 64 51) < ((300 : Nat) : Int) from by first | omega | (simp (disch := omega) only [w32_i]; omega)), ?_⟩
                  refine (show W2 o_X12 M_X12_fact (inN [64, 100, 101, 102, 103]) (d + 2) Q 77 [some (mR 69), some (mI kd), some (mI b), some (mI f), some (mI dy)] [] (gs (gs G 100 (Int.toNat (G 64 51)) kd) 101 (Int.toNat (G 64 51)) b) from ?_)
                  refine w2_vc [67, 77, 87, 98, 108] 400 oo_X12 q_X12_fact ?_
                  refine ⟨(show 0 ≤ (G 64 51) ∧ (G 64 51) < ((300 : Nat) : Int) from by first | omega | (simp (disch := omega) only [w32_i]; omega)), ?_⟩
                  refine (show W2 o_X12 M_X12_fact (inN [64, 100, 101, 102, 103]) (d + 2) Q 87 [some (mR 69), some (mI kd), some (mI b), some (mI f), some (mI dy)] [] (gs (gs (gs G 100 (Int.toNat (G 64 51)) kd) 101 (Int.toNat (G 64 51)) b) 102 (Int.toNat (G 64 51)) f) from ?_)
                  refine w2_vc [67, 77, 87, 98, 108] 400 oo_X12 q_X12_fact ?_
                  refine ⟨(show 0 ≤ (G 64 51) ∧ (G 64 51) < ((300 : Nat) : Int) from by first | omega | (simp (disch := omega) only [w32_i]; omega)), ?_⟩
                  refine (show W2 o_X12 M_X12_fact (inN [64, 100, 101, 102, 103]) (d + 2) Q 98 [some (mR 69), some (mI kd), some (mI b), some (mI f), some (mI dy)] [] (gs (gs (gs (gs G 100 (Int.toNat (G 64 51)) kd) 101 (Int.toNat (G 64 51)) b) 102 (Int.toNat (G 64 51)) f) 103 (Int.toNat (G 64 51)) dy) from ?_)
                  refine w2_vc [67, 77, 87, 98, 108] 400 oo_X12 q_X12_fact ?_
                  refine (show W2 o_X12 M_X12_fact (inN [64, 100, 101, 102, 103]) (d + 2) Q 108 [some (mR 69), some (mI kd), some (mI b), some (mI f), some (mI dy)] [] (gs (gs (gs (gs (gs G 100 (Int.toNat (G 64 51)) kd) 101 (Int.toNat (G 64 51)) b) 102 (Int.toNat (G 64 51)) f) 103 (Int.toNat (G 64 51)) dy) 64 51 (w32 ((G 64 51) + 1))) from ?_)
                  refine w2_vc [67, 77, 87, 98, 108] 400 oo_X12 q_X12_fact ?_
                  exact h
                · rw [if_neg (Int.not_le.mpr c12)] at h
                  exact h
              · rw [if_neg (fun q => q c11)] at h
                refine ⟨fun (c13 : dy ≤ 0) => ?_, fun (c13 : 0 < dy) => ?_⟩
                · rw [if_pos c13] at h
                  refine ⟨(show 0 ≤ (G 64 51) ∧ (G 64 51) < ((300 : Nat) : Int) from by first | omega | (simp (disch := omega) only [w32_i]; omega)), ?_⟩
                  refine (show W2 o_X12 M_X12_fact (inN [64, 100, 101, 102, 103]) (d + 2) Q 67 [some (mR 69), some (mI kd), some (mI b), some (mI f), some (mI dy)] [] (gs G 100 (Int.toNat (G 64 51)) kd) from ?_)
                  refine w2_vc [67, 77, 87, 98, 108] 400 oo_X12 q_X12_fact ?_
                  refine ⟨(show 0 ≤ (G 64 51) ∧ (G 64 51) < ((300 : Nat) : Int) from by first | omega | (simp (disch := omega) only [w32_i]; omega)), ?_⟩
                  refine (show W2 o_X12 M_X12_fact (inN [64, 100, 101, 102, 103]) (d + 2) Q 77 [some (mR 69), some (mI kd), some (mI b), some (mI f), some (mI dy)] [] (gs (gs G 100 (Int.toNat (G 64 51)) kd) 101 (Int.toNat (G 64 51)) b) from ?_)
                  refine w2_vc [67, 77, 87, 98, 108] 400 oo_X12 q_X12_fact ?_
                  refine ⟨(show 0 ≤ (G 64 51) ∧ (G 64 51) < ((300 : Nat) : Int) from by first | omega | (simp (disch := omega) only [w32_i]; omega)), ?_⟩
                  refine (show W2 o_X12 M_X12_fact (inN [64, 100, 101, 102, 103]) (d + 2) Q 87 [some (mR 69), some (mI kd), some (mI b), some (mI f), some (mI dy)] [] (gs (gs (gs G 100 (Int.toNat (G 64 51)) kd) 101 (Int.toNat (G 64 51)) b) 102 (Int.toNat (G 64 51)) f) from ?_)
                  refine w2_vc [67, 77, 87, 98, 108] 400 oo_X12 q_X12_fact ?_
                  refine ⟨(show 0 ≤ (G 64 51) ∧ (G 64 51) < ((300 : Nat) : Int) from by first | omega | (simp (disch := omega) only [w32_i]; omega)), ?_⟩
                  refine (show W2 o_X12 M_X12_fact (inN [64, 100, 101, 102, 103]) (d + 2) Q 98 [some (mR 69), some (mI kd), some (mI b), some (mI f), some (mI dy)] [] (gs (gs (gs (gs G 100 (Int.toNat (G 64 51)) kd) 101 (Int.toNat (G 64 51)) b) 102 (Int.toNat (G 64 51)) f) 103 (Int.toNat (G 64 51)) dy) from ?_)
                  refine w2_vc [67, 77, 87, 98, 108] 400 oo_X12 q_X12_fact ?_
                  refine (show W2 o_X12 M_X12_fact (inN [64, 100, 101, 102, 103]) (d + 2) Q 108 [some (mR 69), some (mI kd), some (mI b), some (mI f), some (mI dy)] [] (gs (gs (gs (gs (gs G 100 (Int.toNat (G 64 51)) kd) 101 (Int.toNat (G 64 51)) b) 102 (Int.toNat (G 64 51)) f) 103 (Int.toNat (G 64 51)) dy) 64 51 (w32 ((G 64 51) + 1))) from ?_)
                  refine w2_vc [67, 77, 87, 98, 108] 400 oo_X12 q_X12_fact ?_
                  exact h
                · rw [if_neg (Int.not_le.mpr c13)] at h
                  exact h
def g_X12_isLost_3 (G : mG) (b : Int) (f : Int) (n : Int) : Nat → Unit → (Unit ⊕ (Int)) := fun j1 s1 => (if ¬ (G 100 (Int.toNat ((j1 : Nat) : Int))) = 4 then (Sum.inl ()) else (if ¬ (G 101 (Int.toNat ((j1 : Nat) : Int))) = b then (Sum.inl ()) else (if f < (G 102 (Int.toNat ((j1 : Nat) : Int))) then (Sum.inl ()) else (Sum.inr 1))))
def f_X12_isLost (G : mG) (b : Int) (f : Int) (n : Int) : Int := (fnl (fe (g_X12_isLost_3 G b f n) () (Int.toNat n)) (fun s1 => 0))
theorem sp_X12_isLost {D : Nat → Bool} {d : Nat} {G : mG} {b : Int} {f : Int} {n : Int} {Q : Option mV → mG → Prop} (hk : 0 ≤ n ∧ n ≤ 300) (h : Q (some (mI (f_X12_isLost G b f n))) G) : P2 D (d + 1) M_X12_isLost [mR 69, mI b, mI f, mI n] G Q := by
  unfold f_X12_isLost at h
  refine p2_vc [3] 400 oo_X12 q_X12_isLost (by decide) rfl (Nat.le_of_ble_eq_true rfl) ?_
  refine (show W2 o_X12 M_X12_isLost D (d + 1) Q 3 [some (mR 69), some (mI b), some (mI f), some (mI n), some (mI ((0 : Nat) : Int))] [] G from ?_)
  refine lupF (g_X12_isLost_3 G b f n) () (fun j1 s1 => W2 o_X12 M_X12_isLost D (d + 1) Q 3 [some (mR 69), some (mI b), some (mI f), some (mI n), some (mI ((j1 : Nat) : Int))] [] G) (fun r => Q (some (mI r)) G) (fun _ _ => True) (Int.toNat n) ⟨trivial, fun _ _ _ _ _ _ => trivial⟩ (fun j1 s1 hj1 hI1 ih1 => ?_) ?_
  · have ih1 : sk (fun z => W2 o_X12 M_X12_isLost D (d + 1) Q 3 [some (mR 69), some (mI b), some (mI f), some (mI n), some (mI ((j1 + 1 : Nat) : Int))] [] G) (fun r => Q (some (mI r)) G) (g_X12_isLost_3 G b f n j1 s1) := ih1
    unfold g_X12_isLost_3 at ih1
    refine w2_vc [3] 400 oo_X12 q_X12_isLost ?_
    refine ⟨fun (c1 : n ≤ ((j1 : Nat) : Int)) => ?_, fun (c1 : ((j1 : Nat) : Int) < n) => ?_⟩
    · skip
      exfalso; first | omega | (rw [w32_i (by omega) (by omega)] at c1; omega) | (simp (disch := omega) only [w32_i] at *; omega)
    · skip
      refine ⟨(show 0 ≤ ((j1 : Nat) : Int) ∧ ((j1 : Nat) : Int) < ((300 : Nat) : Int) from by first | omega | (simp (disch := omega) only [w32_i]; omega)), ?_⟩
      refine ⟨fun (c2 : ¬ (G 100 (Int.toNat ((j1 : Nat) : Int))) = 4) => ?_, fun (c2 : (G 100 (Int.toNat ((j1 : Nat) : Int))) = 4) => ?_⟩
      · rw [if_pos c2] at ih1
        refine (show W2 o_X12 M_X12_isLost D (d + 1) Q 3 [some (mR 69), some (mI b), some (mI f), some (mI n), some (mI (w32 (((j1 : Nat) : Int) + 1)))] [] G from ?_)
        rw [w32_nat (by omega)]
        exact ih1
      · rw [if_neg (fun q => q c2)] at ih1
        refine ⟨(show 0 ≤ ((j1 : Nat) : Int) ∧ ((j1 : Nat) : Int) < ((300 : Nat) : Int) from by first | omega | (simp (disch := omega) only [w32_i]; omega)), ?_⟩
        refine ⟨fun (c3 : ¬ (G 101 (Int.toNat ((j1 : Nat) : Int))) = b) => ?_, fun (c3 : (G 101 (Int.toNat ((j1 : Nat) : Int))) = b) => ?_⟩
        · rw [if_pos c3] at ih1
          refine (show W2 o_X12 M_X12_isLost D (d + 1) Q 3 [some (mR 69), some (mI b), some (mI f), some (mI n), some (mI (w32 (((j1 : Nat) : Int) + 1)))] [] G from ?_)
          rw [w32_nat (by omega)]
          exact ih1
        · rw [if_neg (fun q => q c3)] at ih1
          refine ⟨(show 0 ≤ ((j1 : Nat) : Int) ∧ ((j1 : Nat) : Int) < ((300 : Nat) : Int) from by first | omega | (simp (disch := omega) only [w32_i]; omega)), ?_⟩
          refine ⟨fun (c4 : f < (G 102 (Int.toNat ((j1 : Nat) : Int)))) => ?_, fun (c4 : (G 102 (Int.toNat ((j1 : Nat) : Int))) ≤ f) => ?_⟩
          · rw [if_pos c4] at ih1
            refine (show W2 o_X12 M_X12_isLost D (d + 1) Q 3 [some (mR 69), some (mI b), some (mI f), some (mI n), some (mI (w32 (((j1 : Nat) : Int) + 1)))] [] G from ?_)
            rw [w32_nat (by omega)]
            exact ih1
          · rw [if_neg (Int.not_lt.mpr c4)] at ih1
            exact ⟨by omega, ih1⟩
  · intro hI1
    generalize (fe (g_X12_isLost_3 G b f n) () (Int.toNat n)) = z at h hI1 ⊢
    cases z with
    | inr r => exact h
    | inl s1 =>
      have h : Q (some (mI 0)) G := h
      refine (show W2 o_X12 M_X12_isLost D (d + 1) Q 3 [some (mR 69), some (mI b), some (mI f), some (mI n), some (mI (((Int.toNat n) : Nat) : Int))] [] G from ?_)
      refine w2_vc [3] 400 oo_X12 q_X12_isLost ?_
      refine ⟨fun (c5 : n ≤ (((Int.toNat n) : Nat) : Int)) => ?_, fun (c5 : (((Int.toNat n) : Nat) : Int) < n) => ?_⟩
      · skip
        exact ⟨by omega, h⟩
      · skip
        exfalso; first | omega | (rw [w32_i (by omega) (by omega)] at c5; omega) | (simp (disch := omega) only [w32_i] at *; omega)
def g_X12_shownOn_9 (G : mG) (b : Int) (f : Int) (dy : Int) (n : Int) : Nat → (Int × Int) → (Int × Int) := fun j1 s1 => (if (G 100 (Int.toNat ((j1 : Nat) : Int))) = 4 then (s1.1, s1.2) else (if ¬ (G 101 (Int.toNat ((j1 : Nat) : Int))) = b then (s1.1, s1.2) else (if ¬ (G 102 (Int.toNat ((j1 : Nat) : Int))) = f then (s1.1, s1.2) else (if (G 103 (Int.toNat ((j1 : Nat) : Int))) ≤ dy then (if ¬ (G 100 (Int.toNat ((j1 : Nat) : Int))) = 0 then (if s1.1 = (-1) then (((j1 : Nat) : Int), s1.2) else (if (G 103 (Int.toNat ((j1 : Nat) : Int))) < (G 103 (Int.toNat s1.1)) then (s1.1, s1.2) else (((j1 : Nat) : Int), s1.2))) else (s1.1, 1)) else (s1.1, s1.2)))))
def f_X12_shownOn (G : mG) (b : Int) (f : Int) (dy : Int) (n : Int) : Int := (if ¬ (fd (g_X12_shownOn_9 G b f dy n) ((-1), 0) (Int.toNat n)).1 = (-1) then (if ¬ (G 100 (Int.toNat (fd (g_X12_shownOn_9 G b f dy n) ((-1), 0) (Int.toNat n)).1)) = 1 then 0 else 1) else (if (fd (g_X12_shownOn_9 G b f dy n) ((-1), 0) (Int.toNat n)).2 = 0 then 0 else 2))
set_option maxHeartbeats 8000000 in
theorem sp_X12_shownOn {D : Nat → Bool} {d : Nat} {G : mG} {b : Int} {f : Int} {dy : Int} {n : Int} {Q : Option mV → mG → Prop} (hk : 0 ≤ n ∧ n ≤ 300) (h : Q (some (mI (f_X12_shownOn G b f dy n))) G) : P2 D (d + 1) M_X12_shownOn [mR 69, mI b, mI f, mI dy, mI n] G Q := by
  unfold f_X12_shownOn at h
  refine p2_vc [9] 400 oo_X12 q_X12_shownOn (by decide) rfl (Nat.le_of_ble_eq_true rfl) ?_
  refine (show W2 o_X12 M_X12_shownOn D (d + 1) Q 9 [some (mR 69), some (mI b), some (mI f), some (mI dy), some (mI n), some (mI (-1)), some (mI 0), some (mI ((0 : Nat) : Int))] [] G from ?_)
  refine lupI (g_X12_shownOn_9 G b f dy n) ((-1), 0) (fun j1 s1 => W2 o_X12 M_X12_shownOn D (d + 1) Q 9 [some (mR 69), some (mI b), some (mI f), some (mI dy), some (mI n), some (mI s1.1), some (mI s1.2), some (mI ((j1 : Nat) : Int))] [] G) (fun j s => s.1 = -1 ∨ (0 ≤ s.1 ∧ s.1 < ((j : Nat) : Int))) (Int.toNat n) ⟨Or.inl rfl, fun j s hj hI => by unfold g_X12_shownOn_9; repeat' split
                  all_goals first | omega | (simp only []; omega)⟩ (fun j1 s1 hj1 hI1 ih1 => ?_) (fun hI1 => ?_)
  · have ih1 : W2 o_X12 M_X12_shownOn D (d + 1) Q 9 [some (mR 69), some (mI b), some (mI f), some (mI dy), some (mI n), some (mI (g_X12_shownOn_9 G b f dy n j1 s1).1), some (mI (g_X12_shownOn_9 G b f dy n j1 s1).2), some (mI ((j1 + 1 : Nat) : Int))] [] G := ih1
    unfold g_X12_shownOn_9 at ih1
    have hI1 := hI1
    refine w2_vc [9] 400 oo_X12 q_X12_shownOn ?_
    refine ⟨fun (c1 : n ≤ ((j1 : Nat) : Int)) => ?_, fun (c1 : ((j1 : Nat) : Int) < n) => ?_⟩
    · skip
      exfalso; first | omega | (rw [w32_i (by omega) (by omega)] at c1; omega) | (simp (disch := omega) only [w32_i] at *; omega)
    · skip
      refine ⟨(show 0 ≤ ((j1 : Nat) : Int) ∧ ((j1 : Nat) : Int) < ((300 : Nat) : Int) from by first | omega | (simp (disch := omega) only [w32_i]; omega)), ?_⟩
      refine ⟨fun (c2 : (G 100 (Int.toNat ((j1 : Nat) : Int))) = 4) => ?_, fun (c2 : ¬ (G 100 (Int.toNat ((j1 : Nat) : Int))) = 4) => ?_⟩
      · rw [if_pos c2] at ih1
        refine (show W2 o_X12 M_X12_shownOn D (d + 1) Q 9 [some (mR 69), some (mI b), some (mI f), some (mI dy), some (mI n), some (mI s1.1), some (mI s1.2), some (mI (w32 (((j1 : Nat) : Int) + 1)))] [] G from ?_)
        rw [w32_nat (by omega)]
        exact ih1
      · rw [if_neg (c2)] at ih1
        refine ⟨(show 0 ≤ ((j1 : Nat) : Int) ∧ ((j1 : Nat) : Int) < ((300 : Nat) : Int) from by first | omega | (simp (disch := omega) only [w32_i]; omega)), ?_⟩
        refine ⟨fun (c3 : ¬ (G 101 (Int.toNat ((j1 : Nat) : Int))) = b) => ?_, fun (c3 : (G 101 (Int.toNat ((j1 : Nat) : Int))) = b) => ?_⟩
        · rw [if_pos c3] at ih1
          refine (show W2 o_X12 M_X12_shownOn D (d + 1) Q 9 [some (mR 69), some (mI b), some (mI f), some (mI dy), some (mI n), some (mI s1.1), some (mI s1.2), some (mI (w32 (((j1 : Nat) : Int) + 1)))] [] G from ?_)
          rw [w32_nat (by omega)]
          exact ih1
        · rw [if_neg (fun q => q c3)] at ih1
          refine ⟨(show 0 ≤ ((j1 : Nat) : Int) ∧ ((j1 : Nat) : Int) < ((300 : Nat) : Int) from by first | omega | (simp (disch := omega) only [w32_i]; omega)), ?_⟩
          refine ⟨fun (c4 : ¬ (G 102 (Int.toNat ((j1 : Nat) : Int))) = f) => ?_, fun (c4 : (G 102 (Int.toNat ((j1 : Nat) : Int))) = f) => ?_⟩
          · rw [if_pos c4] at ih1
            refine (show W2 o_X12 M_X12_shownOn D (d + 1) Q 9 [some (mR 69), some (mI b), some (mI f), some (mI dy), some (mI n), some (mI s1.1), some (mI s1.2), some (mI (w32 (((j1 : Nat) : Int) + 1)))] [] G from ?_)
            rw [w32_nat (by omega)]
            exact ih1
          · rw [if_neg (fun q => q c4)] at ih1
            refine ⟨(show 0 ≤ ((j1 : Nat) : Int) ∧ ((j1 : Nat) : Int) < ((300 : Nat) : Int) from by first | omega | (simp (disch := omega) only [w32_i]; omega)), ?_⟩
            refine ⟨fun (c5 : (G 103 (Int.toNat ((j1 : Nat) : Int))) ≤ dy) => ?_, fun (c5 : dy < (G 103 (Int.toNat ((j1 : Nat) : Int)))) => ?_⟩
            · rw [if_pos c5] at ih1
              refine ⟨(show 0 ≤ ((j1 : Nat) : Int) ∧ ((j1 : Nat) : Int) < ((300 : Nat) : Int) from by first | omega | (simp (disch := omega) only [w32_i]; omega)), ?_⟩
              refine ⟨fun (c6 : ¬ (G 100 (Int.toNat ((j1 : Nat) : Int))) = 0) => ?_, fun (c6 : (G 100 (Int.toNat ((j1 : Nat) : Int))) = 0) => ?_⟩
              · rw [if_pos c6] at ih1
                refine ⟨fun (c7 : s1.1 = (-1)) => ?_, fun (c7 : ¬ s1.1 = (-1)) => ?_⟩
                · rw [if_pos c7] at ih1
                  refine (show W2 o_X12 M_X12_shownOn D (d + 1) Q 9 [some (mR 69), some (mI b), some (mI f), some (mI dy), some (mI n), some (mI ((j1 : Nat) : Int)), some (mI s1.2), some (mI (w32 (((j1 : Nat) : Int) + 1)))] [] G from ?_)
                  rw [w32_nat (by omega)]
                  exact ih1
                · rw [if_neg (c7)] at ih1
                  refine ⟨(show 0 ≤ ((j1 : Nat) : Int) ∧ ((j1 : Nat) : Int) < ((300 : Nat) : Int) from by first | omega | (simp (disch := omega) only [w32_i]; omega)), ?_⟩
                  refine ⟨(show 0 ≤ s1.1 ∧ s1.1 < ((300 : Nat) : Int) from by first | omega | (simp (disch := omega) only [w32_i]; omega)), ?_⟩
                  refine ⟨fun (c8 : (G 103 (Int.toNat ((j1 : Nat) : Int))) < (G 103 (Int.toNat s1.1))) => ?_, fun (c8 : (G 103 (Int.toNat s1.1)) ≤ (G 103 (Int.toNat ((j1 : Nat) : Int)))) => ?_⟩
                  · rw [if_pos c8] at ih1
                    refine (show W2 o_X12 M_X12_shownOn D (d + 1) Q 9 [some (mR 69), some (mI b), some (mI f), some (mI dy), some (mI n), some (mI s1.1), some (mI s1.2), some (mI (w32 (((j1 : Nat) : Int) + 1)))] [] G from ?_)
                    rw [w32_nat (by omega)]
                    exact ih1
                  · rw [if_neg (Int.not_lt.mpr c8)] at ih1
                    refine (show W2 o_X12 M_X12_shownOn D (d + 1) Q 9 [some (mR 69), some (mI b), some (mI f), some (mI dy), some (mI n), some (mI ((j1 : Nat) : Int)), some (mI s1.2), some (mI (w32 (((j1 : Nat) : Int) + 1)))] [] G from ?_)
                    rw [w32_nat (by omega)]
                    exact ih1
              · rw [if_neg (fun q => q c6)] at ih1
                refine (show W2 o_X12 M_X12_shownOn D (d + 1) Q 9 [some (mR 69), some (mI b), some (mI f), some (mI dy), some (mI n), some (mI s1.1), some (mI 1), some (mI (w32 (((j1 : Nat) : Int) + 1)))] [] G from ?_)
                rw [w32_nat (by omega)]
                exact ih1
            · rw [if_neg (Int.not_le.mpr c5)] at ih1
              refine (show W2 o_X12 M_X12_shownOn D (d + 1) Q 9 [some (mR 69), some (mI b), some (mI f), some (mI dy), some (mI n), some (mI s1.1), some (mI s1.2), some (mI (w32 (((j1 : Nat) : Int) + 1)))] [] G from ?_)
              rw [w32_nat (by omega)]
              exact ih1
  · skip
    refine (show W2 o_X12 M_X12_shownOn D (d + 1) Q 9 [some (mR 69), some (mI b), some (mI f), some (mI dy), some (mI n), some (mI (fd (g_X12_shownOn_9 G b f dy n) ((-1), 0) (Int.toNat n)).1), some (mI (fd (g_X12_shownOn_9 G b f dy n) ((-1), 0) (Int.toNat n)).2), some (mI (((Int.toNat n) : Nat) : Int))] [] G from ?_)
    have hI1 := hI1
    refine w2_vc [9] 400 oo_X12 q_X12_shownOn ?_
    refine ⟨fun (c9 : n ≤ (((Int.toNat n) : Nat) : Int)) => ?_, fun (c9 : (((Int.toNat n) : Nat) : Int) < n) => ?_⟩
    · skip
      refine ⟨fun (c10 : ¬ (fd (g_X12_shownOn_9 G b f dy n) ((-1), 0) (Int.toNat n)).1 = (-1)) => ?_, fun (c10 : (fd (g_X12_shownOn_9 G b f dy n) ((-1), 0) (Int.toNat n)).1 = (-1)) => ?_⟩
      · rw [if_pos c10] at h
        refine ⟨(show 0 ≤ (fd (g_X12_shownOn_9 G b f dy n) ((-1), 0) (Int.toNat n)).1 ∧ (fd (g_X12_shownOn_9 G b f dy n) ((-1), 0) (Int.toNat n)).1 < ((300 : Nat) : Int) from by first | omega | (simp (disch := omega) only [w32_i]; omega)), ?_⟩
        refine ⟨fun (c11 : ¬ (G 100 (Int.toNat (fd (g_X12_shownOn_9 G b f dy n) ((-1), 0) (Int.toNat n)).1)) = 1) => ?_, fun (c11 : (G 100 (Int.toNat (fd (g_X12_shownOn_9 G b f dy n) ((-1), 0) (Int.toNat n)).1)) = 1) => ?_⟩
        · rw [if_pos c11] at h
          exact h
        · rw [if_neg (fun q => q c11)] at h
          exact h
      · rw [if_neg (fun q => q c10)] at h
        refine ⟨fun (c12 : (fd (g_X12_shownOn_9 G b f dy n) ((-1), 0) (Int.toNat n)).2 = 0) => ?_, fun (c12 : ¬ (fd (g_X12_shownOn_9 G b f dy n) ((-1), 0) (Int.toNat n)).2 = 0) => ?_⟩
        · rw [if_pos c12] at h
          exact h
        · rw [if_neg (c12)] at h
          exact h
    · skip
      exfalso; first | omega | (rw [w32_i (by omega) (by omega)] at c12; omega) | (simp (disch := omega) only [w32_i] at *; omega)
def g_X12_days_6 (G : mG) (b : Int) (f : Int) (n : Int) (y : Int) : Nat → Int → Int := fun j1 s1 => (if ¬ (f_X12_shownOn G b f ((j1 : Nat) : Int) n) = y then s1 else (w32 (s1 + 1)))
def f_X12_days (G : mG) (b : Int) (f : Int) (n : Int) (y : Int) : Int := (fd (g_X12_days_6 G b f n y) 0 14)
theorem sp_X12_days {D : Nat → Bool} {d : Nat} {G : mG} {b : Int} {f : Int} {n : Int} {y : Int} {Q : Option mV → mG → Prop} (hk : 0 ≤ n ∧ n ≤ 300) (h : Q (some (mI (f_X12_days G b f n y))) G) : P2 D (d + 2) M_X12_days [mR 69, mI b, mI f, mI n, mI y] G Q := by
  unfold f_X12_days at h
  refine p2_vc [6] 400 oo_X12 q_X12_days (by decide) rfl (Nat.le_of_ble_eq_true rfl) ?_
  refine (show W2 o_X12 M_X12_days D (d + 2) Q 6 [some (mR 69), some (mI b), some (mI f), some (mI n), some (mI y), some (mI 0), some (mI ((0 : Nat) : Int))] [] G from ?_)
  refine lup (g_X12_days_6 G b f n y) 0 (fun j1 s1 => W2 o_X12 M_X12_days D (d + 2) Q 6 [some (mR 69), some (mI b), some (mI f), some (mI n), some (mI y), some (mI s1), some (mI ((j1 : Nat) : Int))] [] G) 14 (fun j1 s1 hj1 ih1 => ?_) ?_
  · have ih1 : W2 o_X12 M_X12_days D (d + 2) Q 6 [some (mR 69), some (mI b), some (mI f), some (mI n), some (mI y), some (mI (g_X12_days_6 G b f n y j1 s1)), some (mI ((j1 + 1 : Nat) : Int))] [] G := ih1
    unfold g_X12_days_6 at ih1
    refine w2_vc [6] 400 oo_X12 q_X12_days ?_
    refine ⟨fun (c1 : 14 ≤ ((j1 : Nat) : Int)) => ?_, fun (c1 : ((j1 : Nat) : Int) < 14) => ?_⟩
    · skip
      exfalso; first | omega | (rw [w32_i (by omega) (by omega)] at c1; omega) | (simp (disch := omega) only [w32_i] at *; omega)
    · skip
      refine sp_X12_shownOn (by omega) ?_
      refine ⟨fun (c3 : ¬ (f_X12_shownOn G b f ((j1 : Nat) : Int) n) = y) => ?_, fun (c3 : (f_X12_shownOn G b f ((j1 : Nat) : Int) n) = y) => ?_⟩
      · rw [if_pos c3] at ih1
        refine (show W2 o_X12 M_X12_days D (d + 2) Q 6 [some (mR 69), some (mI b), some (mI f), some (mI n), some (mI y), some (mI s1), some (mI (w32 (((j1 : Nat) : Int) + 1)))] [] G from ?_)
        rw [w32_nat (by omega)]
        exact ih1
      · rw [if_neg (fun q => q c3)] at ih1
        refine (show W2 o_X12 M_X12_days D (d + 2) Q 6 [some (mR 69), some (mI b), some (mI f), some (mI n), some (mI y), some (mI (w32 (s1 + 1))), some (mI (w32 (((j1 : Nat) : Int) + 1)))] [] G from ?_)
        rw [w32_nat (by omega)]
        exact ih1
  · skip
    refine (show W2 o_X12 M_X12_days D (d + 2) Q 6 [some (mR 69), some (mI b), some (mI f), some (mI n), some (mI y), some (mI (fd (g_X12_days_6 G b f n y) 0 14)), some (mI ((14 : Nat) : Int))] [] G from ?_)
    refine w2_vc [6] 400 oo_X12 q_X12_days ?_
    refine ⟨fun (c4 : 14 ≤ ((14 : Nat) : Int)) => ?_, fun (c4 : ((14 : Nat) : Int) < 14) => ?_⟩
    · skip
      exact h
    · skip
      exfalso; first | omega | (rw [w32_i (by omega) (by omega)] at c4; omega) | (simp (disch := omega) only [w32_i] at *; omega)
