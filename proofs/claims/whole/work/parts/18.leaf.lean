/-! ===== printed by wip/whole/gen18.py: answers of loop-free methods ===== -/
def f_X0_isDistrict (G : mG) (x : Int) : Int := (if x < 0 then 0 else (if 6 ≤ x then 0 else 1))
theorem sp_X0_isDistrict {D : Nat → Bool} {d : Nat} {G : mG} {x : Int} {Q : Option mV → mG → Prop} (h : Q (some (mI (f_X0_isDistrict G x))) G) : P2 D (d + 1) M_X0_isDistrict [mI x] G Q := by
  unfold f_X0_isDistrict at h
  refine p2_vc [] 200 oo_X0 q_X0_isDistrict (by decide) rfl (Nat.le_of_ble_eq_true rfl) ?_
  refine ⟨fun (c1 : x < 0) => ?_, fun (c1 : 0 ≤ x) => ?_⟩
  · rw [if_pos c1] at h
    exact ⟨by omega, h⟩
  · rw [if_neg (by omega)] at h
    refine ⟨fun (c2 : 6 ≤ x) => ?_, fun (c2 : x < 6) => ?_⟩
    · rw [if_pos c2] at h
      exact ⟨by omega, h⟩
    · rw [if_neg (by omega)] at h
      exact ⟨by omega, h⟩
def f_X0_isWithin (G : mG) (x : Int) (y : Int) (z : Int) : Int := (if x < y then 0 else (if z < x then 0 else 1))
theorem sp_X0_isWithin {D : Nat → Bool} {d : Nat} {G : mG} {x : Int} {y : Int} {z : Int} {Q : Option mV → mG → Prop} (h : Q (some (mI (f_X0_isWithin G x y z))) G) : P2 D (d + 1) M_X0_isWithin [mI x, mI y, mI z] G Q := by
  unfold f_X0_isWithin at h
  refine p2_vc [] 200 oo_X0 q_X0_isWithin (by decide) rfl (Nat.le_of_ble_eq_true rfl) ?_
  refine ⟨fun (c1 : x < y) => ?_, fun (c1 : y ≤ x) => ?_⟩
  · rw [if_pos c1] at h
    exact ⟨by omega, h⟩
  · rw [if_neg (by omega)] at h
    refine ⟨fun (c2 : z < x) => ?_, fun (c2 : x ≤ z) => ?_⟩
    · rw [if_pos c2] at h
      exact ⟨by omega, h⟩
    · rw [if_neg (by omega)] at h
      exact ⟨by omega, h⟩
theorem fa_X0_isDistrict (G : mG) (x : Int) : (f_X0_isDistrict G x = 1 ∧ 0 ≤ x ∧ x < 6) ∨ (f_X0_isDistrict G x = 0 ∧ ¬ (0 ≤ x ∧ x < 6)) := by
  unfold f_X0_isDistrict
  repeat' split
  all_goals omega
theorem fa_X0_isWithin (G : mG) (x y z : Int) : (f_X0_isWithin G x y z = 1 ∧ y ≤ x ∧ x ≤ z) ∨ (f_X0_isWithin G x y z = 0 ∧ ¬ (y ≤ x ∧ x ≤ z)) := by
  unfold f_X0_isWithin
  repeat' split
  all_goals omega
def f_X0_size (G : mG) : Int := (G 1 6)
theorem sp_X0_size {D : Nat → Bool} {d : Nat} {G : mG} {Q : Option mV → mG → Prop} (h : Q (some (mI (f_X0_size G ))) G) : P2 D (d + 1) M_X0_size [mR 6] G Q := by
  unfold f_X0_size at h
  refine p2_vc [] 200 oo_X0 q_X0_size (by decide) rfl (Nat.le_of_ble_eq_true rfl) ?_
  exact h
def f_X0_has (G : mG) (b : Int) : Int := (if b < 0 then 0 else (if (G 1 6) ≤ b then 0 else (if 9 ≤ b then 0 else 1)))
theorem sp_X0_has {D : Nat → Bool} {d : Nat} {G : mG} {b : Int} {Q : Option mV → mG → Prop} (h : Q (some (mI (f_X0_has G b))) G) : P2 D (d + 1) M_X0_has [mR 6, mI b] G Q := by
  unfold f_X0_has at h
  refine p2_vc [] 200 oo_X0 q_X0_has (by decide) rfl (Nat.le_of_ble_eq_true rfl) ?_
  refine ⟨fun (c1 : b < 0) => ?_, fun (c1 : 0 ≤ b) => ?_⟩
  · rw [if_pos c1] at h
    exact ⟨by omega, h⟩
  · rw [if_neg (by omega)] at h
    refine ⟨fun (c2 : (G 1 6) ≤ b) => ?_, fun (c2 : b < (G 1 6)) => ?_⟩
    · rw [if_pos c2] at h
      exact ⟨by omega, h⟩
    · rw [if_neg (by omega)] at h
      refine ⟨fun (c3 : 9 ≤ b) => ?_, fun (c3 : b < 9) => ?_⟩
      · rw [if_pos c3] at h
        exact ⟨by omega, h⟩
      · rw [if_neg (by omega)] at h
        exact ⟨by omega, h⟩
theorem fa_X0_has (G : mG) (b : Int) : (f_X0_has G b = 1 ∧ 0 ≤ b ∧ b < G 1 6 ∧ b < 9) ∨ (f_X0_has G b = 0 ∧ ¬ (0 ≤ b ∧ b < G 1 6 ∧ b < 9)) := by
  unfold f_X0_has
  repeat' split
  all_goals omega
def f_X0_districtOf (G : mG) (b : Int) : Int := (if (f_X0_has G b) = 0 then (-1) else (G 2 (Int.toNat b)))
theorem sp_X0_districtOf {D : Nat → Bool} {d : Nat} {G : mG} {b : Int} {Q : Option mV → mG → Prop} (h : Q (some (mI (f_X0_districtOf G b))) G) : P2 D (d + 2) M_X0_districtOf [mR 6, mI b] G Q := by
  unfold f_X0_districtOf at h
  refine p2_vc [] 200 oo_X0 q_X0_districtOf (by decide) rfl (Nat.le_of_ble_eq_true rfl) ?_
  refine sp_X0_has ?_
  have c1 := fa_X0_has G b
  refine ⟨fun (c2 : (f_X0_has G b) = 0) => ?_, fun (c2 : ¬ (f_X0_has G b) = 0) => ?_⟩
  · rw [if_pos c2] at h
    exact h
  · rw [if_neg (by omega)] at h
    refine ⟨(show 0 ≤ b ∧ b < ((9 : Nat) : Int) from by first | omega | (simp (disch := omega) only [w32_i]; omega)), ?_⟩
    exact h
def f_X0_qualityOf (G : mG) (b : Int) : Int := (if (f_X0_has G b) = 0 then 0 else (G 3 (Int.toNat b)))
theorem sp_X0_qualityOf {D : Nat → Bool} {d : Nat} {G : mG} {b : Int} {Q : Option mV → mG → Prop} (h : Q (some (mI (f_X0_qualityOf G b))) G) : P2 D (d + 2) M_X0_qualityOf [mR 6, mI b] G Q := by
  unfold f_X0_qualityOf at h
  refine p2_vc [] 200 oo_X0 q_X0_qualityOf (by decide) rfl (Nat.le_of_ble_eq_true rfl) ?_
  refine sp_X0_has ?_
  have c1 := fa_X0_has G b
  refine ⟨fun (c2 : (f_X0_has G b) = 0) => ?_, fun (c2 : ¬ (f_X0_has G b) = 0) => ?_⟩
  · rw [if_pos c2] at h
    exact h
  · rw [if_neg (by omega)] at h
    refine ⟨(show 0 ≤ b ∧ b < ((9 : Nat) : Int) from by first | omega | (simp (disch := omega) only [w32_i]; omega)), ?_⟩
    exact h
def f_X0_audienceOf (G : mG) (b : Int) : Int := (if (f_X0_has G b) = 0 then 0 else (G 4 (Int.toNat b)))
theorem sp_X0_audienceOf {D : Nat → Bool} {d : Nat} {G : mG} {b : Int} {Q : Option mV → mG → Prop} (h : Q (some (mI (f_X0_audienceOf G b))) G) : P2 D (d + 2) M_X0_audienceOf [mR 6, mI b] G Q := by
  unfold f_X0_audienceOf at h
  refine p2_vc [] 200 oo_X0 q_X0_audienceOf (by decide) rfl (Nat.le_of_ble_eq_true rfl) ?_
  refine sp_X0_has ?_
  have c1 := fa_X0_has G b
  refine ⟨fun (c2 : (f_X0_has G b) = 0) => ?_, fun (c2 : ¬ (f_X0_has G b) = 0) => ?_⟩
  · rw [if_pos c2] at h
    exact h
  · rw [if_neg (by omega)] at h
    refine ⟨(show 0 ≤ b ∧ b < ((9 : Nat) : Int) from by first | omega | (simp (disch := omega) only [w32_i]; omega)), ?_⟩
    exact h
def f_X0_marksOf (G : mG) (b : Int) : Int := (if (f_X0_has G b) = 0 then 0 else (G 5 (Int.toNat b)))
theorem sp_X0_marksOf {D : Nat → Bool} {d : Nat} {G : mG} {b : Int} {Q : Option mV → mG → Prop} (h : Q (some (mI (f_X0_marksOf G b))) G) : P2 D (d + 2) M_X0_marksOf [mR 6, mI b] G Q := by
  unfold f_X0_marksOf at h
  refine p2_vc [] 200 oo_X0 q_X0_marksOf (by decide) rfl (Nat.le_of_ble_eq_true rfl) ?_
  refine sp_X0_has ?_
  have c1 := fa_X0_has G b
  refine ⟨fun (c2 : (f_X0_has G b) = 0) => ?_, fun (c2 : ¬ (f_X0_has G b) = 0) => ?_⟩
  · rw [if_pos c2] at h
    exact h
  · rw [if_neg (by omega)] at h
    refine ⟨(show 0 ≤ b ∧ b < ((9 : Nat) : Int) from by first | omega | (simp (disch := omega) only [w32_i]; omega)), ?_⟩
    exact h
def f_X0_isBesideOneAhead (G : mG) (b : Int) : Int := (if (f_X0_has G b) = 0 then 0 else (if (G 6 (Int.toNat b)) = 0 then 0 else 1))
theorem sp_X0_isBesideOneAhead {D : Nat → Bool} {d : Nat} {G : mG} {b : Int} {Q : Option mV → mG → Prop} (h : Q (some (mI (f_X0_isBesideOneAhead G b))) G) : P2 D (d + 2) M_X0_isBesideOneAhead [mR 6, mI b] G Q := by
  unfold f_X0_isBesideOneAhead at h
  refine p2_vc [] 200 oo_X0 q_X0_isBesideOneAhead (by decide) rfl (Nat.le_of_ble_eq_true rfl) ?_
  refine sp_X0_has ?_
  have c1 := fa_X0_has G b
  refine ⟨fun (c2 : (f_X0_has G b) = 0) => ?_, fun (c2 : ¬ (f_X0_has G b) = 0) => ?_⟩
  · rw [if_pos c2] at h
    exact ⟨by omega, h⟩
  · rw [if_neg (by omega)] at h
    refine ⟨(show 0 ≤ b ∧ b < ((9 : Nat) : Int) from by first | omega | (simp (disch := omega) only [w32_i]; omega)), ?_⟩
    refine ⟨fun (c3 : (G 6 (Int.toNat b)) = 0) => ?_, fun (c3 : ¬ (G 6 (Int.toNat b)) = 0) => ?_⟩
    · rw [if_pos c3] at h
      exact ⟨by omega, h⟩
    · rw [if_neg (by omega)] at h
      exact ⟨by omega, h⟩
def f_X3_size (G : mG) : Int := (G 8 4)
theorem sp_X3_size {D : Nat → Bool} {d : Nat} {G : mG} {Q : Option mV → mG → Prop} (h : Q (some (mI (f_X3_size G ))) G) : P2 D (d + 1) M_X3_size [mR 13] G Q := by
  unfold f_X3_size at h
  refine p2_vc [] 200 oo_X3 q_X3_size (by decide) rfl (Nat.le_of_ble_eq_true rfl) ?_
  exact h
def f_X3_areKnown (G : mG) (n : Int) : Int := (if n < 0 then 0 else (if (G 8 4) < n then 0 else 1))
theorem sp_X3_areKnown {D : Nat → Bool} {d : Nat} {G : mG} {n : Int} {Q : Option mV → mG → Prop} (h : Q (some (mI (f_X3_areKnown G n))) G) : P2 D (d + 1) M_X3_areKnown [mR 13, mI n] G Q := by
  unfold f_X3_areKnown at h
  refine p2_vc [] 200 oo_X3 q_X3_areKnown (by decide) rfl (Nat.le_of_ble_eq_true rfl) ?_
  refine ⟨fun (c1 : n < 0) => ?_, fun (c1 : 0 ≤ n) => ?_⟩
  · rw [if_pos c1] at h
    exact ⟨by omega, h⟩
  · rw [if_neg (by omega)] at h
    refine ⟨fun (c2 : (G 8 4) < n) => ?_, fun (c2 : n ≤ (G 8 4)) => ?_⟩
    · rw [if_pos c2] at h
      exact ⟨by omega, h⟩
    · rw [if_neg (by omega)] at h
      exact ⟨by omega, h⟩
def f_X3_has (G : mG) (b : Int) : Int := (if b < 0 then 0 else (if (G 8 4) ≤ b then 0 else (if 300 ≤ b then 0 else 1)))
theorem sp_X3_has {D : Nat → Bool} {d : Nat} {G : mG} {b : Int} {Q : Option mV → mG → Prop} (h : Q (some (mI (f_X3_has G b))) G) : P2 D (d + 1) M_X3_has [mR 13, mI b] G Q := by
  unfold f_X3_has at h
  refine p2_vc [] 200 oo_X3 q_X3_has (by decide) rfl (Nat.le_of_ble_eq_true rfl) ?_
  refine ⟨fun (c1 : b < 0) => ?_, fun (c1 : 0 ≤ b) => ?_⟩
  · rw [if_pos c1] at h
    exact ⟨by omega, h⟩
  · rw [if_neg (by omega)] at h
    refine ⟨fun (c2 : (G 8 4) ≤ b) => ?_, fun (c2 : b < (G 8 4)) => ?_⟩
    · rw [if_pos c2] at h
      exact ⟨by omega, h⟩
    · rw [if_neg (by omega)] at h
      refine ⟨fun (c3 : 300 ≤ b) => ?_, fun (c3 : b < 300) => ?_⟩
      · rw [if_pos c3] at h
        exact ⟨by omega, h⟩
      · rw [if_neg (by omega)] at h
        exact ⟨by omega, h⟩
theorem fa_X3_has (G : mG) (b : Int) : (f_X3_has G b = 1 ∧ 0 ≤ b ∧ b < G 8 4 ∧ b < 300) ∨ (f_X3_has G b = 0 ∧ ¬ (0 ≤ b ∧ b < G 8 4 ∧ b < 300)) := by
  unfold f_X3_has
  repeat' split
  all_goals omega
def f_X3_isOf (G : mG) (b : Int) (y : Int) (z : Int) : Int := (if (f_X3_has G b) = 0 then 0 else (if ¬ (G 10 (Int.toNat b)) = y then 0 else (if ¬ (G 11 (Int.toNat b)) = z then 0 else 1)))
theorem sp_X3_isOf {D : Nat → Bool} {d : Nat} {G : mG} {b : Int} {y : Int} {z : Int} {Q : Option mV → mG → Prop} (h : Q (some (mI (f_X3_isOf G b y z))) G) : P2 D (d + 2) M_X3_isOf [mR 13, mI b, mI y, mI z] G Q := by
  unfold f_X3_isOf at h
  refine p2_vc [] 200 oo_X3 q_X3_isOf (by decide) rfl (Nat.le_of_ble_eq_true rfl) ?_
  refine sp_X3_has ?_
  have c1 := fa_X3_has G b
  refine ⟨fun (c2 : (f_X3_has G b) = 0) => ?_, fun (c2 : ¬ (f_X3_has G b) = 0) => ?_⟩
  · rw [if_pos c2] at h
    exact ⟨by omega, h⟩
  · rw [if_neg (by omega)] at h
    refine ⟨(show 0 ≤ b ∧ b < ((300 : Nat) : Int) from by first | omega | (simp (disch := omega) only [w32_i]; omega)), ?_⟩
    refine ⟨fun (c3 : ¬ (G 10 (Int.toNat b)) = y) => ?_, fun (c3 : (G 10 (Int.toNat b)) = y) => ?_⟩
    · rw [if_pos c3] at h
      exact ⟨by omega, h⟩
    · rw [if_neg (by omega)] at h
      refine ⟨(show 0 ≤ b ∧ b < ((300 : Nat) : Int) from by first | omega | (simp (disch := omega) only [w32_i]; omega)), ?_⟩
      refine ⟨fun (c4 : ¬ (G 11 (Int.toNat b)) = z) => ?_, fun (c4 : (G 11 (Int.toNat b)) = z) => ?_⟩
      · rw [if_pos c4] at h
        exact ⟨by omega, h⟩
      · rw [if_neg (by omega)] at h
        exact ⟨by omega, h⟩
def f_X3_kindOf (G : mG) (b : Int) : Int := (if (f_X3_has G b) = 0 then (-1) else (G 9 (Int.toNat b)))
theorem sp_X3_kindOf {D : Nat → Bool} {d : Nat} {G : mG} {b : Int} {Q : Option mV → mG → Prop} (h : Q (some (mI (f_X3_kindOf G b))) G) : P2 D (d + 2) M_X3_kindOf [mR 13, mI b] G Q := by
  unfold f_X3_kindOf at h
  refine p2_vc [] 200 oo_X3 q_X3_kindOf (by decide) rfl (Nat.le_of_ble_eq_true rfl) ?_
  refine sp_X3_has ?_
  have c1 := fa_X3_has G b
  refine ⟨fun (c2 : (f_X3_has G b) = 0) => ?_, fun (c2 : ¬ (f_X3_has G b) = 0) => ?_⟩
  · rw [if_pos c2] at h
    exact h
  · rw [if_neg (by omega)] at h
    refine ⟨(show 0 ≤ b ∧ b < ((300 : Nat) : Int) from by first | omega | (simp (disch := omega) only [w32_i]; omega)), ?_⟩
    exact h
def f_X3_dayOf (G : mG) (b : Int) : Int := (if (f_X3_has G b) = 0 then (-1) else (G 12 (Int.toNat b)))
theorem sp_X3_dayOf {D : Nat → Bool} {d : Nat} {G : mG} {b : Int} {Q : Option mV → mG → Prop} (h : Q (some (mI (f_X3_dayOf G b))) G) : P2 D (d + 2) M_X3_dayOf [mR 13, mI b] G Q := by
  unfold f_X3_dayOf at h
  refine p2_vc [] 200 oo_X3 q_X3_dayOf (by decide) rfl (Nat.le_of_ble_eq_true rfl) ?_
  refine sp_X3_has ?_
  have c1 := fa_X3_has G b
  refine ⟨fun (c2 : (f_X3_has G b) = 0) => ?_, fun (c2 : ¬ (f_X3_has G b) = 0) => ?_⟩
  · rw [if_pos c2] at h
    exact h
  · rw [if_neg (by omega)] at h
    refine ⟨(show 0 ≤ b ∧ b < ((300 : Nat) : Int) from by first | omega | (simp (disch := omega) only [w32_i]; omega)), ?_⟩
    exact h
def f_X11_isFortnight (G : mG) (f : Int) : Int := (if f < 0 then 0 else (if 26 ≤ f then 0 else 1))
theorem sp_X11_isFortnight {D : Nat → Bool} {d : Nat} {G : mG} {f : Int} {Q : Option mV → mG → Prop} (h : Q (some (mI (f_X11_isFortnight G f))) G) : P2 D (d + 1) M_X11_isFortnight [mI f] G Q := by
  unfold f_X11_isFortnight at h
  refine p2_vc [] 200 oo_X11 q_X11_isFortnight (by decide) rfl (Nat.le_of_ble_eq_true rfl) ?_
  refine ⟨fun (c1 : f < 0) => ?_, fun (c1 : 0 ≤ f) => ?_⟩
  · rw [if_pos c1] at h
    exact ⟨by omega, h⟩
  · rw [if_neg (by omega)] at h
    refine ⟨fun (c2 : 26 ≤ f) => ?_, fun (c2 : f < 26) => ?_⟩
    · rw [if_pos c2] at h
      exact ⟨by omega, h⟩
    · rw [if_neg (by omega)] at h
      exact ⟨by omega, h⟩
theorem fa_X11_isFortnight (G : mG) (b : Int) : (f_X11_isFortnight G b = 1 ∧ 0 ≤ b ∧ b < 26) ∨ (f_X11_isFortnight G b = 0 ∧ ¬ (0 ≤ b ∧ b < 26)) := by
  unfold f_X11_isFortnight
  repeat' split
  all_goals omega
