/-! ===== printed by wip/whole/gen22.py: contracts of the class Contracts (cell 40 or 52) ===== -/
def f_X1_campaigns (c : Nat) (G : mG) : Int := (G c 11)
theorem sp_X1_campaigns {D : Nat → Bool} {d : Nat} {c : Nat} {G : mG} {Q : Option mV → mG → Prop} (hc : c = 40 ∨ c = 52) (h : Q (some (mI (f_X1_campaigns c G ))) G) : P2 D (d + 1) M_X1_campaigns [mR (c + 5)] G Q := by
  rcases hc with rfl | rfl
  · skip
    unfold f_X1_campaigns at h
    try simp only [Nat.reduceAdd, Nat.reduceSub] at h
    refine (show P2 D (d + 1) M_X1_campaigns [mR 45] G Q from ?_)
    refine p2_vc [] 400 oo_X1 q_X1_campaigns (by decide) rfl (Nat.le_of_ble_eq_true rfl) ?_
    exact h
  · skip
    unfold f_X1_campaigns at h
    try simp only [Nat.reduceAdd, Nat.reduceSub] at h
    refine (show P2 D (d + 1) M_X1_campaigns [mR 57] G Q from ?_)
    refine p2_vc [] 400 oo_X1 q_X1_campaigns (by decide) rfl (Nat.le_of_ble_eq_true rfl) ?_
    exact h
def f_X1_clauses (c : Nat) (G : mG) : Int := (G c 12)
theorem sp_X1_clauses {D : Nat → Bool} {d : Nat} {c : Nat} {G : mG} {Q : Option mV → mG → Prop} (hc : c = 40 ∨ c = 52) (h : Q (some (mI (f_X1_clauses c G ))) G) : P2 D (d + 1) M_X1_clauses [mR (c + 5)] G Q := by
  rcases hc with rfl | rfl
  · skip
    unfold f_X1_clauses at h
    try simp only [Nat.reduceAdd, Nat.reduceSub] at h
    refine (show P2 D (d + 1) M_X1_clauses [mR 45] G Q from ?_)
    refine p2_vc [] 400 oo_X1 q_X1_clauses (by decide) rfl (Nat.le_of_ble_eq_true rfl) ?_
    exact h
  · skip
    unfold f_X1_clauses at h
    try simp only [Nat.reduceAdd, Nat.reduceSub] at h
    refine (show P2 D (d + 1) M_X1_clauses [mR 57] G Q from ?_)
    refine p2_vc [] 400 oo_X1 q_X1_clauses (by decide) rfl (Nat.le_of_ble_eq_true rfl) ?_
    exact h
def f_X1_hasCampaign (c : Nat) (G : mG) (x : Int) : Int := (if x < 0 then 0 else (if (G c 11) ≤ x then 0 else (if 8 ≤ x then 0 else 1)))
theorem sp_X1_hasCampaign {D : Nat → Bool} {d : Nat} {c : Nat} {G : mG} {x : Int} {Q : Option mV → mG → Prop} (hc : c = 40 ∨ c = 52) (h : Q (some (mI (f_X1_hasCampaign c G x))) G) : P2 D (d + 1) M_X1_hasCampaign [mR (c + 5), mI x] G Q := by
  rcases hc with rfl | rfl
  · skip
    unfold f_X1_hasCampaign at h
    try simp only [Nat.reduceAdd, Nat.reduceSub] at h
    refine (show P2 D (d + 1) M_X1_hasCampaign [mR 45, mI x] G Q from ?_)
    refine p2_vc [] 400 oo_X1 q_X1_hasCampaign (by decide) rfl (Nat.le_of_ble_eq_true rfl) ?_
    refine ⟨fun (c1 : x < 0) => ?_, fun (c1 : 0 ≤ x) => ?_⟩
    · rw [if_pos c1] at h
      exact ⟨by omega, h⟩
    · rw [if_neg (Int.not_lt.mpr c1)] at h
      refine ⟨fun (c2 : (G 40 11) ≤ x) => ?_, fun (c2 : x < (G 40 11)) => ?_⟩
      · rw [if_pos c2] at h
        exact ⟨by omega, h⟩
      · rw [if_neg (Int.not_le.mpr c2)] at h
        refine ⟨fun (c3 : 8 ≤ x) => ?_, fun (c3 : x < 8) => ?_⟩
        · rw [if_pos c3] at h
          exact ⟨by omega, h⟩
        · rw [if_neg (Int.not_le.mpr c3)] at h
          exact ⟨by omega, h⟩
  · skip
    unfold f_X1_hasCampaign at h
    try simp only [Nat.reduceAdd, Nat.reduceSub] at h
    refine (show P2 D (d + 1) M_X1_hasCampaign [mR 57, mI x] G Q from ?_)
    refine p2_vc [] 400 oo_X1 q_X1_hasCampaign (by decide) rfl (Nat.le_of_ble_eq_true rfl) ?_
    refine ⟨fun (c1 : x < 0) => ?_, fun (c1 : 0 ≤ x) => ?_⟩
    · rw [if_pos c1] at h
      exact ⟨by omega, h⟩
    · rw [if_neg (Int.not_lt.mpr c1)] at h
      refine ⟨fun (c2 : (G 52 11) ≤ x) => ?_, fun (c2 : x < (G 52 11)) => ?_⟩
      · rw [if_pos c2] at h
        exact ⟨by omega, h⟩
      · rw [if_neg (Int.not_le.mpr c2)] at h
        refine ⟨fun (c3 : 8 ≤ x) => ?_, fun (c3 : x < 8) => ?_⟩
        · rw [if_pos c3] at h
          exact ⟨by omega, h⟩
        · rw [if_neg (Int.not_le.mpr c3)] at h
          exact ⟨by omega, h⟩
def f_X1_hasClause (c : Nat) (G : mG) (x : Int) : Int := (if x < 0 then 0 else (if (G c 12) ≤ x then 0 else (if 40 ≤ x then 0 else 1)))
theorem sp_X1_hasClause {D : Nat → Bool} {d : Nat} {c : Nat} {G : mG} {x : Int} {Q : Option mV → mG → Prop} (hc : c = 40 ∨ c = 52) (h : Q (some (mI (f_X1_hasClause c G x))) G) : P2 D (d + 1) M_X1_hasClause [mR (c + 5), mI x] G Q := by
  rcases hc with rfl | rfl
  · skip
    unfold f_X1_hasClause at h
    try simp only [Nat.reduceAdd, Nat.reduceSub] at h
    refine (show P2 D (d + 1) M_X1_hasClause [mR 45, mI x] G Q from ?_)
    refine p2_vc [] 400 oo_X1 q_X1_hasClause (by decide) rfl (Nat.le_of_ble_eq_true rfl) ?_
    refine ⟨fun (c1 : x < 0) => ?_, fun (c1 : 0 ≤ x) => ?_⟩
    · rw [if_pos c1] at h
      exact ⟨by omega, h⟩
    · rw [if_neg (Int.not_lt.mpr c1)] at h
      refine ⟨fun (c2 : (G 40 12) ≤ x) => ?_, fun (c2 : x < (G 40 12)) => ?_⟩
      · rw [if_pos c2] at h
        exact ⟨by omega, h⟩
      · rw [if_neg (Int.not_le.mpr c2)] at h
        refine ⟨fun (c3 : 40 ≤ x) => ?_, fun (c3 : x < 40) => ?_⟩
        · rw [if_pos c3] at h
          exact ⟨by omega, h⟩
        · rw [if_neg (Int.not_le.mpr c3)] at h
          exact ⟨by omega, h⟩
  · skip
    unfold f_X1_hasClause at h
    try simp only [Nat.reduceAdd, Nat.reduceSub] at h
    refine (show P2 D (d + 1) M_X1_hasClause [mR 57, mI x] G Q from ?_)
    refine p2_vc [] 400 oo_X1 q_X1_hasClause (by decide) rfl (Nat.le_of_ble_eq_true rfl) ?_
    refine ⟨fun (c1 : x < 0) => ?_, fun (c1 : 0 ≤ x) => ?_⟩
    · rw [if_pos c1] at h
      exact ⟨by omega, h⟩
    · rw [if_neg (Int.not_lt.mpr c1)] at h
      refine ⟨fun (c2 : (G 52 12) ≤ x) => ?_, fun (c2 : x < (G 52 12)) => ?_⟩
      · rw [if_pos c2] at h
        exact ⟨by omega, h⟩
      · rw [if_neg (Int.not_le.mpr c2)] at h
        refine ⟨fun (c3 : 40 ≤ x) => ?_, fun (c3 : x < 40) => ?_⟩
        · rw [if_pos c3] at h
          exact ⟨by omega, h⟩
        · rw [if_neg (Int.not_le.mpr c3)] at h
          exact ⟨by omega, h⟩
theorem fa_X1_hasCampaign (c : Nat) (G : mG) (x : Int) : (f_X1_hasCampaign c G x = 1 ∧ 0 ≤ x ∧ x < G c 11 ∧ x < 8) ∨ (f_X1_hasCampaign c G x = 0 ∧ ¬ (0 ≤ x ∧ x < G c 11 ∧ x < 8)) := by
  unfold f_X1_hasCampaign
  repeat' split
  all_goals omega
theorem fa_X1_hasClause (c : Nat) (G : mG) (x : Int) : (f_X1_hasClause c G x = 1 ∧ 0 ≤ x ∧ x < G c 12 ∧ x < 40) ∨ (f_X1_hasClause c G x = 0 ∧ ¬ (0 ≤ x ∧ x < G c 12 ∧ x < 40)) := by
  unfold f_X1_hasClause
  repeat' split
  all_goals omega
def f_X1_kindOf (c : Nat) (G : mG) (x : Int) : Int := (if (f_X1_hasClause c G x) = 0 then 0 else (G (c + 4) (Int.toNat x)))
theorem sp_X1_kindOf {D : Nat → Bool} {d : Nat} {c : Nat} {G : mG} {x : Int} {Q : Option mV → mG → Prop} (hc : c = 40 ∨ c = 52) (h : Q (some (mI (f_X1_kindOf c G x))) G) : P2 D (d + 2) M_X1_kindOf [mR (c + 5), mI x] G Q := by
  rcases hc with rfl | rfl
  · skip
    unfold f_X1_kindOf at h
    try simp only [Nat.reduceAdd, Nat.reduceSub] at h
    refine (show P2 D (d + 2) M_X1_kindOf [mR 45, mI x] G Q from ?_)
    refine p2_vc [] 400 oo_X1 q_X1_kindOf (by decide) rfl (Nat.le_of_ble_eq_true rfl) ?_
    refine sp_X1_hasClause (by decide) ?_
    have c2 := fa_X1_hasClause 40 G x
    refine ⟨fun (c3 : (f_X1_hasClause 40 G x) = 0) => ?_, fun (c3 : ¬ (f_X1_hasClause 40 G x) = 0) => ?_⟩
    · rw [if_pos c3] at h
      exact h
    · rw [if_neg (c3)] at h
      refine ⟨(show 0 ≤ x ∧ x < ((40 : Nat) : Int) from by first | omega | (simp (disch := omega) only [w32_i]; omega)), ?_⟩
      exact h
  · skip
    unfold f_X1_kindOf at h
    try simp only [Nat.reduceAdd, Nat.reduceSub] at h
    refine (show P2 D (d + 2) M_X1_kindOf [mR 57, mI x] G Q from ?_)
    refine p2_vc [] 400 oo_X1 q_X1_kindOf (by decide) rfl (Nat.le_of_ble_eq_true rfl) ?_
    refine sp_X1_hasClause (by decide) ?_
    have c2 := fa_X1_hasClause 52 G x
    refine ⟨fun (c3 : (f_X1_hasClause 52 G x) = 0) => ?_, fun (c3 : ¬ (f_X1_hasClause 52 G x) = 0) => ?_⟩
    · rw [if_pos c3] at h
      exact h
    · rw [if_neg (c3)] at h
      refine ⟨(show 0 ≤ x ∧ x < ((40 : Nat) : Int) from by first | omega | (simp (disch := omega) only [w32_i]; omega)), ?_⟩
      exact h
def f_X1_ownerOf (c : Nat) (G : mG) (x : Int) : Int := (if (f_X1_hasClause c G x) = 0 then (-1) else (G (c + 5) (Int.toNat x)))
theorem sp_X1_ownerOf {D : Nat → Bool} {d : Nat} {c : Nat} {G : mG} {x : Int} {Q : Option mV → mG → Prop} (hc : c = 40 ∨ c = 52) (h : Q (some (mI (f_X1_ownerOf c G x))) G) : P2 D (d + 2) M_X1_ownerOf [mR (c + 5), mI x] G Q := by
  rcases hc with rfl | rfl
  · skip
    unfold f_X1_ownerOf at h
    try simp only [Nat.reduceAdd, Nat.reduceSub] at h
    refine (show P2 D (d + 2) M_X1_ownerOf [mR 45, mI x] G Q from ?_)
    refine p2_vc [] 400 oo_X1 q_X1_ownerOf (by decide) rfl (Nat.le_of_ble_eq_true rfl) ?_
    refine sp_X1_hasClause (by decide) ?_
    have c2 := fa_X1_hasClause 40 G x
    refine ⟨fun (c3 : (f_X1_hasClause 40 G x) = 0) => ?_, fun (c3 : ¬ (f_X1_hasClause 40 G x) = 0) => ?_⟩
    · rw [if_pos c3] at h
      exact h
    · rw [if_neg (c3)] at h
      refine ⟨(show 0 ≤ x ∧ x < ((40 : Nat) : Int) from by first | omega | (simp (disch := omega) only [w32_i]; omega)), ?_⟩
      exact h
  · skip
    unfold f_X1_ownerOf at h
    try simp only [Nat.reduceAdd, Nat.reduceSub] at h
    refine (show P2 D (d + 2) M_X1_ownerOf [mR 57, mI x] G Q from ?_)
    refine p2_vc [] 400 oo_X1 q_X1_ownerOf (by decide) rfl (Nat.le_of_ble_eq_true rfl) ?_
    refine sp_X1_hasClause (by decide) ?_
    have c2 := fa_X1_hasClause 52 G x
    refine ⟨fun (c3 : (f_X1_hasClause 52 G x) = 0) => ?_, fun (c3 : ¬ (f_X1_hasClause 52 G x) = 0) => ?_⟩
    · rw [if_pos c3] at h
      exact h
    · rw [if_neg (c3)] at h
      refine ⟨(show 0 ≤ x ∧ x < ((40 : Nat) : Int) from by first | omega | (simp (disch := omega) only [w32_i]; omega)), ?_⟩
      exact h
def f_X1_amountOf (c : Nat) (G : mG) (x : Int) : Int := (if (f_X1_hasClause c G x) = 0 then 0 else (G (c + 6) (Int.toNat x)))
theorem sp_X1_amountOf {D : Nat → Bool} {d : Nat} {c : Nat} {G : mG} {x : Int} {Q : Option mV → mG → Prop} (hc : c = 40 ∨ c = 52) (h : Q (some (mI (f_X1_amountOf c G x))) G) : P2 D (d + 2) M_X1_amountOf [mR (c + 5), mI x] G Q := by
  rcases hc with rfl | rfl
  · skip
    unfold f_X1_amountOf at h
    try simp only [Nat.reduceAdd, Nat.reduceSub] at h
    refine (show P2 D (d + 2) M_X1_amountOf [mR 45, mI x] G Q from ?_)
    refine p2_vc [] 400 oo_X1 q_X1_amountOf (by decide) rfl (Nat.le_of_ble_eq_true rfl) ?_
    refine sp_X1_hasClause (by decide) ?_
    have c2 := fa_X1_hasClause 40 G x
    refine ⟨fun (c3 : (f_X1_hasClause 40 G x) = 0) => ?_, fun (c3 : ¬ (f_X1_hasClause 40 G x) = 0) => ?_⟩
    · rw [if_pos c3] at h
      exact h
    · rw [if_neg (c3)] at h
      refine ⟨(show 0 ≤ x ∧ x < ((40 : Nat) : Int) from by first | omega | (simp (disch := omega) only [w32_i]; omega)), ?_⟩
      exact h
  · skip
    unfold f_X1_amountOf at h
    try simp only [Nat.reduceAdd, Nat.reduceSub] at h
    refine (show P2 D (d + 2) M_X1_amountOf [mR 57, mI x] G Q from ?_)
    refine p2_vc [] 400 oo_X1 q_X1_amountOf (by decide) rfl (Nat.le_of_ble_eq_true rfl) ?_
    refine sp_X1_hasClause (by decide) ?_
    have c2 := fa_X1_hasClause 52 G x
    refine ⟨fun (c3 : (f_X1_hasClause 52 G x) = 0) => ?_, fun (c3 : ¬ (f_X1_hasClause 52 G x) = 0) => ?_⟩
    · rw [if_pos c3] at h
      exact h
    · rw [if_neg (c3)] at h
      refine ⟨(show 0 ≤ x ∧ x < ((40 : Nat) : Int) from by first | omega | (simp (disch := omega) only [w32_i]; omega)), ?_⟩
      exact h
def f_X1_districtOf (c : Nat) (G : mG) (x : Int) : Int := (if (f_X1_hasClause c G x) = 0 then (-1) else (G (c + 7) (Int.toNat x)))
theorem sp_X1_districtOf {D : Nat → Bool} {d : Nat} {c : Nat} {G : mG} {x : Int} {Q : Option mV → mG → Prop} (hc : c = 40 ∨ c = 52) (h : Q (some (mI (f_X1_districtOf c G x))) G) : P2 D (d + 2) M_X1_districtOf [mR (c + 5), mI x] G Q := by
  rcases hc with rfl | rfl
  · skip
    unfold f_X1_districtOf at h
    try simp only [Nat.reduceAdd, Nat.reduceSub] at h
    refine (show P2 D (d + 2) M_X1_districtOf [mR 45, mI x] G Q from ?_)
    refine p2_vc [] 400 oo_X1 q_X1_districtOf (by decide) rfl (Nat.le_of_ble_eq_true rfl) ?_
    refine sp_X1_hasClause (by decide) ?_
    have c2 := fa_X1_hasClause 40 G x
    refine ⟨fun (c3 : (f_X1_hasClause 40 G x) = 0) => ?_, fun (c3 : ¬ (f_X1_hasClause 40 G x) = 0) => ?_⟩
    · rw [if_pos c3] at h
      exact h
    · rw [if_neg (c3)] at h
      refine ⟨(show 0 ≤ x ∧ x < ((40 : Nat) : Int) from by first | omega | (simp (disch := omega) only [w32_i]; omega)), ?_⟩
      exact h
  · skip
    unfold f_X1_districtOf at h
    try simp only [Nat.reduceAdd, Nat.reduceSub] at h
    refine (show P2 D (d + 2) M_X1_districtOf [mR 57, mI x] G Q from ?_)
    refine p2_vc [] 400 oo_X1 q_X1_districtOf (by decide) rfl (Nat.le_of_ble_eq_true rfl) ?_
    refine sp_X1_hasClause (by decide) ?_
    have c2 := fa_X1_hasClause 52 G x
    refine ⟨fun (c3 : (f_X1_hasClause 52 G x) = 0) => ?_, fun (c3 : ¬ (f_X1_hasClause 52 G x) = 0) => ?_⟩
    · rw [if_pos c3] at h
      exact h
    · rw [if_neg (c3)] at h
      refine ⟨(show 0 ≤ x ∧ x < ((40 : Nat) : Int) from by first | omega | (simp (disch := omega) only [w32_i]; omega)), ?_⟩
      exact h
def f_X1_worthOf (c : Nat) (G : mG) (x : Int) : Int := (if (f_X1_hasClause c G x) = 0 then 0 else (G (c + 8) (Int.toNat x)))
theorem sp_X1_worthOf {D : Nat → Bool} {d : Nat} {c : Nat} {G : mG} {x : Int} {Q : Option mV → mG → Prop} (hc : c = 40 ∨ c = 52) (h : Q (some (mI (f_X1_worthOf c G x))) G) : P2 D (d + 2) M_X1_worthOf [mR (c + 5), mI x] G Q := by
  rcases hc with rfl | rfl
  · skip
    unfold f_X1_worthOf at h
    try simp only [Nat.reduceAdd, Nat.reduceSub] at h
    refine (show P2 D (d + 2) M_X1_worthOf [mR 45, mI x] G Q from ?_)
    refine p2_vc [] 400 oo_X1 q_X1_worthOf (by decide) rfl (Nat.le_of_ble_eq_true rfl) ?_
    refine sp_X1_hasClause (by decide) ?_
    have c2 := fa_X1_hasClause 40 G x
    refine ⟨fun (c3 : (f_X1_hasClause 40 G x) = 0) => ?_, fun (c3 : ¬ (f_X1_hasClause 40 G x) = 0) => ?_⟩
    · rw [if_pos c3] at h
      exact h
    · rw [if_neg (c3)] at h
      refine ⟨(show 0 ≤ x ∧ x < ((40 : Nat) : Int) from by first | omega | (simp (disch := omega) only [w32_i]; omega)), ?_⟩
      exact h
  · skip
    unfold f_X1_worthOf at h
    try simp only [Nat.reduceAdd, Nat.reduceSub] at h
    refine (show P2 D (d + 2) M_X1_worthOf [mR 57, mI x] G Q from ?_)
    refine p2_vc [] 400 oo_X1 q_X1_worthOf (by decide) rfl (Nat.le_of_ble_eq_true rfl) ?_
    refine sp_X1_hasClause (by decide) ?_
    have c2 := fa_X1_hasClause 52 G x
    refine ⟨fun (c3 : (f_X1_hasClause 52 G x) = 0) => ?_, fun (c3 : ¬ (f_X1_hasClause 52 G x) = 0) => ?_⟩
    · rw [if_pos c3] at h
      exact h
    · rw [if_neg (c3)] at h
      refine ⟨(show 0 ≤ x ∧ x < ((40 : Nat) : Int) from by first | omega | (simp (disch := omega) only [w32_i]; omega)), ?_⟩
      exact h
def f_X1_codeStartOf (c : Nat) (G : mG) (x : Int) : Int := (if (f_X1_hasClause c G x) = 0 then 0 else (G (c + 9) (Int.toNat x)))
theorem sp_X1_codeStartOf {D : Nat → Bool} {d : Nat} {c : Nat} {G : mG} {x : Int} {Q : Option mV → mG → Prop} (hc : c = 40 ∨ c = 52) (h : Q (some (mI (f_X1_codeStartOf c G x))) G) : P2 D (d + 2) M_X1_codeStartOf [mR (c + 5), mI x] G Q := by
  rcases hc with rfl | rfl
  · skip
    unfold f_X1_codeStartOf at h
    try simp only [Nat.reduceAdd, Nat.reduceSub] at h
    refine (show P2 D (d + 2) M_X1_codeStartOf [mR 45, mI x] G Q from ?_)
    refine p2_vc [] 400 oo_X1 q_X1_codeStartOf (by decide) rfl (Nat.le_of_ble_eq_true rfl) ?_
    refine sp_X1_hasClause (by decide) ?_
    have c2 := fa_X1_hasClause 40 G x
    refine ⟨fun (c3 : (f_X1_hasClause 40 G x) = 0) => ?_, fun (c3 : ¬ (f_X1_hasClause 40 G x) = 0) => ?_⟩
    · rw [if_pos c3] at h
      exact h
    · rw [if_neg (c3)] at h
      refine ⟨(show 0 ≤ x ∧ x < ((40 : Nat) : Int) from by first | omega | (simp (disch := omega) only [w32_i]; omega)), ?_⟩
      exact h
  · skip
    unfold f_X1_codeStartOf at h
    try simp only [Nat.reduceAdd, Nat.reduceSub] at h
    refine (show P2 D (d + 2) M_X1_codeStartOf [mR 57, mI x] G Q from ?_)
    refine p2_vc [] 400 oo_X1 q_X1_codeStartOf (by decide) rfl (Nat.le_of_ble_eq_true rfl) ?_
    refine sp_X1_hasClause (by decide) ?_
    have c2 := fa_X1_hasClause 52 G x
    refine ⟨fun (c3 : (f_X1_hasClause 52 G x) = 0) => ?_, fun (c3 : ¬ (f_X1_hasClause 52 G x) = 0) => ?_⟩
    · rw [if_pos c3] at h
      exact h
    · rw [if_neg (c3)] at h
      refine ⟨(show 0 ≤ x ∧ x < ((40 : Nat) : Int) from by first | omega | (simp (disch := omega) only [w32_i]; omega)), ?_⟩
      exact h
def f_X1_codeEndOf (c : Nat) (G : mG) (x : Int) : Int := (if (f_X1_hasClause c G x) = 0 then 0 else (G (c + 10) (Int.toNat x)))
theorem sp_X1_codeEndOf {D : Nat → Bool} {d : Nat} {c : Nat} {G : mG} {x : Int} {Q : Option mV → mG → Prop} (hc : c = 40 ∨ c = 52) (h : Q (some (mI (f_X1_codeEndOf c G x))) G) : P2 D (d + 2) M_X1_codeEndOf [mR (c + 5), mI x] G Q := by
  rcases hc with rfl | rfl
  · skip
    unfold f_X1_codeEndOf at h
    try simp only [Nat.reduceAdd, Nat.reduceSub] at h
    refine (show P2 D (d + 2) M_X1_codeEndOf [mR 45, mI x] G Q from ?_)
    refine p2_vc [] 400 oo_X1 q_X1_codeEndOf (by decide) rfl (Nat.le_of_ble_eq_true rfl) ?_
    refine sp_X1_hasClause (by decide) ?_
    have c2 := fa_X1_hasClause 40 G x
    refine ⟨fun (c3 : (f_X1_hasClause 40 G x) = 0) => ?_, fun (c3 : ¬ (f_X1_hasClause 40 G x) = 0) => ?_⟩
    · rw [if_pos c3] at h
      exact h
    · rw [if_neg (c3)] at h
      refine ⟨(show 0 ≤ x ∧ x < ((40 : Nat) : Int) from by first | omega | (simp (disch := omega) only [w32_i]; omega)), ?_⟩
      exact h
  · skip
    unfold f_X1_codeEndOf at h
    try simp only [Nat.reduceAdd, Nat.reduceSub] at h
    refine (show P2 D (d + 2) M_X1_codeEndOf [mR 57, mI x] G Q from ?_)
    refine p2_vc [] 400 oo_X1 q_X1_codeEndOf (by decide) rfl (Nat.le_of_ble_eq_true rfl) ?_
    refine sp_X1_hasClause (by decide) ?_
    have c2 := fa_X1_hasClause 52 G x
    refine ⟨fun (c3 : (f_X1_hasClause 52 G x) = 0) => ?_, fun (c3 : ¬ (f_X1_hasClause 52 G x) = 0) => ?_⟩
    · rw [if_pos c3] at h
      exact h
    · rw [if_neg (c3)] at h
      refine ⟨(show 0 ≤ x ∧ x < ((40 : Nat) : Int) from by first | omega | (simp (disch := omega) only [w32_i]; omega)), ?_⟩
      exact h
def f_X1_firstOf (c : Nat) (G : mG) (x : Int) : Int := (if (f_X1_hasCampaign c G x) = 0 then (-1) else (G (c + 1) (Int.toNat x)))
theorem sp_X1_firstOf {D : Nat → Bool} {d : Nat} {c : Nat} {G : mG} {x : Int} {Q : Option mV → mG → Prop} (hc : c = 40 ∨ c = 52) (h : Q (some (mI (f_X1_firstOf c G x))) G) : P2 D (d + 2) M_X1_firstOf [mR (c + 5), mI x] G Q := by
  rcases hc with rfl | rfl
  · skip
    unfold f_X1_firstOf at h
    try simp only [Nat.reduceAdd, Nat.reduceSub] at h
    refine (show P2 D (d + 2) M_X1_firstOf [mR 45, mI x] G Q from ?_)
    refine p2_vc [] 400 oo_X1 q_X1_firstOf (by decide) rfl (Nat.le_of_ble_eq_true rfl) ?_
    refine sp_X1_hasCampaign (by decide) ?_
    have c2 := fa_X1_hasCampaign 40 G x
    refine ⟨fun (c3 : (f_X1_hasCampaign 40 G x) = 0) => ?_, fun (c3 : ¬ (f_X1_hasCampaign 40 G x) = 0) => ?_⟩
    · rw [if_pos c3] at h
      exact h
    · rw [if_neg (c3)] at h
      refine ⟨(show 0 ≤ x ∧ x < ((8 : Nat) : Int) from by first | omega | (simp (disch := omega) only [w32_i]; omega)), ?_⟩
      exact h
  · skip
    unfold f_X1_firstOf at h
    try simp only [Nat.reduceAdd, Nat.reduceSub] at h
    refine (show P2 D (d + 2) M_X1_firstOf [mR 57, mI x] G Q from ?_)
    refine p2_vc [] 400 oo_X1 q_X1_firstOf (by decide) rfl (Nat.le_of_ble_eq_true rfl) ?_
    refine sp_X1_hasCampaign (by decide) ?_
    have c2 := fa_X1_hasCampaign 52 G x
    refine ⟨fun (c3 : (f_X1_hasCampaign 52 G x) = 0) => ?_, fun (c3 : ¬ (f_X1_hasCampaign 52 G x) = 0) => ?_⟩
    · rw [if_pos c3] at h
      exact h
    · rw [if_neg (c3)] at h
      refine ⟨(show 0 ≤ x ∧ x < ((8 : Nat) : Int) from by first | omega | (simp (disch := omega) only [w32_i]; omega)), ?_⟩
      exact h
def f_X1_codeKindAt (c : Nat) (G : mG) (x : Int) : Int := (if x < 0 then 0 else (if ((600 : Nat) : Int) ≤ x then 0 else (mDiv (G (c + 11) (Int.toNat x)) 10000)))
theorem sp_X1_codeKindAt {D : Nat → Bool} {d : Nat} {c : Nat} {G : mG} {x : Int} {Q : Option mV → mG → Prop} (hc : c = 40 ∨ c = 52) (h : Q (some (mI (f_X1_codeKindAt c G x))) G) : P2 D (d + 1) M_X1_codeKindAt [mR (c + 5), mI x] G Q := by
  rcases hc with rfl | rfl
  · skip
    unfold f_X1_codeKindAt at h
    try simp only [Nat.reduceAdd, Nat.reduceSub] at h
    refine (show P2 D (d + 1) M_X1_codeKindAt [mR 45, mI x] G Q from ?_)
    refine p2_vc [] 400 oo_X1 q_X1_codeKindAt (by decide) rfl (Nat.le_of_ble_eq_true rfl) ?_
    refine ⟨fun (c1 : x < 0) => ?_, fun (c1 : 0 ≤ x) => ?_⟩
    · rw [if_pos c1] at h
      exact h
    · rw [if_neg (Int.not_lt.mpr c1)] at h
      refine ⟨fun (c2 : ((600 : Nat) : Int) ≤ x) => ?_, fun (c2 : x < ((600 : Nat) : Int)) => ?_⟩
      · rw [if_pos c2] at h
        exact h
      · rw [if_neg (Int.not_le.mpr c2)] at h
        refine ⟨(show 0 ≤ x ∧ x < ((600 : Nat) : Int) from by first | omega | (simp (disch := omega) only [w32_i]; omega)), ?_⟩
        refine ⟨(show ¬ (10000 : Int) = 0 from by omega), ?_⟩
        exact h
  · skip
    unfold f_X1_codeKindAt at h
    try simp only [Nat.reduceAdd, Nat.reduceSub] at h
    refine (show P2 D (d + 1) M_X1_codeKindAt [mR 57, mI x] G Q from ?_)
    refine p2_vc [] 400 oo_X1 q_X1_codeKindAt (by decide) rfl (Nat.le_of_ble_eq_true rfl) ?_
    refine ⟨fun (c1 : x < 0) => ?_, fun (c1 : 0 ≤ x) => ?_⟩
    · rw [if_pos c1] at h
      exact h
    · rw [if_neg (Int.not_lt.mpr c1)] at h
      refine ⟨fun (c2 : ((600 : Nat) : Int) ≤ x) => ?_, fun (c2 : x < ((600 : Nat) : Int)) => ?_⟩
      · rw [if_pos c2] at h
        exact h
      · rw [if_neg (Int.not_le.mpr c2)] at h
        refine ⟨(show 0 ≤ x ∧ x < ((600 : Nat) : Int) from by first | omega | (simp (disch := omega) only [w32_i]; omega)), ?_⟩
        refine ⟨(show ¬ (10000 : Int) = 0 from by omega), ?_⟩
        exact h
def f_X1_codeNumberAt (c : Nat) (G : mG) (x : Int) : Int := (if x < 0 then 0 else (if ((600 : Nat) : Int) ≤ x then 0 else (mRem (G (c + 11) (Int.toNat x)) 10000)))
theorem sp_X1_codeNumberAt {D : Nat → Bool} {d : Nat} {c : Nat} {G : mG} {x : Int} {Q : Option mV → mG → Prop} (hc : c = 40 ∨ c = 52) (h : Q (some (mI (f_X1_codeNumberAt c G x))) G) : P2 D (d + 1) M_X1_codeNumberAt [mR (c + 5), mI x] G Q := by
  rcases hc with rfl | rfl
  · skip
    unfold f_X1_codeNumberAt at h
    try simp only [Nat.reduceAdd, Nat.reduceSub] at h
    refine (show P2 D (d + 1) M_X1_codeNumberAt [mR 45, mI x] G Q from ?_)
    refine p2_vc [] 400 oo_X1 q_X1_codeNumberAt (by decide) rfl (Nat.le_of_ble_eq_true rfl) ?_
    refine ⟨fun (c1 : x < 0) => ?_, fun (c1 : 0 ≤ x) => ?_⟩
    · rw [if_pos c1] at h
      exact h
    · rw [if_neg (Int.not_lt.mpr c1)] at h
      refine ⟨fun (c2 : ((600 : Nat) : Int) ≤ x) => ?_, fun (c2 : x < ((600 : Nat) : Int)) => ?_⟩
      · rw [if_pos c2] at h
        exact h
      · rw [if_neg (Int.not_le.mpr c2)] at h
        refine ⟨(show 0 ≤ x ∧ x < ((600 : Nat) : Int) from by first | omega | (simp (disch := omega) only [w32_i]; omega)), ?_⟩
        refine ⟨(show ¬ (10000 : Int) = 0 from by omega), ?_⟩
        exact h
  · skip
    unfold f_X1_codeNumberAt at h
    try simp only [Nat.reduceAdd, Nat.reduceSub] at h
    refine (show P2 D (d + 1) M_X1_codeNumberAt [mR 57, mI x] G Q from ?_)
    refine p2_vc [] 400 oo_X1 q_X1_codeNumberAt (by decide) rfl (Nat.le_of_ble_eq_true rfl) ?_
    refine ⟨fun (c1 : x < 0) => ?_, fun (c1 : 0 ≤ x) => ?_⟩
    · rw [if_pos c1] at h
      exact h
    · rw [if_neg (Int.not_lt.mpr c1)] at h
      refine ⟨fun (c2 : ((600 : Nat) : Int) ≤ x) => ?_, fun (c2 : x < ((600 : Nat) : Int)) => ?_⟩
      · rw [if_pos c2] at h
        exact h
      · rw [if_neg (Int.not_le.mpr c2)] at h
        refine ⟨(show 0 ≤ x ∧ x < ((600 : Nat) : Int) from by first | omega | (simp (disch := omega) only [w32_i]; omega)), ?_⟩
        refine ⟨(show ¬ (10000 : Int) = 0 from by omega), ?_⟩
        exact h
def f_X1_isInForce (c : Nat) (G : mG) (x : Int) (f : Int) : Int := (if (f_X1_hasCampaign c G x) = 0 then 0 else (if f < (G (c + 1) (Int.toNat x)) then 0 else (if (G (c + 2) (Int.toNat x)) ≤ f then 0 else 1)))
theorem sp_X1_isInForce {D : Nat → Bool} {d : Nat} {c : Nat} {G : mG} {x : Int} {f : Int} {Q : Option mV → mG → Prop} (hc : c = 40 ∨ c = 52) (h : Q (some (mI (f_X1_isInForce c G x f))) G) : P2 D (d + 2) M_X1_isInForce [mR (c + 5), mI x, mI f] G Q := by
  rcases hc with rfl | rfl
  · skip
    unfold f_X1_isInForce at h
    try simp only [Nat.reduceAdd, Nat.reduceSub] at h
    refine (show P2 D (d + 2) M_X1_isInForce [mR 45, mI x, mI f] G Q from ?_)
    refine p2_vc [] 400 oo_X1 q_X1_isInForce (by decide) rfl (Nat.le_of_ble_eq_true rfl) ?_
    refine sp_X1_hasCampaign (by decide) ?_
    have c2 := fa_X1_hasCampaign 40 G x
    refine ⟨fun (c3 : (f_X1_hasCampaign 40 G x) = 0) => ?_, fun (c3 : ¬ (f_X1_hasCampaign 40 G x) = 0) => ?_⟩
    · rw [if_pos c3] at h
      exact ⟨by omega, h⟩
    · rw [if_neg (c3)] at h
      refine ⟨(show 0 ≤ x ∧ x < ((8 : Nat) : Int) from by first | omega | (simp (disch := omega) only [w32_i]; omega)), ?_⟩
      refine ⟨fun (c4 : f < (G 41 (Int.toNat x))) => ?_, fun (c4 : (G 41 (Int.toNat x)) ≤ f) => ?_⟩
      · rw [if_pos c4] at h
        exact ⟨by omega, h⟩
      · rw [if_neg (Int.not_lt.mpr c4)] at h
        refine ⟨(show 0 ≤ x ∧ x < ((8 : Nat) : Int) from by first | omega | (simp (disch := omega) only [w32_i]; omega)), ?_⟩
        refine ⟨fun (c5 : (G 42 (Int.toNat x)) ≤ f) => ?_, fun (c5 : f < (G 42 (Int.toNat x))) => ?_⟩
        · rw [if_pos c5] at h
          exact ⟨by omega, h⟩
        · rw [if_neg (Int.not_le.mpr c5)] at h
          exact ⟨by omega, h⟩
  · skip
    unfold f_X1_isInForce at h
    try simp only [Nat.reduceAdd, Nat.reduceSub] at h
    refine (show P2 D (d + 2) M_X1_isInForce [mR 57, mI x, mI f] G Q from ?_)
    refine p2_vc [] 400 oo_X1 q_X1_isInForce (by decide) rfl (Nat.le_of_ble_eq_true rfl) ?_
    refine sp_X1_hasCampaign (by decide) ?_
    have c2 := fa_X1_hasCampaign 52 G x
    refine ⟨fun (c3 : (f_X1_hasCampaign 52 G x) = 0) => ?_, fun (c3 : ¬ (f_X1_hasCampaign 52 G x) = 0) => ?_⟩
    · rw [if_pos c3] at h
      exact ⟨by omega, h⟩
    · rw [if_neg (c3)] at h
      refine ⟨(show 0 ≤ x ∧ x < ((8 : Nat) : Int) from by first | omega | (simp (disch := omega) only [w32_i]; omega)), ?_⟩
      refine ⟨fun (c4 : f < (G 53 (Int.toNat x))) => ?_, fun (c4 : (G 53 (Int.toNat x)) ≤ f) => ?_⟩
      · rw [if_pos c4] at h
        exact ⟨by omega, h⟩
      · rw [if_neg (Int.not_lt.mpr c4)] at h
        refine ⟨(show 0 ≤ x ∧ x < ((8 : Nat) : Int) from by first | omega | (simp (disch := omega) only [w32_i]; omega)), ?_⟩
        refine ⟨fun (c5 : (G 54 (Int.toNat x)) ≤ f) => ?_, fun (c5 : f < (G 54 (Int.toNat x))) => ?_⟩
        · rw [if_pos c5] at h
          exact ⟨by omega, h⟩
        · rw [if_neg (Int.not_le.mpr c5)] at h
          exact ⟨by omega, h⟩
theorem fa_X1_isInForce (c : Nat) (G : mG) (x f : Int) : f_X1_isInForce c G x f = 1 ∨ f_X1_isInForce c G x f = 0 := by
  unfold f_X1_isInForce
  repeat' split
  all_goals omega
def f_X1_areApart (c : Nat) (G : mG) (x : Int) (y : Int) : Int := (if (f_X1_hasCampaign c G x) = 0 then 0 else (if (f_X1_hasCampaign c G y) = 0 then 0 else (if (G (c + 3) (Int.toNat (w32 ((w32 (x * 8)) + y)))) = 0 then 0 else 1)))
theorem sp_X1_areApart {D : Nat → Bool} {d : Nat} {c : Nat} {G : mG} {x : Int} {y : Int} {Q : Option mV → mG → Prop} (hc : c = 40 ∨ c = 52) (h : Q (some (mI (f_X1_areApart c G x y))) G) : P2 D (d + 2) M_X1_areApart [mR (c + 5), mI x, mI y] G Q := by
  rcases hc with rfl | rfl
  · skip
    unfold f_X1_areApart at h
    try simp only [Nat.reduceAdd, Nat.reduceSub] at h
    refine (show P2 D (d + 2) M_X1_areApart [mR 45, mI x, mI y] G Q from ?_)
    refine p2_vc [] 400 oo_X1 q_X1_areApart (by decide) rfl (Nat.le_of_ble_eq_true rfl) ?_
    refine sp_X1_hasCampaign (by decide) ?_
    have c2 := fa_X1_hasCampaign 40 G x
    refine ⟨fun (c3 : (f_X1_hasCampaign 40 G x) = 0) => ?_, fun (c3 : ¬ (f_X1_hasCampaign 40 G x) = 0) => ?_⟩
    · rw [if_pos c3] at h
      exact ⟨by omega, h⟩
    · rw [if_neg (c3)] at h
      refine sp_X1_hasCampaign (by decide) ?_
      have c5 := fa_X1_hasCampaign 40 G y
      refine ⟨fun (c6 : (f_X1_hasCampaign 40 G y) = 0) => ?_, fun (c6 : ¬ (f_X1_hasCampaign 40 G y) = 0) => ?_⟩
      · rw [if_pos c6] at h
        exact ⟨by omega, h⟩
      · rw [if_neg (c6)] at h
        refine ⟨(show 0 ≤ (w32 ((w32 (x * 8)) + y)) ∧ (w32 ((w32 (x * 8)) + y)) < ((64 : Nat) : Int) from by first | omega | (simp (disch := omega) only [w32_i]; omega)), ?_⟩
        refine ⟨fun (c7 : (G 43 (Int.toNat (w32 ((w32 (x * 8)) + y)))) = 0) => ?_, fun (c7 : ¬ (G 43 (Int.toNat (w32 ((w32 (x * 8)) + y)))) = 0) => ?_⟩
        · rw [if_pos c7] at h
          exact ⟨by omega, h⟩
        · rw [if_neg (c7)] at h
          exact ⟨by omega, h⟩
  · skip
    unfold f_X1_areApart at h
    try simp only [Nat.reduceAdd, Nat.reduceSub] at h
    refine (show P2 D (d + 2) M_X1_areApart [mR 57, mI x, mI y] G Q from ?_)
    refine p2_vc [] 400 oo_X1 q_X1_areApart (by decide) rfl (Nat.le_of_ble_eq_true rfl) ?_
    refine sp_X1_hasCampaign (by decide) ?_
    have c2 := fa_X1_hasCampaign 52 G x
    refine ⟨fun (c3 : (f_X1_hasCampaign 52 G x) = 0) => ?_, fun (c3 : ¬ (f_X1_hasCampaign 52 G x) = 0) => ?_⟩
    · rw [if_pos c3] at h
      exact ⟨by omega, h⟩
    · rw [if_neg (c3)] at h
      refine sp_X1_hasCampaign (by decide) ?_
      have c5 := fa_X1_hasCampaign 52 G y
      refine ⟨fun (c6 : (f_X1_hasCampaign 52 G y) = 0) => ?_, fun (c6 : ¬ (f_X1_hasCampaign 52 G y) = 0) => ?_⟩
      · rw [if_pos c6] at h
        exact ⟨by omega, h⟩
      · rw [if_neg (c6)] at h
        refine ⟨(show 0 ≤ (w32 ((w32 (x * 8)) + y)) ∧ (w32 ((w32 (x * 8)) + y)) < ((64 : Nat) : Int) from by first | omega | (simp (disch := omega) only [w32_i]; omega)), ?_⟩
        refine ⟨fun (c7 : (G 55 (Int.toNat (w32 ((w32 (x * 8)) + y)))) = 0) => ?_, fun (c7 : ¬ (G 55 (Int.toNat (w32 ((w32 (x * 8)) + y)))) = 0) => ?_⟩
        · rw [if_pos c7] at h
          exact ⟨by omega, h⟩
        · rw [if_neg (c7)] at h
          exact ⟨by omega, h⟩
theorem fa_X1_areApart (c : Nat) (G : mG) (x y : Int) : f_X1_areApart c G x y = 1 ∨ f_X1_areApart c G x y = 0 := by
  unfold f_X1_areApart
  repeat' split
  all_goals omega
def g_X1_inForceIn_4 (c : Nat) (G : mG) (f : Int) : Nat → Int → Int := fun j1 s1 => (if (f_X1_isInForce c G ((j1 : Nat) : Int) f) = 0 then s1 else (w32 (s1 + 1)))
def f_X1_inForceIn (c : Nat) (G : mG) (f : Int) : Int := (fd (g_X1_inForceIn_4 c G f) 0 (Int.toNat (G c 11)))
theorem sp_X1_inForceIn {D : Nat → Bool} {d : Nat} {c : Nat} {G : mG} {f : Int} {Q : Option mV → mG → Prop} (hc : c = 40 ∨ c = 52) (hn : G c 11 ≤ 8) (h : Q (some (mI (f_X1_inForceIn c G f))) G) : P2 D (d + 3) M_X1_inForceIn [mR (c + 5), mI f] G Q := by
  rcases hc with rfl | rfl
  · skip
    unfold f_X1_inForceIn at h
    try simp only [Nat.reduceAdd, Nat.reduceSub] at h
    refine (show P2 D (d + 3) M_X1_inForceIn [mR 45, mI f] G Q from ?_)
    refine p2_vc [4] 400 oo_X1 q_X1_inForceIn (by decide) rfl (Nat.le_of_ble_eq_true rfl) ?_
    refine (show W2 o_X1 M_X1_inForceIn D (d + 3) Q 4 [some (mR 45), some (mI f), some (mI 0), some (mI ((0 : Nat) : Int))] [] G from ?_)
    refine lup (g_X1_inForceIn_4 40 G f) 0 (fun j1 s1 => W2 o_X1 M_X1_inForceIn D (d + 3) Q 4 [some (mR 45), some (mI f), some (mI s1), some (mI ((j1 : Nat) : Int))] [] G) (Int.toNat (G 40 11)) (fun j1 s1 hj1 ih1 => ?_) ?_
    · have ih1 : W2 o_X1 M_X1_inForceIn D (d + 3) Q 4 [some (mR 45), some (mI f), some (mI (g_X1_inForceIn_4 40 G f j1 s1)), some (mI ((j1 + 1 : Nat) : Int))] [] G := ih1
      unfold g_X1_inForceIn_4 at ih1
      try simp only [Nat.reduceAdd, Nat.reduceSub] at ih1
      refine w2_vc [4] 400 oo_X1 q_X1_inForceIn ?_
      refine ⟨fun (c1 : (G 40 11) ≤ ((j1 : Nat) : Int)) => ?_, fun (c1 : ((j1 : Nat) : Int) < (G 40 11)) => ?_⟩
      · skip
        exfalso; first | omega | (rw [w32_i (by omega) (by omega)] at c1; omega) | (simp (disch := omega) only [w32_i] at *; omega)
      · skip
        refine sp_X1_isInForce (by decide) ?_
        have c3 := fa_X1_isInForce 40 G ((j1 : Nat) : Int) f
        refine ⟨fun (c4 : (f_X1_isInForce 40 G ((j1 : Nat) : Int) f) = 0) => ?_, fun (c4 : ¬ (f_X1_isInForce 40 G ((j1 : Nat) : Int) f) = 0) => ?_⟩
        · rw [if_pos c4] at ih1
          refine (show W2 o_X1 M_X1_inForceIn D (d + 3) Q 4 [some (mR 45), some (mI f), some (mI s1), some (mI (w32 (((j1 : Nat) : Int) + 1)))] [] G from ?_)
          rw [w32_nat (by omega)]
          exact ih1
        · rw [if_neg (c4)] at ih1
          refine (show W2 o_X1 M_X1_inForceIn D (d + 3) Q 4 [some (mR 45), some (mI f), some (mI (w32 (s1 + 1))), some (mI (w32 (((j1 : Nat) : Int) + 1)))] [] G from ?_)
          rw [w32_nat (by omega)]
          exact ih1
    · skip
      refine (show W2 o_X1 M_X1_inForceIn D (d + 3) Q 4 [some (mR 45), some (mI f), some (mI (fd (g_X1_inForceIn_4 40 G f) 0 (Int.toNat (G 40 11)))), some (mI (((Int.toNat (G 40 11)) : Nat) : Int))] [] G from ?_)
      refine w2_vc [4] 400 oo_X1 q_X1_inForceIn ?_
      refine ⟨fun (c5 : (G 40 11) ≤ (((Int.toNat (G 40 11)) : Nat) : Int)) => ?_, fun (c5 : (((Int.toNat (G 40 11)) : Nat) : Int) < (G 40 11)) => ?_⟩
      · skip
        exact h
      · skip
        exfalso; first | omega | (rw [w32_i (by omega) (by omega)] at c5; omega) | (simp (disch := omega) only [w32_i] at *; omega)
  · skip
    unfold f_X1_inForceIn at h
    try simp only [Nat.reduceAdd, Nat.reduceSub] at h
    refine (show P2 D (d + 3) M_X1_inForceIn [mR 57, mI f] G Q from ?_)
    refine p2_vc [4] 400 oo_X1 q_X1_inForceIn (by decide) rfl (Nat.le_of_ble_eq_true rfl) ?_
    refine (show W2 o_X1 M_X1_inForceIn D (d + 3) Q 4 [some (mR 57), some (mI f), some (mI 0), some (mI ((0 : Nat) : Int))] [] G from ?_)
    refine lup (g_X1_inForceIn_4 52 G f) 0 (fun j1 s1 => W2 o_X1 M_X1_inForceIn D (d + 3) Q 4 [some (mR 57), some (mI f), some (mI s1), some (mI ((j1 : Nat) : Int))] [] G) (Int.toNat (G 52 11)) (fun j1 s1 hj1 ih1 => ?_) ?_
    · have ih1 : W2 o_X1 M_X1_inForceIn D (d + 3) Q 4 [some (mR 57), some (mI f), some (mI (g_X1_inForceIn_4 52 G f j1 s1)), some (mI ((j1 + 1 : Nat) : Int))] [] G := ih1
      unfold g_X1_inForceIn_4 at ih1
      try simp only [Nat.reduceAdd, Nat.reduceSub] at ih1
      refine w2_vc [4] 400 oo_X1 q_X1_inForceIn ?_
      refine ⟨fun (c1 : (G 52 11) ≤ ((j1 : Nat) : Int)) => ?_, fun (c1 : ((j1 : Nat) : Int) < (G 52 11)) => ?_⟩
      · skip
        exfalso; first | omega | (rw [w32_i (by omega) (by omega)] at c1; omega) | (simp (disch := omega) only [w32_i] at *; omega)
      · skip
        refine sp_X1_isInForce (by decide) ?_
        have c3 := fa_X1_isInForce 52 G ((j1 : Nat) : Int) f
        refine ⟨fun (c4 : (f_X1_isInForce 52 G ((j1 : Nat) : Int) f) = 0) => ?_, fun (c4 : ¬ (f_X1_isInForce 52 G ((j1 : Nat) : Int) f) = 0) => ?_⟩
        · rw [if_pos c4] at ih1
          refine (show W2 o_X1 M_X1_inForceIn D (d + 3) Q 4 [some (mR 57), some (mI f), some (mI s1), some (mI (w32 (((j1 : Nat) : Int) + 1)))] [] G from ?_)
          rw [w32_nat (by omega)]
          exact ih1
        · rw [if_neg (c4)] at ih1
          refine (show W2 o_X1 M_X1_inForceIn D (d + 3) Q 4 [some (mR 57), some (mI f), some (mI (w32 (s1 + 1))), some (mI (w32 (((j1 : Nat) : Int) + 1)))] [] G from ?_)
          rw [w32_nat (by omega)]
          exact ih1
    · skip
      refine (show W2 o_X1 M_X1_inForceIn D (d + 3) Q 4 [some (mR 57), some (mI f), some (mI (fd (g_X1_inForceIn_4 52 G f) 0 (Int.toNat (G 52 11)))), some (mI (((Int.toNat (G 52 11)) : Nat) : Int))] [] G from ?_)
      refine w2_vc [4] 400 oo_X1 q_X1_inForceIn ?_
      refine ⟨fun (c5 : (G 52 11) ≤ (((Int.toNat (G 52 11)) : Nat) : Int)) => ?_, fun (c5 : (((Int.toNat (G 52 11)) : Nat) : Int) < (G 52 11)) => ?_⟩
      · skip
        exact h
      · skip
        exfalso; first | omega | (rw [w32_i (by omega) (by omega)] at c5; omega) | (simp (disch := omega) only [w32_i] at *; omega)
def e_X1_setFrom (c : Nat) (G : mG) (x : Int) : mG := (if (f_X1_hasCampaign c G (w32 ((G c 11) - 1))) = 0 then G else (gs G (c + 1) (Int.toNat (w32 ((G c 11) - 1))) x))
theorem fr_X1_setFrom {c : Nat} {G : mG} {x : Int} {k : Nat} (hk : ∀ a ∈ ([c + 1] : List Nat), k ≠ a) : (e_X1_setFrom c G x) k = G k := by
  unfold e_X1_setFrom
  repeat' with_reducible first | apply ite_f | apply ite_f2 | apply ite_p | apply ite_p2
  all_goals first | (simp only [gs_ne (hk (c + 1) (by simp))]; done) | rfl
theorem sp_X1_setFrom {D : Nat → Bool} {d : Nat} {c : Nat} {G : mG} {x : Int} {Q : Option mV → mG → Prop} (hc : c = 40 ∨ c = 52) (hD : ∀ k, D k = false → inN [c + 1] k = false) (h : Q none (e_X1_setFrom c G x)) : P2 D (d + 2) M_X1_setFrom [mR (c + 5), mI x] G Q := by
  rcases hc with rfl | rfl
  · skip
    unfold e_X1_setFrom at h
    try simp only [Nat.reduceAdd, Nat.reduceSub] at h
    refine MP.to (D2 := inN [41]) (Q2 := Q) ?_ hD (fun v G' q _ => q)
    refine (show P2 (inN [41]) (d + 2) M_X1_setFrom [mR 45, mI x] G Q from ?_)
    refine p2_vc [25] 400 oo_X1 q_X1_setFrom (by decide) rfl (Nat.le_of_ble_eq_true rfl) ?_
    refine sp_X1_hasCampaign (by decide) ?_
    have c2 := fa_X1_hasCampaign 40 G (w32 ((G 40 11) - 1))
    refine ⟨fun (c3 : (f_X1_hasCampaign 40 G (w32 ((G 40 11) - 1))) = 0) => ?_, fun (c3 : ¬ (f_X1_hasCampaign 40 G (w32 ((G 40 11) - 1))) = 0) => ?_⟩
    · rw [if_pos c3] at h
      refine (show W2 o_X1 M_X1_setFrom (inN [41]) (d + 2) Q 25 [some (mR 45), some (mI x)] [] G from ?_)
      refine w2_vc [25] 400 oo_X1 q_X1_setFrom ?_
      exact h
    · rw [if_neg (c3)] at h
      refine ⟨(show 0 ≤ (w32 ((G 40 11) - 1)) ∧ (w32 ((G 40 11) - 1)) < ((8 : Nat) : Int) from by first | omega | (simp (disch := omega) only [w32_i]; omega)), ?_⟩
      refine (show W2 o_X1 M_X1_setFrom (inN [41]) (d + 2) Q 25 [some (mR 45), some (mI x)] [] (gs G 41 (Int.toNat (w32 ((G 40 11) - 1))) x) from ?_)
      refine w2_vc [25] 400 oo_X1 q_X1_setFrom ?_
      exact h
  · skip
    unfold e_X1_setFrom at h
    try simp only [Nat.reduceAdd, Nat.reduceSub] at h
    refine MP.to (D2 := inN [53]) (Q2 := Q) ?_ hD (fun v G' q _ => q)
    refine (show P2 (inN [53]) (d + 2) M_X1_setFrom [mR 57, mI x] G Q from ?_)
    refine p2_vc [25] 400 oo_X1 q_X1_setFrom (by decide) rfl (Nat.le_of_ble_eq_true rfl) ?_
    refine sp_X1_hasCampaign (by decide) ?_
    have c2 := fa_X1_hasCampaign 52 G (w32 ((G 52 11) - 1))
    refine ⟨fun (c3 : (f_X1_hasCampaign 52 G (w32 ((G 52 11) - 1))) = 0) => ?_, fun (c3 : ¬ (f_X1_hasCampaign 52 G (w32 ((G 52 11) - 1))) = 0) => ?_⟩
    · rw [if_pos c3] at h
      refine (show W2 o_X1 M_X1_setFrom (inN [53]) (d + 2) Q 25 [some (mR 57), some (mI x)] [] G from ?_)
      refine w2_vc [25] 400 oo_X1 q_X1_setFrom ?_
      exact h
    · rw [if_neg (c3)] at h
      refine ⟨(show 0 ≤ (w32 ((G 52 11) - 1)) ∧ (w32 ((G 52 11) - 1)) < ((8 : Nat) : Int) from by first | omega | (simp (disch := omega) only [w32_i]; omega)), ?_⟩
      refine (show W2 o_X1 M_X1_setFrom (inN [53]) (d + 2) Q 25 [some (mR 57), some (mI x)] [] (gs G 53 (Int.toNat (w32 ((G 52 11) - 1))) x) from ?_)
      refine w2_vc [25] 400 oo_X1 q_X1_setFrom ?_
      exact h
def e_X1_setUntil (c : Nat) (G : mG) (x : Int) : mG := (if (f_X1_hasCampaign c G (w32 ((G c 11) - 1))) = 0 then G else (gs G (c + 2) (Int.toNat (w32 ((G c 11) - 1))) x))
theorem fr_X1_setUntil {c : Nat} {G : mG} {x : Int} {k : Nat} (hk : ∀ a ∈ ([c + 2] : List Nat), k ≠ a) : (e_X1_setUntil c G x) k = G k := by
  unfold e_X1_setUntil
  repeat' with_reducible first | apply ite_f | apply ite_f2 | apply ite_p | apply ite_p2
  all_goals first | (simp only [gs_ne (hk (c + 2) (by simp))]; done) | rfl
theorem sp_X1_setUntil {D : Nat → Bool} {d : Nat} {c : Nat} {G : mG} {x : Int} {Q : Option mV → mG → Prop} (hc : c = 40 ∨ c = 52) (hD : ∀ k, D k = false → inN [c + 2] k = false) (h : Q none (e_X1_setUntil c G x)) : P2 D (d + 2) M_X1_setUntil [mR (c + 5), mI x] G Q := by
  rcases hc with rfl | rfl
  · skip
    unfold e_X1_setUntil at h
    try simp only [Nat.reduceAdd, Nat.reduceSub] at h
    refine MP.to (D2 := inN [42]) (Q2 := Q) ?_ hD (fun v G' q _ => q)
    refine (show P2 (inN [42]) (d + 2) M_X1_setUntil [mR 45, mI x] G Q from ?_)
    refine p2_vc [25] 400 oo_X1 q_X1_setUntil (by decide) rfl (Nat.le_of_ble_eq_true rfl) ?_
    refine sp_X1_hasCampaign (by decide) ?_
    have c2 := fa_X1_hasCampaign 40 G (w32 ((G 40 11) - 1))
    refine ⟨fun (c3 : (f_X1_hasCampaign 40 G (w32 ((G 40 11) - 1))) = 0) => ?_, fun (c3 : ¬ (f_X1_hasCampaign 40 G (w32 ((G 40 11) - 1))) = 0) => ?_⟩
    · rw [if_pos c3] at h
      refine (show W2 o_X1 M_X1_setUntil (inN [42]) (d + 2) Q 25 [some (mR 45), some (mI x)] [] G from ?_)
      refine w2_vc [25] 400 oo_X1 q_X1_setUntil ?_
      exact h
    · rw [if_neg (c3)] at h
      refine ⟨(show 0 ≤ (w32 ((G 40 11) - 1)) ∧ (w32 ((G 40 11) - 1)) < ((8 : Nat) : Int) from by first | omega | (simp (disch := omega) only [w32_i]; omega)), ?_⟩
      refine (show W2 o_X1 M_X1_setUntil (inN [42]) (d + 2) Q 25 [some (mR 45), some (mI x)] [] (gs G 42 (Int.toNat (w32 ((G 40 11) - 1))) x) from ?_)
      refine w2_vc [25] 400 oo_X1 q_X1_setUntil ?_
      exact h
  · skip
    unfold e_X1_setUntil at h
    try simp only [Nat.reduceAdd, Nat.reduceSub] at h
    refine MP.to (D2 := inN [54]) (Q2 := Q) ?_ hD (fun v G' q _ => q)
    refine (show P2 (inN [54]) (d + 2) M_X1_setUntil [mR 57, mI x] G Q from ?_)
    refine p2_vc [25] 400 oo_X1 q_X1_setUntil (by decide) rfl (Nat.le_of_ble_eq_true rfl) ?_
    refine sp_X1_hasCampaign (by decide) ?_
    have c2 := fa_X1_hasCampaign 52 G (w32 ((G 52 11) - 1))
    refine ⟨fun (c3 : (f_X1_hasCampaign 52 G (w32 ((G 52 11) - 1))) = 0) => ?_, fun (c3 : ¬ (f_X1_hasCampaign 52 G (w32 ((G 52 11) - 1))) = 0) => ?_⟩
    · rw [if_pos c3] at h
      refine (show W2 o_X1 M_X1_setUntil (inN [54]) (d + 2) Q 25 [some (mR 57), some (mI x)] [] G from ?_)
      refine w2_vc [25] 400 oo_X1 q_X1_setUntil ?_
      exact h
    · rw [if_neg (c3)] at h
      refine ⟨(show 0 ≤ (w32 ((G 52 11) - 1)) ∧ (w32 ((G 52 11) - 1)) < ((8 : Nat) : Int) from by first | omega | (simp (disch := omega) only [w32_i]; omega)), ?_⟩
      refine (show W2 o_X1 M_X1_setUntil (inN [54]) (d + 2) Q 25 [some (mR 57), some (mI x)] [] (gs G 54 (Int.toNat (w32 ((G 52 11) - 1))) x) from ?_)
      refine w2_vc [25] 400 oo_X1 q_X1_setUntil ?_
      exact h
def e_X1_setAmount (c : Nat) (G : mG) (x : Int) : mG := (if (f_X1_hasClause c G (w32 ((G c 12) - 1))) = 0 then G else (gs G (c + 6) (Int.toNat (w32 ((G c 12) - 1))) x))
theorem fr_X1_setAmount {c : Nat} {G : mG} {x : Int} {k : Nat} (hk : ∀ a ∈ ([c + 6] : List Nat), k ≠ a) : (e_X1_setAmount c G x) k = G k := by
  unfold e_X1_setAmount
  repeat' with_reducible first | apply ite_f | apply ite_f2 | apply ite_p | apply ite_p2
  all_goals first | (simp only [gs_ne (hk (c + 6) (by simp))]; done) | rfl
theorem sp_X1_setAmount {D : Nat → Bool} {d : Nat} {c : Nat} {G : mG} {x : Int} {Q : Option mV → mG → Prop} (hc : c = 40 ∨ c = 52) (hD : ∀ k, D k = false → inN [c + 6] k = false) (h : Q none (e_X1_setAmount c G x)) : P2 D (d + 2) M_X1_setAmount [mR (c + 5), mI x] G Q := by
  rcases hc with rfl | rfl
  · skip
    unfold e_X1_setAmount at h
    try simp only [Nat.reduceAdd, Nat.reduceSub] at h
    refine MP.to (D2 := inN [46]) (Q2 := Q) ?_ hD (fun v G' q _ => q)
    refine (show P2 (inN [46]) (d + 2) M_X1_setAmount [mR 45, mI x] G Q from ?_)
    refine p2_vc [25] 400 oo_X1 q_X1_setAmount (by decide) rfl (Nat.le_of_ble_eq_true rfl) ?_
    refine sp_X1_hasClause (by decide) ?_
    have c2 := fa_X1_hasClause 40 G (w32 ((G 40 12) - 1))
    refine ⟨fun (c3 : (f_X1_hasClause 40 G (w32 ((G 40 12) - 1))) = 0) => ?_, fun (c3 : ¬ (f_X1_hasClause 40 G (w32 ((G 40 12) - 1))) = 0) => ?_⟩
    · rw [if_pos c3] at h
      refine (show W2 o_X1 M_X1_setAmount (inN [46]) (d + 2) Q 25 [some (mR 45), some (mI x)] [] G from ?_)
      refine w2_vc [25] 400 oo_X1 q_X1_setAmount ?_
      exact h
    · rw [if_neg (c3)] at h
      refine ⟨(show 0 ≤ (w32 ((G 40 12) - 1)) ∧ (w32 ((G 40 12) - 1)) < ((40 : Nat) : Int) from by first | omega | (simp (disch := omega) only [w32_i]; omega)), ?_⟩
      refine (show W2 o_X1 M_X1_setAmount (inN [46]) (d + 2) Q 25 [some (mR 45), some (mI x)] [] (gs G 46 (Int.toNat (w32 ((G 40 12) - 1))) x) from ?_)
      refine w2_vc [25] 400 oo_X1 q_X1_setAmount ?_
      exact h
  · skip
    unfold e_X1_setAmount at h
    try simp only [Nat.reduceAdd, Nat.reduceSub] at h
    refine MP.to (D2 := inN [58]) (Q2 := Q) ?_ hD (fun v G' q _ => q)
    refine (show P2 (inN [58]) (d + 2) M_X1_setAmount [mR 57, mI x] G Q from ?_)
    refine p2_vc [25] 400 oo_X1 q_X1_setAmount (by decide) rfl (Nat.le_of_ble_eq_true rfl) ?_
    refine sp_X1_hasClause (by decide) ?_
    have c2 := fa_X1_hasClause 52 G (w32 ((G 52 12) - 1))
    refine ⟨fun (c3 : (f_X1_hasClause 52 G (w32 ((G 52 12) - 1))) = 0) => ?_, fun (c3 : ¬ (f_X1_hasClause 52 G (w32 ((G 52 12) - 1))) = 0) => ?_⟩
    · rw [if_pos c3] at h
      refine (show W2 o_X1 M_X1_setAmount (inN [58]) (d + 2) Q 25 [some (mR 57), some (mI x)] [] G from ?_)
      refine w2_vc [25] 400 oo_X1 q_X1_setAmount ?_
      exact h
    · rw [if_neg (c3)] at h
      refine ⟨(show 0 ≤ (w32 ((G 52 12) - 1)) ∧ (w32 ((G 52 12) - 1)) < ((40 : Nat) : Int) from by first | omega | (simp (disch := omega) only [w32_i]; omega)), ?_⟩
      refine (show W2 o_X1 M_X1_setAmount (inN [58]) (d + 2) Q 25 [some (mR 57), some (mI x)] [] (gs G 58 (Int.toNat (w32 ((G 52 12) - 1))) x) from ?_)
      refine w2_vc [25] 400 oo_X1 q_X1_setAmount ?_
      exact h
def e_X1_setDistrict (c : Nat) (G : mG) (x : Int) : mG := (if (f_X1_hasClause c G (w32 ((G c 12) - 1))) = 0 then G else (gs G (c + 7) (Int.toNat (w32 ((G c 12) - 1))) x))
theorem fr_X1_setDistrict {c : Nat} {G : mG} {x : Int} {k : Nat} (hk : ∀ a ∈ ([c + 7] : List Nat), k ≠ a) : (e_X1_setDistrict c G x) k = G k := by
  unfold e_X1_setDistrict
  repeat' with_reducible first | apply ite_f | apply ite_f2 | apply ite_p | apply ite_p2
  all_goals first | (simp only [gs_ne (hk (c + 7) (by simp))]; done) | rfl
theorem sp_X1_setDistrict {D : Nat → Bool} {d : Nat} {c : Nat} {G : mG} {x : Int} {Q : Option mV → mG → Prop} (hc : c = 40 ∨ c = 52) (hD : ∀ k, D k = false → inN [c + 7] k = false) (h : Q none (e_X1_setDistrict c G x)) : P2 D (d + 2) M_X1_setDistrict [mR (c + 5), mI x] G Q := by
  rcases hc with rfl | rfl
  · skip
    unfold e_X1_setDistrict at h
    try simp only [Nat.reduceAdd, Nat.reduceSub] at h
    refine MP.to (D2 := inN [47]) (Q2 := Q) ?_ hD (fun v G' q _ => q)
    refine (show P2 (inN [47]) (d + 2) M_X1_setDistrict [mR 45, mI x] G Q from ?_)
    refine p2_vc [25] 400 oo_X1 q_X1_setDistrict (by decide) rfl (Nat.le_of_ble_eq_true rfl) ?_
    refine sp_X1_hasClause (by decide) ?_
    have c2 := fa_X1_hasClause 40 G (w32 ((G 40 12) - 1))
    refine ⟨fun (c3 : (f_X1_hasClause 40 G (w32 ((G 40 12) - 1))) = 0) => ?_, fun (c3 : ¬ (f_X1_hasClause 40 G (w32 ((G 40 12) - 1))) = 0) => ?_⟩
    · rw [if_pos c3] at h
      refine (show W2 o_X1 M_X1_setDistrict (inN [47]) (d + 2) Q 25 [some (mR 45), some (mI x)] [] G from ?_)
      refine w2_vc [25] 400 oo_X1 q_X1_setDistrict ?_
      exact h
    · rw [if_neg (c3)] at h
      refine ⟨(show 0 ≤ (w32 ((G 40 12) - 1)) ∧ (w32 ((G 40 12) - 1)) < ((40 : Nat) : Int) from by first | omega | (simp (disch := omega) only [w32_i]; omega)), ?_⟩
      refine (show W2 o_X1 M_X1_setDistrict (inN [47]) (d + 2) Q 25 [some (mR 45), some (mI x)] [] (gs G 47 (Int.toNat (w32 ((G 40 12) - 1))) x) from ?_)
      refine w2_vc [25] 400 oo_X1 q_X1_setDistrict ?_
      exact h
  · skip
    unfold e_X1_setDistrict at h
    try simp only [Nat.reduceAdd, Nat.reduceSub] at h
    refine MP.to (D2 := inN [59]) (Q2 := Q) ?_ hD (fun v G' q _ => q)
    refine (show P2 (inN [59]) (d + 2) M_X1_setDistrict [mR 57, mI x] G Q from ?_)
    refine p2_vc [25] 400 oo_X1 q_X1_setDistrict (by decide) rfl (Nat.le_of_ble_eq_true rfl) ?_
    refine sp_X1_hasClause (by decide) ?_
    have c2 := fa_X1_hasClause 52 G (w32 ((G 52 12) - 1))
    refine ⟨fun (c3 : (f_X1_hasClause 52 G (w32 ((G 52 12) - 1))) = 0) => ?_, fun (c3 : ¬ (f_X1_hasClause 52 G (w32 ((G 52 12) - 1))) = 0) => ?_⟩
    · rw [if_pos c3] at h
      refine (show W2 o_X1 M_X1_setDistrict (inN [59]) (d + 2) Q 25 [some (mR 57), some (mI x)] [] G from ?_)
      refine w2_vc [25] 400 oo_X1 q_X1_setDistrict ?_
      exact h
    · rw [if_neg (c3)] at h
      refine ⟨(show 0 ≤ (w32 ((G 52 12) - 1)) ∧ (w32 ((G 52 12) - 1)) < ((40 : Nat) : Int) from by first | omega | (simp (disch := omega) only [w32_i]; omega)), ?_⟩
      refine (show W2 o_X1 M_X1_setDistrict (inN [59]) (d + 2) Q 25 [some (mR 57), some (mI x)] [] (gs G 59 (Int.toNat (w32 ((G 52 12) - 1))) x) from ?_)
      refine w2_vc [25] 400 oo_X1 q_X1_setDistrict ?_
      exact h
def e_X1_setWorth (c : Nat) (G : mG) (x : Int) : mG := (if (f_X1_hasClause c G (w32 ((G c 12) - 1))) = 0 then G else (gs G (c + 8) (Int.toNat (w32 ((G c 12) - 1))) x))
theorem fr_X1_setWorth {c : Nat} {G : mG} {x : Int} {k : Nat} (hk : ∀ a ∈ ([c + 8] : List Nat), k ≠ a) : (e_X1_setWorth c G x) k = G k := by
  unfold e_X1_setWorth
  repeat' with_reducible first | apply ite_f | apply ite_f2 | apply ite_p | apply ite_p2
  all_goals first | (simp only [gs_ne (hk (c + 8) (by simp))]; done) | rfl
theorem sp_X1_setWorth {D : Nat → Bool} {d : Nat} {c : Nat} {G : mG} {x : Int} {Q : Option mV → mG → Prop} (hc : c = 40 ∨ c = 52) (hD : ∀ k, D k = false → inN [c + 8] k = false) (h : Q none (e_X1_setWorth c G x)) : P2 D (d + 2) M_X1_setWorth [mR (c + 5), mI x] G Q := by
  rcases hc with rfl | rfl
  · skip
    unfold e_X1_setWorth at h
    try simp only [Nat.reduceAdd, Nat.reduceSub] at h
    refine MP.to (D2 := inN [48]) (Q2 := Q) ?_ hD (fun v G' q _ => q)
    refine (show P2 (inN [48]) (d + 2) M_X1_setWorth [mR 45, mI x] G Q from ?_)
    refine p2_vc [25] 400 oo_X1 q_X1_setWorth (by decide) rfl (Nat.le_of_ble_eq_true rfl) ?_
    refine sp_X1_hasClause (by decide) ?_
    have c2 := fa_X1_hasClause 40 G (w32 ((G 40 12) - 1))
    refine ⟨fun (c3 : (f_X1_hasClause 40 G (w32 ((G 40 12) - 1))) = 0) => ?_, fun (c3 : ¬ (f_X1_hasClause 40 G (w32 ((G 40 12) - 1))) = 0) => ?_⟩
    · rw [if_pos c3] at h
      refine (show W2 o_X1 M_X1_setWorth (inN [48]) (d + 2) Q 25 [some (mR 45), some (mI x)] [] G from ?_)
      refine w2_vc [25] 400 oo_X1 q_X1_setWorth ?_
      exact h
    · rw [if_neg (c3)] at h
      refine ⟨(show 0 ≤ (w32 ((G 40 12) - 1)) ∧ (w32 ((G 40 12) - 1)) < ((40 : Nat) : Int) from by first | omega | (simp (disch := omega) only [w32_i]; omega)), ?_⟩
      refine (show W2 o_X1 M_X1_setWorth (inN [48]) (d + 2) Q 25 [some (mR 45), some (mI x)] [] (gs G 48 (Int.toNat (w32 ((G 40 12) - 1))) x) from ?_)
      refine w2_vc [25] 400 oo_X1 q_X1_setWorth ?_
      exact h
  · skip
    unfold e_X1_setWorth at h
    try simp only [Nat.reduceAdd, Nat.reduceSub] at h
    refine MP.to (D2 := inN [60]) (Q2 := Q) ?_ hD (fun v G' q _ => q)
    refine (show P2 (inN [60]) (d + 2) M_X1_setWorth [mR 57, mI x] G Q from ?_)
    refine p2_vc [25] 400 oo_X1 q_X1_setWorth (by decide) rfl (Nat.le_of_ble_eq_true rfl) ?_
    refine sp_X1_hasClause (by decide) ?_
    have c2 := fa_X1_hasClause 52 G (w32 ((G 52 12) - 1))
    refine ⟨fun (c3 : (f_X1_hasClause 52 G (w32 ((G 52 12) - 1))) = 0) => ?_, fun (c3 : ¬ (f_X1_hasClause 52 G (w32 ((G 52 12) - 1))) = 0) => ?_⟩
    · rw [if_pos c3] at h
      refine (show W2 o_X1 M_X1_setWorth (inN [60]) (d + 2) Q 25 [some (mR 57), some (mI x)] [] G from ?_)
      refine w2_vc [25] 400 oo_X1 q_X1_setWorth ?_
      exact h
    · rw [if_neg (c3)] at h
      refine ⟨(show 0 ≤ (w32 ((G 52 12) - 1)) ∧ (w32 ((G 52 12) - 1)) < ((40 : Nat) : Int) from by first | omega | (simp (disch := omega) only [w32_i]; omega)), ?_⟩
      refine (show W2 o_X1 M_X1_setWorth (inN [60]) (d + 2) Q 25 [some (mR 57), some (mI x)] [] (gs G 60 (Int.toNat (w32 ((G 52 12) - 1))) x) from ?_)
      refine w2_vc [25] 400 oo_X1 q_X1_setWorth ?_
      exact h
def r_X1_addCampaign (c : Nat) (G : mG) : Int × mG := (if (G c 11) < 0 then (0, G) else (if (G c 11) < 8 then (1, (gs (gs (gs G (c + 1) (Int.toNat (G c 11)) 0) (c + 2) (Int.toNat (G c 11)) 0) c 11 (w32 ((G c 11) + 1)))) else (0, G)))
theorem frp_X1_addCampaign_c {c : Nat} {G : mG} (hc : c = 40 ∨ c = 52) {i : Nat} (hj : ∀ a ∈ ([11] : List Nat), i ≠ a) : (r_X1_addCampaign c G ).2 c i = G c i := by
  unfold r_X1_addCampaign
  repeat' with_reducible first | apply ite_f | apply ite_f2 | apply ite_p | apply ite_p2
  all_goals first | (simp only [gs_at_ne (hj 11 (by simp)), gs_ne (show (c) ≠ (c + 1) from by omega), gs_ne (show (c) ≠ (c + 2) from by omega)]; done) | rfl
theorem fr_X1_addCampaign {c : Nat} {G : mG} {k : Nat} (hk : ∀ a ∈ ([c, c + 1, c + 2] : List Nat), k ≠ a) : (r_X1_addCampaign c G ).2 k = G k := by
  unfold r_X1_addCampaign
  repeat' with_reducible first | apply ite_f | apply ite_f2 | apply ite_p | apply ite_p2
  all_goals first | (simp only [gs_ne (hk (c) (by simp)), gs_ne (hk (c + 1) (by simp)), gs_ne (hk (c + 2) (by simp))]; done) | rfl
theorem sp_X1_addCampaign {D : Nat → Bool} {d : Nat} {c : Nat} {G : mG} {Q : Option mV → mG → Prop} (hc : c = 40 ∨ c = 52) (hD : ∀ k, D k = false → inN [c, c + 1, c + 2] k = false) (h : Q (some (mI (r_X1_addCampaign c G ).1)) (r_X1_addCampaign c G ).2) : P2 D (d + 1) M_X1_addCampaign [mR (c + 5)] G Q := by
  rcases hc with rfl | rfl
  · skip
    unfold r_X1_addCampaign at h
    try simp only [Nat.reduceAdd, Nat.reduceSub] at h
    refine MP.to (D2 := inN [40, 41, 42]) (Q2 := Q) ?_ hD (fun v G' q _ => q)
    refine (show P2 (inN [40, 41, 42]) (d + 1) M_X1_addCampaign [mR 45] G Q from ?_)
    refine p2_vc [28, 38, 48] 400 oo_X1 q_X1_addCampaign (by decide) rfl (Nat.le_of_ble_eq_true rfl) ?_
    refine ⟨fun (c1 : (G 40 11) < 0) => ?_, fun (c1 : 0 ≤ (G 40 11)) => ?_⟩
    · rw [if_pos c1] at h
      exact ⟨by omega, h⟩
    · rw [if_neg (Int.not_lt.mpr c1)] at h
      refine ⟨fun (c2 : (G 40 11) < 8) => ?_, fun (c2 : 8 ≤ (G 40 11)) => ?_⟩
      · rw [if_pos c2] at h
        refine ⟨(show 0 ≤ (G 40 11) ∧ (G 40 11) < ((8 : Nat) : Int) from by first | omega | (simp (disch := omega) only [w32_i]; omega)), ?_⟩
        refine (show W2 o_X1 M_X1_addCampaign (inN [40, 41, 42]) (d + 1) Q 28 [some (mR 45)] [] (gs G 41 (Int.toNat (G 40 11)) 0) from ?_)
        refine w2_vc [28, 38, 48] 400 oo_X1 q_X1_addCampaign ?_
        refine ⟨(show 0 ≤ (G 40 11) ∧ (G 40 11) < ((8 : Nat) : Int) from by first | omega | (simp (disch := omega) only [w32_i]; omega)), ?_⟩
        refine (show W2 o_X1 M_X1_addCampaign (inN [40, 41, 42]) (d + 1) Q 38 [some (mR 45)] [] (gs (gs G 41 (Int.toNat (G 40 11)) 0) 42 (Int.toNat (G 40 11)) 0) from ?_)
        refine w2_vc [28, 38, 48] 400 oo_X1 q_X1_addCampaign ?_
        refine (show W2 o_X1 M_X1_addCampaign (inN [40, 41, 42]) (d + 1) Q 48 [some (mR 45)] [] (gs (gs (gs G 41 (Int.toNat (G 40 11)) 0) 42 (Int.toNat (G 40 11)) 0) 40 11 (w32 ((G 40 11) + 1))) from ?_)
        refine w2_vc [28, 38, 48] 400 oo_X1 q_X1_addCampaign ?_
        exact ⟨by omega, h⟩
      · rw [if_neg (Int.not_lt.mpr c2)] at h
        exact ⟨by omega, h⟩
  · skip
    unfold r_X1_addCampaign at h
    try simp only [Nat.reduceAdd, Nat.reduceSub] at h
    refine MP.to (D2 := inN [52, 53, 54]) (Q2 := Q) ?_ hD (fun v G' q _ => q)
    refine (show P2 (inN [52, 53, 54]) (d + 1) M_X1_addCampaign [mR 57] G Q from ?_)
    refine p2_vc [28, 38, 48] 400 oo_X1 q_X1_addCampaign (by decide) rfl (Nat.le_of_ble_eq_true rfl) ?_
    refine ⟨fun (c1 : (G 52 11) < 0) => ?_, fun (c1 : 0 ≤ (G 52 11)) => ?_⟩
    · rw [if_pos c1] at h
      exact ⟨by omega, h⟩
    · rw [if_neg (Int.not_lt.mpr c1)] at h
      refine ⟨fun (c2 : (G 52 11) < 8) => ?_, fun (c2 : 8 ≤ (G 52 11)) => ?_⟩
      · rw [if_pos c2] at h
        refine ⟨(show 0 ≤ (G 52 11) ∧ (G 52 11) < ((8 : Nat) : Int) from by first | omega | (simp (disch := omega) only [w32_i]; omega)), ?_⟩
        refine (show W2 o_X1 M_X1_addCampaign (inN [52, 53, 54]) (d + 1) Q 28 [some (mR 57)] [] (gs G 53 (Int.toNat (G 52 11)) 0) from ?_)
        refine w2_vc [28, 38, 48] 400 oo_X1 q_X1_addCampaign ?_
        refine ⟨(show 0 ≤ (G 52 11) ∧ (G 52 11) < ((8 : Nat) : Int) from by first | omega | (simp (disch := omega) only [w32_i]; omega)), ?_⟩
        refine (show W2 o_X1 M_X1_addCampaign (inN [52, 53, 54]) (d + 1) Q 38 [some (mR 57)] [] (gs (gs G 53 (Int.toNat (G 52 11)) 0) 54 (Int.toNat (G 52 11)) 0) from ?_)
        refine w2_vc [28, 38, 48] 400 oo_X1 q_X1_addCampaign ?_
        refine (show W2 o_X1 M_X1_addCampaign (inN [52, 53, 54]) (d + 1) Q 48 [some (mR 57)] [] (gs (gs (gs G 53 (Int.toNat (G 52 11)) 0) 54 (Int.toNat (G 52 11)) 0) 52 11 (w32 ((G 52 11) + 1))) from ?_)
        refine w2_vc [28, 38, 48] 400 oo_X1 q_X1_addCampaign ?_
        exact ⟨by omega, h⟩
      · rw [if_neg (Int.not_lt.mpr c2)] at h
        exact ⟨by omega, h⟩
def r_X1_addClause (c : Nat) (G : mG) (x : Int) : Int × mG := (if (G c 12) < 0 then (0, G) else (if (G c 12) < 40 then (1, (gs (gs (gs (gs (gs (gs (gs (gs G (c + 4) (Int.toNat (G c 12)) x) (c + 5) (Int.toNat (G c 12)) (w32 ((G c 11) - 1))) (c + 6) (Int.toNat (G c 12)) 0) (c + 7) (Int.toNat (G c 12)) (-1)) (c + 8) (Int.toNat (G c 12)) 0) (c + 9) (Int.toNat (G c 12)) (G c 13)) (c + 10) (Int.toNat (G c 12)) (G c 13)) c 12 (w32 ((G c 12) + 1)))) else (0, G)))
theorem frp_X1_addClause_c {c : Nat} {G : mG} {x : Int} (hc : c = 40 ∨ c = 52) {i : Nat} (hj : ∀ a ∈ ([12] : List Nat), i ≠ a) : (r_X1_addClause c G x).2 c i = G c i := by
  unfold r_X1_addClause
  repeat' with_reducible first | apply ite_f | apply ite_f2 | apply ite_p | apply ite_p2
  all_goals first | (simp only [gs_at_ne (hj 12 (by simp)), gs_ne (show (c) ≠ (c + 4) from by omega), gs_ne (show (c) ≠ (c + 5) from by omega), gs_ne (show (c) ≠ (c + 6) from by omega), gs_ne (show (c) ≠ (c + 7) from by omega), gs_ne (show (c) ≠ (c + 8) from by omega), gs_ne (show (c) ≠ (c + 9) from by omega), gs_ne (show (c) ≠ (c + 10) from by omega)]; done) | rfl
theorem fr_X1_addClause {c : Nat} {G : mG} {x : Int} {k : Nat} (hk : ∀ a ∈ ([c, c + 4, c + 5, c + 6, c + 7, c + 8, c + 9, c + 10] : List Nat), k ≠ a) : (r_X1_addClause c G x).2 k = G k := by
  unfold r_X1_addClause
  repeat' with_reducible first | apply ite_f | apply ite_f2 | apply ite_p | apply ite_p2
  all_goals first | (simp only [gs_ne (hk (c) (by simp)), gs_ne (hk (c + 4) (by simp)), gs_ne (hk (c + 5) (by simp)), gs_ne (hk (c + 6) (by simp)), gs_ne (hk (c + 7) (by simp)), gs_ne (hk (c + 8) (by simp)), gs_ne (hk (c + 9) (by simp)), gs_ne (hk (c + 10) (by simp))]; done) | rfl
set_option maxHeartbeats 8000000 in
theorem sp_X1_addClause {D : Nat → Bool} {d : Nat} {c : Nat} {G : mG} {x : Int} {Q : Option mV → mG → Prop} (hc : c = 40 ∨ c = 52) (hD : ∀ k, D k = false → inN [c, c + 4, c + 5, c + 6, c + 7, c + 8, c + 9, c + 10] k = false) (h : Q (some (mI (r_X1_addClause c G x).1)) (r_X1_addClause c G x).2) : P2 D (d + 1) M_X1_addClause [mR (c + 5), mI x] G Q := by
  rcases hc with rfl | rfl
  · skip
    unfold r_X1_addClause at h
    try simp only [Nat.reduceAdd, Nat.reduceSub] at h
    refine MP.to (D2 := inN [40, 44, 45, 46, 47, 48, 49, 50]) (Q2 := Q) ?_ hD (fun v G' q _ => q)
    refine (show P2 (inN [40, 44, 45, 46, 47, 48, 49, 50]) (d + 1) M_X1_addClause [mR 45, mI x] G Q from ?_)
    refine p2_vc [28, 43, 53, 63, 73, 86, 99, 109] 400 oo_X1 q_X1_addClause (by decide) rfl (Nat.le_of_ble_eq_true rfl) ?_
    refine ⟨fun (c1 : (G 40 12) < 0) => ?_, fun (c1 : 0 ≤ (G 40 12)) => ?_⟩
    · rw [if_pos c1] at h
      exact ⟨by omega, h⟩
    · rw [if_neg (Int.not_lt.mpr c1)] at h
      refine ⟨fun (c2 : (G 40 12) < 40) => ?_, fun (c2 : 40 ≤ (G 40 12)) => ?_⟩
      · rw [if_pos c2] at h
        refine ⟨(show 0 ≤ (G 40 12) ∧ (G 40 12) < ((40 : Nat) : Int) from by first | omega | (simp (disch := omega) only [w32_i]; omega)), ?_⟩
        refine (show W2 o_X1 M_X1_addClause (inN [40, 44, 45, 46, 47, 48, 49, 50]) (d + 1) Q 28 [some (mR 45), some (mI x)] [] (gs G 44 (Int.toNat (G 40 12)) x) from ?_)
        refine w2_vc [28, 43, 53, 63, 73, 86, 99, 109] 400 oo_X1 q_X1_addClause ?_
        refine ⟨(show 0 ≤ (G 40 12) ∧ (G 40 12) < ((40 : Nat) : Int) from by first | omega | (simp (disch := omega) only [w32_i]; omega)), ?_⟩
        refine (show W2 o_X1 M_X1_addClause (inN [40, 44, 45, 46, 47, 48, 49, 50]) (d + 1) Q 43 [some (mR 45), some (mI x)] [] (gs (gs G 44 (Int.toNat (G 40 12)) x) 45 (Int.toNat (G 40 12)) (w32 ((G 40 11) - 1))) from ?_)
        refine w2_vc [28, 43, 53, 63, 73, 86, 99, 109] 400 oo_X1 q_X1_addClause ?_
        refine ⟨(show 0 ≤ (G 40 12) ∧ (G 40 12) < ((40 : Nat) : Int) from by first | omega | (simp (disch := omega) only [w32_i]; omega)), ?_⟩
        refine (show W2 o_X1 M_X1_addClause (inN [40, 44, 45, 46, 47, 48, 49, 50]) (d + 1) Q 53 [some (mR 45), some (mI x)] [] (gs (gs (gs G 44 (Int.toNat (G 40 12)) x) 45 (Int.toNat (G 40 12)) (w32 ((G 40 11) - 1))) 46 (Int.toNat (G 40 12)) 0) from ?_)
        refine w2_vc [28, 43, 53, 63, 73, 86, 99, 109] 400 oo_X1 q_X1_addClause ?_
        refine ⟨(show 0 ≤ (G 40 12) ∧ (G 40 12) < ((40 : Nat) : Int) from by first | omega | (simp (disch := omega) only [w32_i]; omega)), ?_⟩
        refine (show W2 o_X1 M_X1_addClause (inN [40, 44, 45, 46, 47, 48, 49, 50]) (d + 1) Q 63 [some (mR 45), some (mI x)] [] (gs (gs (gs (gs G 44 (Int.toNat (G 40 12)) x) 45 (Int.toNat (G 40 12)) (w32 ((G 40 11) - 1))) 46 (Int.toNat (G 40 12)) 0) 47 (Int.toNat (G 40 12)) (-1)) from ?_)
        refine w2_vc [28, 43, 53, 63, 73, 86, 99, 109] 400 oo_X1 q_X1_addClause ?_
        refine ⟨(show 0 ≤ (G 40 12) ∧ (G 40 12) < ((40 : Nat) : Int) from by first | omega | (simp (disch := omega) only [w32_i]; omega)), ?_⟩
        refine (show W2 o_X1 M_X1_addClause (inN [40, 44, 45, 46, 47, 48, 49, 50]) (d + 1) Q 73 [some (mR 45), some (mI x)] [] (gs (gs (gs (gs (gs G 44 (Int.toNat (G 40 12)) x) 45 (Int.toNat (G 40 12)) (w32 ((G 40 11) - 1))) 46 (Int.toNat (G 40 12)) 0) 47 (Int.toNat (G 40 12)) (-1)) 48 (Int.toNat (G 40 12)) 0) from ?_)
        refine w2_vc [28, 43, 53, 63, 73, 86, 99, 109] 400 oo_X1 q_X1_addClause ?_
        refine ⟨(show 0 ≤ (G 40 12) ∧ (G 40 12) < ((40 : Nat) : Int) from by first | omega | (simp (disch := omega) only [w32_i]; omega)), ?_⟩
        refine (show W2 o_X1 M_X1_addClause (inN [40, 44, 45, 46, 47, 48, 49, 50]) (d + 1) Q 86 [some (mR 45), some (mI x)] [] (gs (gs (gs (gs (gs (gs G 44 (Int.toNat (G 40 12)) x) 45 (Int.toNat (G 40 12)) (w32 ((G 40 11) - 1))) 46 (Int.toNat (G 40 12)) 0) 47 (Int.toNat (G 40 12)) (-1)) 48 (Int.toNat (G 40 12)) 0) 49 (Int.toNat (G 40 12)) (G 40 13)) from ?_)
        refine w2_vc [28, 43, 53, 63, 73, 86, 99, 109] 400 oo_X1 q_X1_addClause ?_
        refine ⟨(show 0 ≤ (G 40 12) ∧ (G 40 12) < ((40 : Nat) : Int) from by first | omega | (simp (disch := omega) only [w32_i]; omega)), ?_⟩
        refine (show W2 o_X1 M_X1_addClause (inN [40, 44, 45, 46, 47, 48, 49, 50]) (d + 1) Q 99 [some (mR 45), some (mI x)] [] (gs (gs (gs (gs (gs (gs (gs G 44 (Int.toNat (G 40 12)) x) 45 (Int.toNat (G 40 12)) (w32 ((G 40 11) - 1))) 46 (Int.toNat (G 40 12)) 0) 47 (Int.toNat (G 40 12)) (-1)) 48 (Int.toNat (G 40 12)) 0) 49 (Int.toNat (G 40 12)) (G 40 13)) 50 (Int.toNat (G 40 12)) (G 40 13)) from ?_)
        refine w2_vc [28, 43, 53, 63, 73, 86, 99, 109] 400 oo_X1 q_X1_addClause ?_
        refine (show W2 o_X1 M_X1_addClause (inN [40, 44, 45, 46, 47, 48, 49, 50]) (d + 1) Q 109 [some (mR 45), some (mI x)] [] (gs (gs (gs (gs (gs (gs (gs (gs G 44 (Int.toNat (G 40 12)) x) 45 (Int.toNat (G 40 12)) (w32 ((G 40 11) - 1))) 46 (Int.toNat (G 40 12)) 0) 47 (Int.toNat (G 40 12)) (-1)) 48 (Int.toNat (G 40 12)) 0) 49 (Int.toNat (G 40 12)) (G 40 13)) 50 (Int.toNat (G 40 12)) (G 40 13)) 40 12 (w32 ((G 40 12) + 1))) from ?_)
        refine w2_vc [28, 43, 53, 63, 73, 86, 99, 109] 400 oo_X1 q_X1_addClause ?_
        exact ⟨by omega, h⟩
      · rw [if_neg (Int.not_lt.mpr c2)] at h
        exact ⟨by omega, h⟩
  · skip
    unfold r_X1_addClause at h
    try simp only [Nat.reduceAdd, Nat.reduceSub] at h
    refine MP.to (D2 := inN [52, 56, 57, 58, 59, 60, 61, 62]) (Q2 := Q) ?_ hD (fun v G' q _ => q)
    refine (show P2 (inN [52, 56, 57, 58, 59, 60, 61, 62]) (d + 1) M_X1_addClause [mR 57, mI x] G Q from ?_)
    refine p2_vc [28, 43, 53, 63, 73, 86, 99, 109] 400 oo_X1 q_X1_addClause (by decide) rfl (Nat.le_of_ble_eq_true rfl) ?_
    refine ⟨fun (c1 : (G 52 12) < 0) => ?_, fun (c1 : 0 ≤ (G 52 12)) => ?_⟩
    · rw [if_pos c1] at h
      exact ⟨by omega, h⟩
    · rw [if_neg (Int.not_lt.mpr c1)] at h
      refine ⟨fun (c2 : (G 52 12) < 40) => ?_, fun (c2 : 40 ≤ (G 52 12)) => ?_⟩
      · rw [if_pos c2] at h
        refine ⟨(show 0 ≤ (G 52 12) ∧ (G 52 12) < ((40 : Nat) : Int) from by first | omega | (simp (disch := omega) only [w32_i]; omega)), ?_⟩
        refine (show W2 o_X1 M_X1_addClause (inN [52, 56, 57, 58, 59, 60, 61, 62]) (d + 1) Q 28 [some (mR 57), some (mI x)] [] (gs G 56 (Int.toNat (G 52 12)) x) from ?_)
        refine w2_vc [28, 43, 53, 63, 73, 86, 99, 109] 400 oo_X1 q_X1_addClause ?_
        refine ⟨(show 0 ≤ (G 52 12) ∧ (G 52 12) < ((40 : Nat) : Int) from by first | omega | (simp (disch := omega) only [w32_i]; omega)), ?_⟩
        refine (show W2 o_X1 M_X1_addClause (inN [52, 56, 57, 58, 59, 60, 61, 62]) (d + 1) Q 43 [some (mR 57), some (mI x)] [] (gs (gs G 56 (Int.toNat (G 52 12)) x) 57 (Int.toNat (G 52 12)) (w32 ((G 52 11) - 1))) from ?_)
        refine w2_vc [28, 43, 53, 63, 73, 86, 99, 109] 400 oo_X1 q_X1_addClause ?_
        refine ⟨(show 0 ≤ (G 52 12) ∧ (G 52 12) < ((40 : Nat) : Int) from by first | omega | (simp (disch := omega) only [w32_i]; omega)), ?_⟩
        refine (show W2 o_X1 M_X1_addClause (inN [52, 56, 57, 58, 59, 60, 61, 62]) (d + 1) Q 53 [some (mR 57), some (mI x)] [] (gs (gs (gs G 56 (Int.toNat (G 52 12)) x) 57 (Int.toNat (G 52 12)) (w32 ((G 52 11) - 1))) 58 (Int.toNat (G 52 12)) 0) from ?_)
        refine w2_vc [28, 43, 53, 63, 73, 86, 99, 109] 400 oo_X1 q_X1_addClause ?_
        refine ⟨(show 0 ≤ (G 52 12) ∧ (G 52 12) < ((40 : Nat) : Int) from by first | omega | (simp (disch := omega) only [w32_i]; omega)), ?_⟩
        refine (show W2 o_X1 M_X1_addClause (inN [52, 56, 57, 58, 59, 60, 61, 62]) (d + 1) Q 63 [some (mR 57), some (mI x)] [] (gs (gs (gs (gs G 56 (Int.toNat (G 52 12)) x) 57 (Int.toNat (G 52 12)) (w32 ((G 52 11) - 1))) 58 (Int.toNat (G 52 12)) 0) 59 (Int.toNat (G 52 12)) (-1)) from ?_)
        refine w2_vc [28, 43, 53, 63, 73, 86, 99, 109] 400 oo_X1 q_X1_addClause ?_
        refine ⟨(show 0 ≤ (G 52 12) ∧ (G 52 12) < ((40 : Nat) : Int) from by first | omega | (simp (disch := omega) only [w32_i]; omega)), ?_⟩
        refine (show W2 o_X1 M_X1_addClause (inN [52, 56, 57, 58, 59, 60, 61, 62]) (d + 1) Q 73 [some (mR 57), some (mI x)] [] (gs (gs (gs (gs (gs G 56 (Int.toNat (G 52 12)) x) 57 (Int.toNat (G 52 12)) (w32 ((G 52 11) - 1))) 58 (Int.toNat (G 52 12)) 0) 59 (Int.toNat (G 52 12)) (-1)) 60 (Int.toNat (G 52 12)) 0) from ?_)
        refine w2_vc [28, 43, 53, 63, 73, 86, 99, 109] 400 oo_X1 q_X1_addClause ?_
        refine ⟨(show 0 ≤ (G 52 12) ∧ (G 52 12) < ((40 : Nat) : Int) from by first | omega | (simp (disch := omega) only [w32_i]; omega)), ?_⟩
        refine (show W2 o_X1 M_X1_addClause (inN [52, 56, 57, 58, 59, 60, 61, 62]) (d + 1) Q 86 [some (mR 57), some (mI x)] [] (gs (gs (gs (gs (gs (gs G 56 (Int.toNat (G 52 12)) x) 57 (Int.toNat (G 52 12)) (w32 ((G 52 11) - 1))) 58 (Int.toNat (G 52 12)) 0) 59 (Int.toNat (G 52 12)) (-1)) 60 (Int.toNat (G 52 12)) 0) 61 (Int.toNat (G 52 12)) (G 52 13)) from ?_)
        refine w2_vc [28, 43, 53, 63, 73, 86, 99, 109] 400 oo_X1 q_X1_addClause ?_
        refine ⟨(show 0 ≤ (G 52 12) ∧ (G 52 12) < ((40 : Nat) : Int) from by first | omega | (simp (disch := omega) only [w32_i]; omega)), ?_⟩
        refine (show W2 o_X1 M_X1_addClause (inN [52, 56, 57, 58, 59, 60, 61, 62]) (d + 1) Q 99 [some (mR 57), some (mI x)] [] (gs (gs (gs (gs (gs (gs (gs G 56 (Int.toNat (G 52 12)) x) 57 (Int.toNat (G 52 12)) (w32 ((G 52 11) - 1))) 58 (Int.toNat (G 52 12)) 0) 59 (Int.toNat (G 52 12)) (-1)) 60 (Int.toNat (G 52 12)) 0) 61 (Int.toNat (G 52 12)) (G 52 13)) 62 (Int.toNat (G 52 12)) (G 52 13)) from ?_)
        refine w2_vc [28, 43, 53, 63, 73, 86, 99, 109] 400 oo_X1 q_X1_addClause ?_
        refine (show W2 o_X1 M_X1_addClause (inN [52, 56, 57, 58, 59, 60, 61, 62]) (d + 1) Q 109 [some (mR 57), some (mI x)] [] (gs (gs (gs (gs (gs (gs (gs (gs G 56 (Int.toNat (G 52 12)) x) 57 (Int.toNat (G 52 12)) (w32 ((G 52 11) - 1))) 58 (Int.toNat (G 52 12)) 0) 59 (Int.toNat (G 52 12)) (-1)) 60 (Int.toNat (G 52 12)) 0) 61 (Int.toNat (G 52 12)) (G 52 13)) 62 (Int.toNat (G 52 12)) (G 52 13)) 52 12 (w32 ((G 52 12) + 1))) from ?_)
        refine w2_vc [28, 43, 53, 63, 73, 86, 99, 109] 400 oo_X1 q_X1_addClause ?_
        exact ⟨by omega, h⟩
      · rw [if_neg (Int.not_lt.mpr c2)] at h
        exact ⟨by omega, h⟩
def e_X1_addCode (c : Nat) (G : mG) (x : Int) (y : Int) : mG := (if (G c 13) < 0 then G else (if ((600 : Nat) : Int) ≤ (G c 13) then G else (if (f_X1_hasClause c G (w32 ((G c 12) - 1))) = 0 then G else (gs (gs (gs G (c + 11) (Int.toNat (G c 13)) (w32 ((w32 (x * 10000)) + y))) c 13 (w32 ((G c 13) + 1))) (c + 10) (Int.toNat (w32 ((G c 12) - 1))) (w32 ((G c 13) + 1))))))
theorem frp_X1_addCode_c {c : Nat} {G : mG} {x : Int} {y : Int} (hc : c = 40 ∨ c = 52) {i : Nat} (hj : ∀ a ∈ ([13] : List Nat), i ≠ a) : (e_X1_addCode c G x y) c i = G c i := by
  unfold e_X1_addCode
  repeat' with_reducible first | apply ite_f | apply ite_f2 | apply ite_p | apply ite_p2
  all_goals first | (simp only [gs_at_ne (hj 13 (by simp)), gs_ne (show (c) ≠ (c + 10) from by omega), gs_ne (show (c) ≠ (c + 11) from by omega)]; done) | rfl
theorem fr_X1_addCode {c : Nat} {G : mG} {x : Int} {y : Int} {k : Nat} (hk : ∀ a ∈ ([c, c + 10, c + 11] : List Nat), k ≠ a) : (e_X1_addCode c G x y) k = G k := by
  unfold e_X1_addCode
  repeat' with_reducible first | apply ite_f | apply ite_f2 | apply ite_p | apply ite_p2
  all_goals first | (simp only [gs_ne (hk (c) (by simp)), gs_ne (hk (c + 10) (by simp)), gs_ne (hk (c + 11) (by simp))]; done) | rfl
theorem sp_X1_addCode {D : Nat → Bool} {d : Nat} {c : Nat} {G : mG} {x : Int} {y : Int} {Q : Option mV → mG → Prop} (hc : c = 40 ∨ c = 52) (hD : ∀ k, D k = false → inN [c, c + 10, c + 11] k = false) (h : Q none (e_X1_addCode c G x y)) : P2 D (d + 2) M_X1_addCode [mR (c + 5), mI x, mI y] G Q := by
  rcases hc with rfl | rfl
  · skip
    unfold e_X1_addCode at h
    try simp only [Nat.reduceAdd, Nat.reduceSub] at h
    refine MP.to (D2 := inN [40, 50, 51]) (Q2 := Q) ?_ hD (fun v G' q _ => q)
    refine (show P2 (inN [40, 50, 51]) (d + 2) M_X1_addCode [mR 45, mI x, mI y] G Q from ?_)
    refine p2_vc [48, 58, 73] 400 oo_X1 q_X1_addCode (by decide) rfl (Nat.le_of_ble_eq_true rfl) ?_
    refine ⟨fun (c1 : (G 40 13) < 0) => ?_, fun (c1 : 0 ≤ (G 40 13)) => ?_⟩
    · rw [if_pos c1] at h
      refine (show W2 o_X1 M_X1_addCode (inN [40, 50, 51]) (d + 2) Q 73 [some (mR 45), some (mI x), some (mI y)] [] G from ?_)
      refine w2_vc [48, 58, 73] 400 oo_X1 q_X1_addCode ?_
      exact h
    · rw [if_neg (Int.not_lt.mpr c1)] at h
      refine ⟨fun (c2 : ((600 : Nat) : Int) ≤ (G 40 13)) => ?_, fun (c2 : (G 40 13) < ((600 : Nat) : Int)) => ?_⟩
      · rw [if_pos c2] at h
        refine (show W2 o_X1 M_X1_addCode (inN [40, 50, 51]) (d + 2) Q 73 [some (mR 45), some (mI x), some (mI y)] [] G from ?_)
        refine w2_vc [48, 58, 73] 400 oo_X1 q_X1_addCode ?_
        exact h
      · rw [if_neg (Int.not_le.mpr c2)] at h
        refine sp_X1_hasClause (by decide) ?_
        have c4 := fa_X1_hasClause 40 G (w32 ((G 40 12) - 1))
        refine ⟨fun (c5 : (f_X1_hasClause 40 G (w32 ((G 40 12) - 1))) = 0) => ?_, fun (c5 : ¬ (f_X1_hasClause 40 G (w32 ((G 40 12) - 1))) = 0) => ?_⟩
        · rw [if_pos c5] at h
          refine (show W2 o_X1 M_X1_addCode (inN [40, 50, 51]) (d + 2) Q 73 [some (mR 45), some (mI x), some (mI y)] [] G from ?_)
          refine w2_vc [48, 58, 73] 400 oo_X1 q_X1_addCode ?_
          exact h
        · rw [if_neg (c5)] at h
          refine ⟨(show 0 ≤ (G 40 13) ∧ (G 40 13) < ((600 : Nat) : Int) from by first | omega | (simp (disch := omega) only [w32_i]; omega)), ?_⟩
          refine (show W2 o_X1 M_X1_addCode (inN [40, 50, 51]) (d + 2) Q 48 [some (mR 45), some (mI x), some (mI y)] [] (gs G 51 (Int.toNat (G 40 13)) (w32 ((w32 (x * 10000)) + y))) from ?_)
          refine w2_vc [48, 58, 73] 400 oo_X1 q_X1_addCode ?_
          refine (show W2 o_X1 M_X1_addCode (inN [40, 50, 51]) (d + 2) Q 58 [some (mR 45), some (mI x), some (mI y)] [] (gs (gs G 51 (Int.toNat (G 40 13)) (w32 ((w32 (x * 10000)) + y))) 40 13 (w32 ((G 40 13) + 1))) from ?_)
          refine w2_vc [48, 58, 73] 400 oo_X1 q_X1_addCode ?_
          refine ⟨(show 0 ≤ (w32 ((G 40 12) - 1)) ∧ (w32 ((G 40 12) - 1)) < ((40 : Nat) : Int) from by first | omega | (simp (disch := omega) only [w32_i]; omega)), ?_⟩
          refine (show W2 o_X1 M_X1_addCode (inN [40, 50, 51]) (d + 2) Q 73 [some (mR 45), some (mI x), some (mI y)] [] (gs (gs (gs G 51 (Int.toNat (G 40 13)) (w32 ((w32 (x * 10000)) + y))) 40 13 (w32 ((G 40 13) + 1))) 50 (Int.toNat (w32 ((G 40 12) - 1))) (w32 ((G 40 13) + 1))) from ?_)
          refine w2_vc [48, 58, 73] 400 oo_X1 q_X1_addCode ?_
          exact h
  · skip
    unfold e_X1_addCode at h
    try simp only [Nat.reduceAdd, Nat.reduceSub] at h
    refine MP.to (D2 := inN [52, 62, 63]) (Q2 := Q) ?_ hD (fun v G' q _ => q)
    refine (show P2 (inN [52, 62, 63]) (d + 2) M_X1_addCode [mR 57, mI x, mI y] G Q from ?_)
    refine p2_vc [48, 58, 73] 400 oo_X1 q_X1_addCode (by decide) rfl (Nat.le_of_ble_eq_true rfl) ?_
    refine ⟨fun (c1 : (G 52 13) < 0) => ?_, fun (c1 : 0 ≤ (G 52 13)) => ?_⟩
    · rw [if_pos c1] at h
      refine (show W2 o_X1 M_X1_addCode (inN [52, 62, 63]) (d + 2) Q 73 [some (mR 57), some (mI x), some (mI y)] [] G from ?_)
      refine w2_vc [48, 58, 73] 400 oo_X1 q_X1_addCode ?_
      exact h
    · rw [if_neg (Int.not_lt.mpr c1)] at h
      refine ⟨fun (c2 : ((600 : Nat) : Int) ≤ (G 52 13)) => ?_, fun (c2 : (G 52 13) < ((600 : Nat) : Int)) => ?_⟩
      · rw [if_pos c2] at h
        refine (show W2 o_X1 M_X1_addCode (inN [52, 62, 63]) (d + 2) Q 73 [some (mR 57), some (mI x), some (mI y)] [] G from ?_)
        refine w2_vc [48, 58, 73] 400 oo_X1 q_X1_addCode ?_
        exact h
      · rw [if_neg (Int.not_le.mpr c2)] at h
        refine sp_X1_hasClause (by decide) ?_
        have c4 := fa_X1_hasClause 52 G (w32 ((G 52 12) - 1))
        refine ⟨fun (c5 : (f_X1_hasClause 52 G (w32 ((G 52 12) - 1))) = 0) => ?_, fun (c5 : ¬ (f_X1_hasClause 52 G (w32 ((G 52 12) - 1))) = 0) => ?_⟩
        · rw [if_pos c5] at h
          refine (show W2 o_X1 M_X1_addCode (inN [52, 62, 63]) (d + 2) Q 73 [some (mR 57), some (mI x), some (mI y)] [] G from ?_)
          refine w2_vc [48, 58, 73] 400 oo_X1 q_X1_addCode ?_
          exact h
        · rw [if_neg (c5)] at h
          refine ⟨(show 0 ≤ (G 52 13) ∧ (G 52 13) < ((600 : Nat) : Int) from by first | omega | (simp (disch := omega) only [w32_i]; omega)), ?_⟩
          refine (show W2 o_X1 M_X1_addCode (inN [52, 62, 63]) (d + 2) Q 48 [some (mR 57), some (mI x), some (mI y)] [] (gs G 63 (Int.toNat (G 52 13)) (w32 ((w32 (x * 10000)) + y))) from ?_)
          refine w2_vc [48, 58, 73] 400 oo_X1 q_X1_addCode ?_
          refine (show W2 o_X1 M_X1_addCode (inN [52, 62, 63]) (d + 2) Q 58 [some (mR 57), some (mI x), some (mI y)] [] (gs (gs G 63 (Int.toNat (G 52 13)) (w32 ((w32 (x * 10000)) + y))) 52 13 (w32 ((G 52 13) + 1))) from ?_)
          refine w2_vc [48, 58, 73] 400 oo_X1 q_X1_addCode ?_
          refine ⟨(show 0 ≤ (w32 ((G 52 12) - 1)) ∧ (w32 ((G 52 12) - 1)) < ((40 : Nat) : Int) from by first | omega | (simp (disch := omega) only [w32_i]; omega)), ?_⟩
          refine (show W2 o_X1 M_X1_addCode (inN [52, 62, 63]) (d + 2) Q 73 [some (mR 57), some (mI x), some (mI y)] [] (gs (gs (gs G 63 (Int.toNat (G 52 13)) (w32 ((w32 (x * 10000)) + y))) 52 13 (w32 ((G 52 13) + 1))) 62 (Int.toNat (w32 ((G 52 12) - 1))) (w32 ((G 52 13) + 1))) from ?_)
          refine w2_vc [48, 58, 73] 400 oo_X1 q_X1_addCode ?_
          exact h
def e_X1_setApart (c : Nat) (G : mG) (x : Int) (y : Int) : mG := (if (f_X1_hasCampaign c G x) = 0 then G else (if (f_X1_hasCampaign c G y) = 0 then G else (gs (gs G (c + 3) (Int.toNat (w32 ((w32 (x * 8)) + y))) 1) (c + 3) (Int.toNat (w32 ((w32 (y * 8)) + x))) 1)))
theorem fr_X1_setApart {c : Nat} {G : mG} {x : Int} {y : Int} {k : Nat} (hk : ∀ a ∈ ([c + 3] : List Nat), k ≠ a) : (e_X1_setApart c G x y) k = G k := by
  unfold e_X1_setApart
  repeat' with_reducible first | apply ite_f | apply ite_f2 | apply ite_p | apply ite_p2
  all_goals first | (simp only [gs_ne (hk (c + 3) (by simp))]; done) | rfl
theorem sp_X1_setApart {D : Nat → Bool} {d : Nat} {c : Nat} {G : mG} {x : Int} {y : Int} {Q : Option mV → mG → Prop} (hc : c = 40 ∨ c = 52) (hD : ∀ k, D k = false → inN [c + 3] k = false) (h : Q none (e_X1_setApart c G x y)) : P2 D (d + 2) M_X1_setApart [mR (c + 5), mI x, mI y] G Q := by
  rcases hc with rfl | rfl
  · skip
    unfold e_X1_setApart at h
    try simp only [Nat.reduceAdd, Nat.reduceSub] at h
    refine MP.to (D2 := inN [43]) (Q2 := Q) ?_ hD (fun v G' q _ => q)
    refine (show P2 (inN [43]) (d + 2) M_X1_setApart [mR 45, mI x, mI y] G Q from ?_)
    refine p2_vc [28, 40] 400 oo_X1 q_X1_setApart (by decide) rfl (Nat.le_of_ble_eq_true rfl) ?_
    refine sp_X1_hasCampaign (by decide) ?_
    have c2 := fa_X1_hasCampaign 40 G x
    refine ⟨fun (c3 : (f_X1_hasCampaign 40 G x) = 0) => ?_, fun (c3 : ¬ (f_X1_hasCampaign 40 G x) = 0) => ?_⟩
    · rw [if_pos c3] at h
      refine (show W2 o_X1 M_X1_setApart (inN [43]) (d + 2) Q 40 [some (mR 45), some (mI x), some (mI y)] [] G from ?_)
      refine w2_vc [28, 40] 400 oo_X1 q_X1_setApart ?_
      exact h
    · rw [if_neg (c3)] at h
      refine sp_X1_hasCampaign (by decide) ?_
      have c5 := fa_X1_hasCampaign 40 G y
      refine ⟨fun (c6 : (f_X1_hasCampaign 40 G y) = 0) => ?_, fun (c6 : ¬ (f_X1_hasCampaign 40 G y) = 0) => ?_⟩
      · rw [if_pos c6] at h
        refine (show W2 o_X1 M_X1_setApart (inN [43]) (d + 2) Q 40 [some (mR 45), some (mI x), some (mI y)] [] G from ?_)
        refine w2_vc [28, 40] 400 oo_X1 q_X1_setApart ?_
        exact h
      · rw [if_neg (c6)] at h
        refine ⟨(show 0 ≤ (w32 ((w32 (x * 8)) + y)) ∧ (w32 ((w32 (x * 8)) + y)) < ((64 : Nat) : Int) from by first | omega | (simp (disch := omega) only [w32_i]; omega)), by omega, ?_⟩
        refine (show W2 o_X1 M_X1_setApart (inN [43]) (d + 2) Q 28 [some (mR 45), some (mI x), some (mI y)] [] (gs G 43 (Int.toNat (w32 ((w32 (x * 8)) + y))) 1) from ?_)
        refine w2_vc [28, 40] 400 oo_X1 q_X1_setApart ?_
        refine ⟨(show 0 ≤ (w32 ((w32 (y * 8)) + x)) ∧ (w32 ((w32 (y * 8)) + x)) < ((64 : Nat) : Int) from by first | omega | (simp (disch := omega) only [w32_i]; omega)), by omega, ?_⟩
        refine (show W2 o_X1 M_X1_setApart (inN [43]) (d + 2) Q 40 [some (mR 45), some (mI x), some (mI y)] [] (gs (gs G 43 (Int.toNat (w32 ((w32 (x * 8)) + y))) 1) 43 (Int.toNat (w32 ((w32 (y * 8)) + x))) 1) from ?_)
        refine w2_vc [28, 40] 400 oo_X1 q_X1_setApart ?_
        exact h
  · skip
    unfold e_X1_setApart at h
    try simp only [Nat.reduceAdd, Nat.reduceSub] at h
    refine MP.to (D2 := inN [55]) (Q2 := Q) ?_ hD (fun v G' q _ => q)
    refine (show P2 (inN [55]) (d + 2) M_X1_setApart [mR 57, mI x, mI y] G Q from ?_)
    refine p2_vc [28, 40] 400 oo_X1 q_X1_setApart (by decide) rfl (Nat.le_of_ble_eq_true rfl) ?_
    refine sp_X1_hasCampaign (by decide) ?_
    have c2 := fa_X1_hasCampaign 52 G x
    refine ⟨fun (c3 : (f_X1_hasCampaign 52 G x) = 0) => ?_, fun (c3 : ¬ (f_X1_hasCampaign 52 G x) = 0) => ?_⟩
    · rw [if_pos c3] at h
      refine (show W2 o_X1 M_X1_setApart (inN [55]) (d + 2) Q 40 [some (mR 57), some (mI x), some (mI y)] [] G from ?_)
      refine w2_vc [28, 40] 400 oo_X1 q_X1_setApart ?_
      exact h
    · rw [if_neg (c3)] at h
      refine sp_X1_hasCampaign (by decide) ?_
      have c5 := fa_X1_hasCampaign 52 G y
      refine ⟨fun (c6 : (f_X1_hasCampaign 52 G y) = 0) => ?_, fun (c6 : ¬ (f_X1_hasCampaign 52 G y) = 0) => ?_⟩
      · rw [if_pos c6] at h
        refine (show W2 o_X1 M_X1_setApart (inN [55]) (d + 2) Q 40 [some (mR 57), some (mI x), some (mI y)] [] G from ?_)
        refine w2_vc [28, 40] 400 oo_X1 q_X1_setApart ?_
        exact h
      · rw [if_neg (c6)] at h
        refine ⟨(show 0 ≤ (w32 ((w32 (x * 8)) + y)) ∧ (w32 ((w32 (x * 8)) + y)) < ((64 : Nat) : Int) from by first | omega | (simp (disch := omega) only [w32_i]; omega)), by omega, ?_⟩
        refine (show W2 o_X1 M_X1_setApart (inN [55]) (d + 2) Q 28 [some (mR 57), some (mI x), some (mI y)] [] (gs G 55 (Int.toNat (w32 ((w32 (x * 8)) + y))) 1) from ?_)
        refine w2_vc [28, 40] 400 oo_X1 q_X1_setApart ?_
        refine ⟨(show 0 ≤ (w32 ((w32 (y * 8)) + x)) ∧ (w32 ((w32 (y * 8)) + x)) < ((64 : Nat) : Int) from by first | omega | (simp (disch := omega) only [w32_i]; omega)), by omega, ?_⟩
        refine (show W2 o_X1 M_X1_setApart (inN [55]) (d + 2) Q 40 [some (mR 57), some (mI x), some (mI y)] [] (gs (gs G 55 (Int.toNat (w32 ((w32 (x * 8)) + y))) 1) 55 (Int.toNat (w32 ((w32 (y * 8)) + x))) 1) from ?_)
        refine w2_vc [28, 40] 400 oo_X1 q_X1_setApart ?_
        exact h
def g_X1_clear_17 (c : Nat) (G : mG) : Nat → mG → mG := fun j1 s1 => (gs s1 (c + 3) (Int.toNat ((j1 : Nat) : Int)) 0)
def e_X1_clear (c : Nat) (G : mG) : mG := (fd (g_X1_clear_17 c G) (gs (gs (gs G c 11 0) c 12 0) c 13 0) 64)
theorem fr_g_X1_clear_17 (c : Nat) (G : mG) {k : Nat} (hk : ∀ a ∈ ([c, c + 3] : List Nat), k ≠ a) (j : Nat) (s : mG) : (g_X1_clear_17 c G j s) k = s k := by
  unfold g_X1_clear_17
  repeat' with_reducible first | apply ite_f | apply ite_f2 | apply ite_p | apply ite_p2
  all_goals first | (simp only [gs_ne (hk (c) (by simp)), gs_ne (hk (c + 3) (by simp))]; done) | rfl
theorem frp_g_X1_clear_17_c (c : Nat) (G : mG) (hc : c = 40 ∨ c = 52) {i : Nat} (hj : ∀ a ∈ ([11, 12, 13] : List Nat), i ≠ a) (j : Nat) (s : mG) : (g_X1_clear_17 c G j s) c i = s c i := by
  unfold g_X1_clear_17
  repeat' with_reducible first | apply ite_f | apply ite_f2 | apply ite_p | apply ite_p2
  all_goals first | (simp only [gs_at_ne (hj 11 (by simp)), gs_at_ne (hj 12 (by simp)), gs_at_ne (hj 13 (by simp)), gs_ne (show (c) ≠ (c + 3) from by omega)]; done) | rfl
theorem frp_X1_clear_c {c : Nat} {G : mG} (hc : c = 40 ∨ c = 52) {i : Nat} (hj : ∀ a ∈ ([11, 12, 13] : List Nat), i ≠ a) : (e_X1_clear c G ) c i = G c i := by
  unfold e_X1_clear
  repeat' with_reducible first | apply ite_f | apply ite_f2 | apply ite_p | apply ite_p2
  all_goals first | (simp only [gs_at_ne (hj 11 (by simp)), gs_at_ne (hj 12 (by simp)), gs_at_ne (hj 13 (by simp)), gs_ne (show (c) ≠ (c + 3) from by omega), fd_frp (frp_g_X1_clear_17_c _ _ hc hj)]; done) | rfl
theorem fr_X1_clear {c : Nat} {G : mG} {k : Nat} (hk : ∀ a ∈ ([c, c + 3] : List Nat), k ≠ a) : (e_X1_clear c G ) k = G k := by
  unfold e_X1_clear
  repeat' with_reducible first | apply ite_f | apply ite_f2 | apply ite_p | apply ite_p2
  all_goals first | (simp only [gs_ne (hk (c) (by simp)), gs_ne (hk (c + 3) (by simp)), fd_fr (fr_g_X1_clear_17 _ _ hk)]; done) | rfl
theorem sp_X1_clear {D : Nat → Bool} {d : Nat} {c : Nat} {G : mG} {Q : Option mV → mG → Prop} (hc : c = 40 ∨ c = 52) (hD : ∀ k, D k = false → inN [c, c + 3] k = false) (h : Q none (e_X1_clear c G )) : P2 D (d + 1) M_X1_clear [mR (c + 5)] G Q := by
  rcases hc with rfl | rfl
  · skip
    unfold e_X1_clear at h
    try simp only [Nat.reduceAdd, Nat.reduceSub] at h
    refine MP.to (D2 := inN [40, 43]) (Q2 := Q) ?_ hD (fun v G' q _ => q)
    refine (show P2 (inN [40, 43]) (d + 1) M_X1_clear [mR 45] G Q from ?_)
    refine p2_vc [5, 10, 15, 17, 33] 400 oo_X1 q_X1_clear (by decide) rfl (Nat.le_of_ble_eq_true rfl) ?_
    refine (show W2 o_X1 M_X1_clear (inN [40, 43]) (d + 1) Q 5 [some (mR 45), none] [] (gs G 40 11 0) from ?_)
    refine w2_vc [5, 10, 15, 17, 33] 400 oo_X1 q_X1_clear ?_
    refine (show W2 o_X1 M_X1_clear (inN [40, 43]) (d + 1) Q 10 [some (mR 45), none] [] (gs (gs G 40 11 0) 40 12 0) from ?_)
    refine w2_vc [5, 10, 15, 17, 33] 400 oo_X1 q_X1_clear ?_
    refine (show W2 o_X1 M_X1_clear (inN [40, 43]) (d + 1) Q 15 [some (mR 45), none] [] (gs (gs (gs G 40 11 0) 40 12 0) 40 13 0) from ?_)
    refine w2_vc [5, 10, 15, 17, 33] 400 oo_X1 q_X1_clear ?_
    refine (show W2 o_X1 M_X1_clear (inN [40, 43]) (d + 1) Q 17 [some (mR 45), some (mI ((0 : Nat) : Int))] [] (gs (gs (gs G 40 11 0) 40 12 0) 40 13 0) from ?_)
    refine lup (g_X1_clear_17 40 G) (gs (gs (gs G 40 11 0) 40 12 0) 40 13 0) (fun j1 s1 => W2 o_X1 M_X1_clear (inN [40, 43]) (d + 1) Q 17 [some (mR 45), some (mI ((j1 : Nat) : Int))] [] s1) 64 (fun j1 s1 hj1 ih1 => ?_) ?_
    · have ih1 : W2 o_X1 M_X1_clear (inN [40, 43]) (d + 1) Q 17 [some (mR 45), some (mI ((j1 + 1 : Nat) : Int))] [] (g_X1_clear_17 40 G j1 s1) := ih1
      unfold g_X1_clear_17 at ih1
      try simp only [Nat.reduceAdd, Nat.reduceSub] at ih1
      refine w2_vc [5, 10, 15, 17, 33] 400 oo_X1 q_X1_clear ?_
      refine ⟨fun (c1 : ((64 : Nat) : Int) ≤ ((j1 : Nat) : Int)) => ?_, fun (c1 : ((j1 : Nat) : Int) < ((64 : Nat) : Int)) => ?_⟩
      · skip
        exfalso; first | omega | (rw [w32_i (by omega) (by omega)] at c1; omega) | (simp (disch := omega) only [w32_i] at *; omega)
      · skip
        refine ⟨(show 0 ≤ ((j1 : Nat) : Int) ∧ ((j1 : Nat) : Int) < ((64 : Nat) : Int) from by first | omega | (simp (disch := omega) only [w32_i]; omega)), by omega, ?_⟩
        refine (show W2 o_X1 M_X1_clear (inN [40, 43]) (d + 1) Q 33 [some (mR 45), some (mI ((j1 : Nat) : Int))] [] (gs s1 43 (Int.toNat ((j1 : Nat) : Int)) 0) from ?_)
        refine w2_vc [5, 10, 15, 17, 33] 400 oo_X1 q_X1_clear ?_
        refine (show W2 o_X1 M_X1_clear (inN [40, 43]) (d + 1) Q 17 [some (mR 45), some (mI (w32 (((j1 : Nat) : Int) + 1)))] [] (gs s1 43 (Int.toNat ((j1 : Nat) : Int)) 0) from ?_)
        rw [w32_nat (by omega)]
        exact ih1
    · skip
      refine (show W2 o_X1 M_X1_clear (inN [40, 43]) (d + 1) Q 17 [some (mR 45), some (mI ((64 : Nat) : Int))] [] (fd (g_X1_clear_17 40 G) (gs (gs (gs G 40 11 0) 40 12 0) 40 13 0) 64) from ?_)
      refine w2_vc [5, 10, 15, 17, 33] 400 oo_X1 q_X1_clear ?_
      refine ⟨fun (c2 : ((64 : Nat) : Int) ≤ ((64 : Nat) : Int)) => ?_, fun (c2 : ((64 : Nat) : Int) < ((64 : Nat) : Int)) => ?_⟩
      · skip
        exact h
      · skip
        exfalso; first | omega | (rw [w32_i (by omega) (by omega)] at c2; omega) | (simp (disch := omega) only [w32_i] at *; omega)
  · skip
    unfold e_X1_clear at h
    try simp only [Nat.reduceAdd, Nat.reduceSub] at h
    refine MP.to (D2 := inN [52, 55]) (Q2 := Q) ?_ hD (fun v G' q _ => q)
    refine (show P2 (inN [52, 55]) (d + 1) M_X1_clear [mR 57] G Q from ?_)
    refine p2_vc [5, 10, 15, 17, 33] 400 oo_X1 q_X1_clear (by decide) rfl (Nat.le_of_ble_eq_true rfl) ?_
    refine (show W2 o_X1 M_X1_clear (inN [52, 55]) (d + 1) Q 5 [some (mR 57), none] [] (gs G 52 11 0) from ?_)
    refine w2_vc [5, 10, 15, 17, 33] 400 oo_X1 q_X1_clear ?_
    refine (show W2 o_X1 M_X1_clear (inN [52, 55]) (d + 1) Q 10 [some (mR 57), none] [] (gs (gs G 52 11 0) 52 12 0) from ?_)
    refine w2_vc [5, 10, 15, 17, 33] 400 oo_X1 q_X1_clear ?_
    refine (show W2 o_X1 M_X1_clear (inN [52, 55]) (d + 1) Q 15 [some (mR 57), none] [] (gs (gs (gs G 52 11 0) 52 12 0) 52 13 0) from ?_)
    refine w2_vc [5, 10, 15, 17, 33] 400 oo_X1 q_X1_clear ?_
    refine (show W2 o_X1 M_X1_clear (inN [52, 55]) (d + 1) Q 17 [some (mR 57), some (mI ((0 : Nat) : Int))] [] (gs (gs (gs G 52 11 0) 52 12 0) 52 13 0) from ?_)
    refine lup (g_X1_clear_17 52 G) (gs (gs (gs G 52 11 0) 52 12 0) 52 13 0) (fun j1 s1 => W2 o_X1 M_X1_clear (inN [52, 55]) (d + 1) Q 17 [some (mR 57), some (mI ((j1 : Nat) : Int))] [] s1) 64 (fun j1 s1 hj1 ih1 => ?_) ?_
    · have ih1 : W2 o_X1 M_X1_clear (inN [52, 55]) (d + 1) Q 17 [some (mR 57), some (mI ((j1 + 1 : Nat) : Int))] [] (g_X1_clear_17 52 G j1 s1) := ih1
      unfold g_X1_clear_17 at ih1
      try simp only [Nat.reduceAdd, Nat.reduceSub] at ih1
      refine w2_vc [5, 10, 15, 17, 33] 400 oo_X1 q_X1_clear ?_
      refine ⟨fun (c1 : ((64 : Nat) : Int) ≤ ((j1 : Nat) : Int)) => ?_, fun (c1 : ((j1 : Nat) : Int) < ((64 : Nat) : Int)) => ?_⟩
      · skip
        exfalso; first | omega | (rw [w32_i (by omega) (by omega)] at c1; omega) | (simp (disch := omega) only [w32_i] at *; omega)
      · skip
        refine ⟨(show 0 ≤ ((j1 : Nat) : Int) ∧ ((j1 : Nat) : Int) < ((64 : Nat) : Int) from by first | omega | (simp (disch := omega) only [w32_i]; omega)), by omega, ?_⟩
        refine (show W2 o_X1 M_X1_clear (inN [52, 55]) (d + 1) Q 33 [some (mR 57), some (mI ((j1 : Nat) : Int))] [] (gs s1 55 (Int.toNat ((j1 : Nat) : Int)) 0) from ?_)
        refine w2_vc [5, 10, 15, 17, 33] 400 oo_X1 q_X1_clear ?_
        refine (show W2 o_X1 M_X1_clear (inN [52, 55]) (d + 1) Q 17 [some (mR 57), some (mI (w32 (((j1 : Nat) : Int) + 1)))] [] (gs s1 55 (Int.toNat ((j1 : Nat) : Int)) 0) from ?_)
        rw [w32_nat (by omega)]
        exact ih1
    · skip
      refine (show W2 o_X1 M_X1_clear (inN [52, 55]) (d + 1) Q 17 [some (mR 57), some (mI ((64 : Nat) : Int))] [] (fd (g_X1_clear_17 52 G) (gs (gs (gs G 52 11 0) 52 12 0) 52 13 0) 64) from ?_)
      refine w2_vc [5, 10, 15, 17, 33] 400 oo_X1 q_X1_clear ?_
      refine ⟨fun (c2 : ((64 : Nat) : Int) ≤ ((64 : Nat) : Int)) => ?_, fun (c2 : ((64 : Nat) : Int) < ((64 : Nat) : Int)) => ?_⟩
      · skip
        exact h
      · skip
        exfalso; first | omega | (rw [w32_i (by omega) (by omega)] at c2; omega) | (simp (disch := omega) only [w32_i] at *; omega)
