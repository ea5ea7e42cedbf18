/-! ===== behind the constructors: methods over the cells ===== -/
abbrev P2 (D : Nat → Bool) (d : Nat) (M : mM) (as : List mV) (G : mG) (Q : Option mV → mG → Prop) : Prop := MP D d 0 0 true NC NC M as G Q
abbrev W2 (o : mO) (M : mM) (D : Nat → Bool) (d : Nat) (Q : Option mV → mG → Prop) (pc : Nat) (L : List (Option mV)) (S : List mV) (G : mG) : Prop := WP o M D d 0 0 true NC Q NC 0 0 pc L S G
/-- a method's walk from its start -/
theorem p2_vc {o : mO} {M : mM} {code : mCd} {D : Nat → Bool} {d : Nat} {as : List mV} {G : mG} {Q : Option mV → mG → Prop} (cuts : List Nat) (f : Nat) (hO : okO o) (hq : Cert M code) (hpl : plainName M.1.cls = true) (ho : o.1 = M.1.cls) (hn : (iniL as).length ≤ M.2.2.1)
    (h : vc o M D d 0 0 true false NC Q code cuts f false NC 0 0 0 (iniP as M.2.2.1) [] G) : P2 D (d + 1) M as G Q :=
  mp_of_wp hpl ho hn (vc_sound hO (fun h => by cases h) hq f false NC 0 0 0 _ _ _ h)
/-- a walk from a place where it was cut -/
theorem w2_vc {o : mO} {M : mM} {code : mCd} {D : Nat → Bool} {d pc : Nat} {L : List (Option mV)} {S : List mV} {G : mG} {Q : Option mV → mG → Prop} (cuts : List Nat) (f : Nat) (hO : okO o) (hq : Cert M code)
    (h : vc o M D d 0 0 true false NC Q code cuts f false NC 0 0 pc L S G) : W2 o M D (d + 1) Q pc L S G :=
  vc_sound hO (fun h => by cases h) hq f false NC 0 0 pc _ _ _ h
theorem sp_Tape_length {D : Nat → Bool} {d : Nat} {G : mG} {Q : Option mV → mG → Prop} (h : Q (some (mI (G 13 1))) G) : P2 D (d + 1) M_X9_length [mR 18] G Q :=
  p2_vc [] 10 oo_X9 q_X9_length (by decide) rfl (Nat.le_of_ble_eq_true rfl) h
theorem sp_Tape_hasRoomFor {D : Nat → Bool} {d : Nat} {G : mG} {x : Int} {Q : Option mV → mG → Prop} (h : Q (some (mI (if x ≤ w32 (3000 - G 13 1) then 1 else 0))) G) : P2 D (d + 1) M_X9_hasRoomFor [mR 18, mI x] G Q := by
  refine p2_vc [] 20 oo_X9 q_X9_hasRoomFor (by decide) rfl (Nat.le_of_ble_eq_true rfl) ?_
  refine ⟨fun c => ?_, fun c => ?_⟩
  · have c : w32 (3000 - G 13 1) < x := c
    rw [if_neg (by omega)] at h
    exact ⟨Or.inl rfl, h⟩
  · have c : x ≤ w32 (3000 - G 13 1) := c
    rw [if_pos c] at h
    exact ⟨Or.inr rfl, h⟩
theorem sp_Tape_clear {D : Nat → Bool} {d : Nat} {G : mG} {Q : Option mV → mG → Prop} (hD : D 13 = true) (h : Q none (gs G 13 1 0)) : P2 D (d + 1) M_X9_clear [mR 18] G Q := by
  refine p2_vc [] 10 oo_X9 q_X9_clear (by decide) rfl (Nat.le_of_ble_eq_true rfl) ?_
  show bif D 13 && _ then _ else False
  rw [hD]
  exact h
/-- the byte at a place of the tape, as the class sees it -/
def tpAt (G : mG) (i : Int) : Int := if 0 ≤ i ∧ i < G 13 1 ∧ i < 3000 then mAnd (G 14 i.toNat) 255 else -1
theorem sp_Tape_byteAt {D : Nat → Bool} {d : Nat} {G : mG} {i : Int} {Q : Option mV → mG → Prop} (h : Q (some (mI (tpAt G i))) G) : P2 D (d + 1) M_X9_byteAt [mR 18, mI i] G Q := by
  unfold tpAt at h
  refine p2_vc [] 30 oo_X9 q_X9_byteAt (by decide) rfl (Nat.le_of_ble_eq_true rfl) ?_
  refine ⟨fun (c1 : i < 0) => ?_, fun (c1 : 0 ≤ i) => ⟨fun (c2 : G 13 1 ≤ i) => ?_, fun (c2 : i < G 13 1) => ⟨fun (c3 : ((3000 : Nat) : Int) ≤ i) => ?_, fun (c3 : i < ((3000 : Nat) : Int)) => ⟨⟨c1, c3⟩, ?_⟩⟩⟩⟩
  · rw [if_neg (by omega)] at h; exact h
  · rw [if_neg (by omega)] at h; exact h
  · rw [if_neg (by omega)] at h; exact h
  · rw [if_pos ⟨c1, c2, c3⟩] at h; exact h
