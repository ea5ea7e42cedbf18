/-! ===== the class weighs a condition: a list for its stack ===== -/
def ckd (K : Nat → Int) (p : Nat) : Int := mDiv (K p) 10000
def cnm (K : Nat → Int) (p : Nat) : Int := mRem (K p) 10000
def cva (E : Nat → Int) (x y : Int) : Int := if x = 3 then y else (if x = 27 then mAnd (mUshr (E 4) y) 1 else (if x = 28 then E 1 else (if x = 29 then E 2 else (if x = 30 then E 3 else (if x = 31 then E 5 else (if x = 32 then E 6 else (if x = 33 then E 7 else 0)))))))
def crk (x : Int) : Int := f_X6_rankOf (fun _ _ => 0) x
def cco (x y z : Int) : Int := f_X5_combine (fun _ _ => 0) x y z
theorem cva_eq (G : mG) (x y : Int) : f_X5_valueOf G x y = cva (G 24) x y := rfl
theorem crk_eq (G : mG) (x : Int) : f_X6_rankOf G x = crk x := rfl
theorem cco_eq (G : mG) (x y z : Int) : f_X5_combine G x y z = cco x y z := rfl
def st1C (kd v : Int) (S : List Int) : List Int :=
  if crk kd = 0 then (if S.length < 35 then v :: S else S)
  else match S with
    | r :: l :: T => if T.length < 34 then cco kd l r :: T else r :: l :: T
    | T => T
def stC (E K : Nat → Int) (p : Nat) (S : List Int) : List Int := st1C (ckd K p) (cva E (ckd K p) (cnm K p)) S
def rnC (E K : Nat → Int) (p : Nat) : Nat → List Int
  | 0 => []
  | n + 1 => stC E K (p + n) (rnC E K p n)
def bot : List Int → Int
  | [] => 0
  | [v] => v
  | _ :: w :: S => bot (w :: S)
theorem pl_bot {S : List Int} {r : Nat → Int} (h : pl S r) (hS : 0 < S.length) : r 0 = bot S := by
  induction S with
  | nil => simp at hS
  | cons v S ih =>
    cases S with
    | nil => exact h.1
    | cons w S => exact ih h.2 (by simp)
def hC (E K : Nat → Int) (p n : Nat) : Bool := !(decide (bot (rnC E K p n) = 0))
theorem b01_not (p : Prop) [Decidable p] : b01 (!(decide p)) = if p then 0 else 1 := by
  by_cases h : p
  · rw [if_pos h]; simp [b01, h]
  · rw [if_neg h]; simp [b01, h]
theorem st1C_s {G : mG} {s : Int × mG} {S : List Int} {kd v : Int} (i1 : s.1 = (S.length : Int)) (i2 : S.length ≤ 35) (i3 : pl S (s.2 25)) (i4 : ∀ k, k ≠ 25 → s.2 k = G k) {z : Int × mG}
    (hz : z = (if ¬ crk kd = 0 then (if s.1 < 2 then (s.1, s.2) else (if ((35 : Nat) : Int) < s.1 then (s.1, s.2) else (w32 (s.1 + (-1)), gs s.2 25 (Int.toNat (w32 (s.1 - 2))) (cco kd (s.2 25 (Int.toNat (w32 (s.1 - 2)))) (s.2 25 (Int.toNat (w32 (s.1 - 1)))))))) else (if s.1 < 0 then (s.1, s.2) else (if ((35 : Nat) : Int) ≤ s.1 then (s.1, s.2) else (w32 (s.1 + 1), gs s.2 25 (Int.toNat s.1) v))))) :
    z.1 = ((st1C kd v S).length : Int) ∧ (st1C kd v S).length ≤ 35 ∧ pl (st1C kd v S) (z.2 25) ∧ ∀ k, k ≠ 25 → z.2 k = G k := by
  subst hz
  unfold st1C
  by_cases hr : crk kd = 0
  · rw [if_neg (fun q => q hr), if_pos hr, if_neg (by omega)]
    by_cases h35 : S.length < 35
    · rw [if_neg (by omega), if_pos h35]
      refine ⟨?_, by simp; omega, ?_, fun k hk => ?_⟩
      · show w32 (s.1 + 1) = _
        rw [w32_i (by omega) (by omega), i1]; simp
      · show gs s.2 25 (Int.toNat s.1) v 25 S.length = v ∧ pl S (gs s.2 25 (Int.toNat s.1) v 25)
        rw [i1, st_nat]
        exact ⟨gs_at _ _ _ _, pl_set i3 (Nat.le_refl _)⟩
      · show gs s.2 25 (Int.toNat s.1) v k = G k
        rw [gs_ne hk]; exact i4 k hk
    · rw [if_pos (by omega), if_neg h35]
      exact ⟨i1, i2, i3, i4⟩
  · rw [if_pos hr, if_neg hr]
    match S, i1, i2, i3 with
    | [], i1, i2, i3 => rw [if_pos (by simp at i1; omega)]; exact ⟨i1, i2, i3, i4⟩
    | [a], i1, i2, i3 => rw [if_pos (by simp at i1; omega)]; exact ⟨i1, i2, i3, i4⟩
    | r :: l :: T, i1, i2, i3 =>
      have hl : ((r :: l :: T).length : Int) = (T.length : Int) + 2 := by simp; omega
      have hT : T.length < 34 := by simp at i2; omega
      rw [hl] at i1
      rw [if_neg (by omega), if_neg (by simp at i2; omega)]
      have q2 : w32 (s.1 - 2) = (T.length : Int) := by rw [w32_i (by omega) (by omega)]; omega
      have q1 : w32 (s.1 - 1) = ((l :: T).length : Int) := by rw [w32_i (by omega) (by omega)]; simp; omega
      rw [q2, q1, st_nat, st_nat, i3.1, i3.2.1]
      simp only [if_pos hT]
      refine ⟨?_, by simp; omega, ?_, fun k hk => ?_⟩
      · show w32 (s.1 + (-1)) = _
        rw [w32_i (by omega) (by omega), i1]; simp; omega
      · show gs s.2 25 T.length (cco kd l r) 25 T.length = cco kd l r ∧ pl T (gs s.2 25 T.length (cco kd l r) 25)
        exact ⟨gs_at _ _ _ _, pl_set i3.2.2 (Nat.le_refl _)⟩
      · show gs s.2 25 T.length (cco kd l r) k = G k
        rw [gs_ne hk]; exact i4 k hk
theorem holds_eq {c : Nat} {G : mG} {x : Int} (hc : c = 40 ∨ c = 52) (hB : cB c G) : (r_X5_holds c G x).1 = b01 (hC (G 24) (G (c + 11)) (f_X1_codeStartOf c G x).toNat (f_X1_codeEndOf c G x - f_X1_codeStartOf c G x).toNat) := by
  obtain ⟨h1, h2, h3⟩ := hB x
  have key := fd_inv (g := g_X5_holds_16 c G x) (a := ((0 : Int), G)) (n := (f_X1_codeEndOf c G x - f_X1_codeStartOf c G x).toNat) (fun j s => s.1 = ((rnC (G 24) (G (c + 11)) (f_X1_codeStartOf c G x).toNat j).length : Int) ∧ (rnC (G 24) (G (c + 11)) (f_X1_codeStartOf c G x).toNat j).length ≤ 35 ∧ pl (rnC (G 24) (G (c + 11)) (f_X1_codeStartOf c G x).toNat j) (s.2 25) ∧ ∀ k, k ≠ 25 → s.2 k = G k)
    ⟨rfl, by simp [rnC], trivial, fun _ _ => rfl⟩
    (by
      intro j s hj hI
      obtain ⟨i1, i2, i3, i4⟩ := hI
      have hp : f_X1_codeStartOf c G x + (j : Int) = (((f_X1_codeStartOf c G x).toNat + j : Nat) : Int) := by omega
      have e24 : s.2 24 = G 24 := i4 24 (by decide)
      have e11 : s.2 (c + 11) = G (c + 11) := i4 _ (by omega)
      have hkd : f_X1_codeKindAt c s.2 (f_X1_codeStartOf c G x + (j : Int)) = ckd (G (c + 11)) ((f_X1_codeStartOf c G x).toNat + j) := by
        unfold f_X1_codeKindAt ckd
        rw [if_neg (by omega), if_neg (by omega), hp, st_nat, e11]
      have hnm : f_X1_codeNumberAt c s.2 (f_X1_codeStartOf c G x + (j : Int)) = cnm (G (c + 11)) ((f_X1_codeStartOf c G x).toNat + j) := by
        unfold f_X1_codeNumberAt cnm
        rw [if_neg (by omega), if_neg (by omega), hp, st_nat, e11]
      refine st1C_s (kd := ckd (G (c + 11)) ((f_X1_codeStartOf c G x).toNat + j)) (v := cva (G 24) (ckd (G (c + 11)) ((f_X1_codeStartOf c G x).toNat + j)) (cnm (G (c + 11)) ((f_X1_codeStartOf c G x).toNat + j))) i1 i2 i3 i4 ?_
      unfold g_X5_holds_16
      rw [hkd, hnm, crk_eq, cva_eq, e24]
      rfl)
  obtain ⟨k1, k2, k3, k4⟩ := key
  unfold r_X5_holds hC
  generalize fd (g_X5_holds_16 c G x) (0, G) (f_X1_codeEndOf c G x - f_X1_codeStartOf c G x).toNat = s at *
  generalize rnC (G 24) (G (c + 11)) (f_X1_codeStartOf c G x).toNat (f_X1_codeEndOf c G x - f_X1_codeStartOf c G x).toNat = S at *
  rw [b01_not]
  by_cases h0 : s.1 ≤ 0
  · rw [if_pos h0]
    have hS : S = [] := by
      cases S with
      | nil => rfl
      | cons a S => simp at k1; omega
    rw [hS, if_pos (show bot [] = 0 from rfl)]
  · rw [if_neg h0]
    have e := pl_bot k3 (by omega)
    rw [show Int.toNat 0 = 0 from rfl, e]
    by_cases hb : bot S = 0
    · rw [if_pos hb, if_pos hb]
    · rw [if_neg hb, if_neg hb]
/-- whether clause j holds of the board and the course that the judge regards -/
def hCl (c : Nat) (G : mG) (j : Nat) : Bool := hC (G 24) (G (c + 11)) (f_X1_codeStartOf c G (j : Int)).toNat (f_X1_codeEndOf c G (j : Int) - f_X1_codeStartOf c G (j : Int)).toNat
theorem hCl_to {c : Nat} {G H : mG} {j : Nat} (h0 : H c = G c) (h9 : H (c + 9) = G (c + 9)) (h10 : H (c + 10) = G (c + 10)) (h11 : H (c + 11) = G (c + 11)) (h24 : H 24 = G 24) : hCl c H j = hCl c G j := by
  unfold hCl f_X1_codeStartOf f_X1_codeEndOf f_X1_hasClause
  rw [h0, h9, h10, h11, h24]
theorem fh_eq {c : Nat} {G : mG} {kd cm : Int} (hc : c = 40 ∨ c = 52) (hB : cB c G) : (r_X5_firstHolding c G kd cm).1 = fs (fun j => decide (f_X1_kindOf c G (j : Int) = kd) && (decide (f_X1_ownerOf c G (j : Int) = cm) && hCl c G j)) (G c 12).toNat := by
  have key : ∀ m, (∀ s, fe (g_X5_firstHolding_3 c G kd cm) G m = Sum.inl s → (∀ k, k ≠ 25 → s k = G k) ∧ ∀ i, i < m → (decide (f_X1_kindOf c G (i : Int) = kd) && (decide (f_X1_ownerOf c G (i : Int) = cm) && hCl c G i)) = false) ∧
      (∀ r : Int × mG, fe (g_X5_firstHolding_3 c G kd cm) G m = Sum.inr r → ∃ i, i < m ∧ r.1 = (i : Int) ∧ (decide (f_X1_kindOf c G (i : Int) = kd) && (decide (f_X1_ownerOf c G (i : Int) = cm) && hCl c G i)) = true ∧ ∀ q, q < i → (decide (f_X1_kindOf c G (q : Int) = kd) && (decide (f_X1_ownerOf c G (q : Int) = cm) && hCl c G q)) = false) := by
    intro m
    induction m with
    | zero => exact ⟨fun s h => by cases h; exact ⟨fun _ _ => rfl, fun i hi => absurd hi (by omega)⟩, fun r h => by cases h⟩
    | succ m ih =>
      rw [fe_s]
      cases he : fe (g_X5_firstHolding_3 c G kd cm) G m with
      | inr r0 =>
        refine ⟨fun s h => (by cases h), fun r h => ?_⟩
        cases h
        obtain ⟨i, h1, h2⟩ := ih.2 r0 he
        exact ⟨i, by omega, h2⟩
      | inl s0 =>
        obtain ⟨a1, a2⟩ := ih.1 s0 he
        have e0 : s0 c = G c := a1 c (by omega)
        have e4 : s0 (c + 4) = G (c + 4) := a1 _ (by omega)
        have e5 : s0 (c + 5) = G (c + 5) := a1 _ (by omega)
        have e9 : s0 (c + 9) = G (c + 9) := a1 _ (by omega)
        have e10 : s0 (c + 10) = G (c + 10) := a1 _ (by omega)
        have e11 : s0 (c + 11) = G (c + 11) := a1 _ (by omega)
        have hk : f_X1_kindOf c s0 (m : Int) = f_X1_kindOf c G (m : Int) := by unfold f_X1_kindOf f_X1_hasClause; rw [e0, e4]
        have ho : f_X1_ownerOf c s0 (m : Int) = f_X1_ownerOf c G (m : Int) := f_own_to e0 e5 _
        have hh : (r_X5_holds c s0 (m : Int)).1 = b01 (hCl c G m) := by
          rw [holds_eq hc (cB_to hB e0 e9 e10)]
          show b01 (hCl c s0 m) = _
          rw [hCl_to e0 e9 e10 e11 (a1 24 (by decide))]
        have hfr : ∀ k, k ≠ 25 → (r_X5_holds c s0 (m : Int)).2 k = G k := fun k hk => by
          rw [fr_X5_holds (fun a ha => by simp only [List.mem_cons, List.not_mem_nil, or_false] at ha; omega)]
          exact a1 k hk
        have no : ∀ s1 : mG, (∀ k, k ≠ 25 → s1 k = G k) → (decide (f_X1_kindOf c G (m : Int) = kd) && (decide (f_X1_ownerOf c G (m : Int) = cm) && hCl c G m)) = false → (∀ s, (Sum.inl s1 : mG ⊕ (Int × mG)) = Sum.inl s → (∀ k, k ≠ 25 → s k = G k) ∧ ∀ i, i < m + 1 → (decide (f_X1_kindOf c G (i : Int) = kd) && (decide (f_X1_ownerOf c G (i : Int) = cm) && hCl c G i)) = false) := by
          intro s1 h1 h2 s hs
          cases hs
          refine ⟨h1, fun i hi => ?_⟩
          by_cases him : i = m
          · rw [him]; exact h2
          · exact a2 i (by omega)
        show (∀ s, g_X5_firstHolding_3 c G kd cm m s0 = Sum.inl s → _) ∧ (∀ r : Int × mG, g_X5_firstHolding_3 c G kd cm m s0 = Sum.inr r → _)
        unfold g_X5_firstHolding_3
        rw [hk, ho, hh]
        by_cases c1 : f_X1_kindOf c G (m : Int) = kd
        · rw [if_neg (fun q => q c1)]
          by_cases c2 : f_X1_ownerOf c G (m : Int) = cm
          · rw [if_neg (fun q => q c2)]
            cases c3 : hCl c G m with
            | false =>
              rw [if_pos (show b01 false = 0 from rfl)]
              exact ⟨no _ hfr (by simp [c3]), fun r h => by cases h⟩
            | true =>
              rw [if_neg (show ¬ b01 true = 0 by decide)]
              refine ⟨fun s h => (by cases h), fun r h => ?_⟩
              cases h
              exact ⟨m, by omega, rfl, by simp [c1, c2, c3], a2⟩
          · rw [if_pos c2]
            exact ⟨no _ a1 (by simp [c2]), fun r h => by cases h⟩
        · rw [if_pos c1]
          exact ⟨no _ a1 (by simp [c1]), fun r h => by cases h⟩
  unfold r_X5_firstHolding
  cases he : fe (g_X5_firstHolding_3 c G kd cm) G (G c 12).toNat with
  | inl s => exact (fs_no ((key _).1 s he).2).symm
  | inr r =>
    obtain ⟨i, h1, h2, h3, h4⟩ := (key _).2 r he
    show r.1 = _
    rw [h2]
    exact (fs_at h4 h3 h1).symm
