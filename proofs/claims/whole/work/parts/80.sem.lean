/-! ===== the class runs what the reference weighs ===== -/
def rnF (E K : Nat → Int) (p : Nat) : Nat → List Int → List Int
  | 0, T => T
  | n + 1, T => stC E K (p + n) (rnF E K p n T)
section SEM
variable {E K K' cd ci va : Nat → Int} {p q n a : Nat} {T T0 : List Int} {x y v : Int}
theorem rnC_F (b : Nat) : rnC E K p (a + b) = rnF E K (p + a) b (rnC E K p a) := by
  induction b with
  | zero => rfl
  | succ b ih =>
    show stC E K (p + (a + b)) (rnC E K p (a + b)) = stC E K (p + a + b) (rnF E K (p + a) b (rnC E K p a))
    rw [ih, Nat.add_assoc]
theorem stC_congr (h : K' p = K p) : stC E K' p T = stC E K p T := by
  unfold stC ckd cnm
  rw [h]
theorem rnC_congr (h : ∀ i, i < n → K' (p + i) = K (p + i)) : rnC E K' p n = rnC E K p n := by
  induction n with
  | zero => rfl
  | succ n ih =>
    show stC E K' (p + n) (rnC E K' p n) = stC E K (p + n) (rnC E K p n)
    rw [ih (fun i hi => h i (by omega)), stC_congr (h n (by omega))]
theorem dv (h : 0 ≤ x ∧ x < 1000000) : mDiv x 10000 = x / 10000 ∧ mRem x 10000 = x % 10000 := by
  have e : mDiv x 10000 = x / 10000 := by
    unfold mDiv
    rw [Int.tdiv_eq_ediv_of_nonneg h.1, w32_i (by omega) (by omega)]
  refine ⟨e, ?_⟩
  unfold mRem
  rw [e, w32_i (by omega) (by omega)]
  omega
theorem st1_push (h : crk x = 0) (hT : T.length < 35) : st1C x v T = v :: T := by
  unfold st1C
  rw [if_pos h, if_pos hT]
theorem st1_op {l r : Int} (h : ¬ crk x = 0) (hT : T.length < 34) : st1C x v (r :: l :: T) = cco x l r :: T := by
  unfold st1C
  rw [if_neg h]
  show (if T.length < 34 then cco x l r :: T else r :: l :: T) = _
  rw [if_pos hT]
/-- the judge's values are the reference's -/
def eV (E va : Nat → Int) : Prop := E 1 = va 0 ∧ E 2 = va 1 ∧ E 3 = va 2 ∧ E 5 = va 3 ∧ E 6 = va 4 ∧ E 7 = va 5
theorem crk_0 (h : x = 3 ∨ x = 27 ∨ (28 ≤ x ∧ x ≤ 33)) : crk x = 0 := by
  rw [crk_v, if_neg (by omega), if_neg (by omega), if_neg (by omega), if_neg (by omega), if_neg (by omega)]
theorem cva_var {i : Int} (he : eV E va) (hi : 0 ≤ i ∧ i < 6) : cva E (28 + i) 0 = va i.toNat := by
  obtain ⟨e1, e2, e3, e4, e5, e6⟩ := he
  have hh : i = 0 ∨ i = 1 ∨ i = 2 ∨ i = 3 ∨ i = 4 ∨ i = 5 := by omega
  unfold cva
  rcases hh with e | e | e | e | e | e <;> subst e
  · rw [if_neg (by decide), if_neg (by decide), if_pos (by decide)]; exact e1
  · rw [if_neg (by decide), if_neg (by decide), if_neg (by decide), if_pos (by decide)]; exact e2
  · rw [if_neg (by decide), if_neg (by decide), if_neg (by decide), if_neg (by decide), if_pos (by decide)]; exact e3
  · rw [if_neg (by decide), if_neg (by decide), if_neg (by decide), if_neg (by decide), if_neg (by decide), if_pos (by decide)]; exact e4
  · rw [if_neg (by decide), if_neg (by decide), if_neg (by decide), if_neg (by decide), if_neg (by decide), if_neg (by decide), if_pos (by decide)]; exact e5
  · rw [if_neg (by decide), if_neg (by decide), if_neg (by decide), if_neg (by decide), if_neg (by decide), if_neg (by decide), if_neg (by decide), if_pos (by decide)]; exact e6
/-- one word on both sides -/
theorem stC_seg (he : eV E va) (hk : K p = cmE (cd q) (ci q)) (hok : okE (cd q) (ci q)) {U : List Int} (hU : sgR cd ci va q T = some U) (hT : T.length ≤ 20) (h0 : T0.length ≤ 4) : stC E K p (T ++ T0) = U ++ T0 := by
  unfold stC ckd cnm
  rcases hok with ⟨o1, o2, o3⟩ | ⟨o1, o2, o3⟩ | ⟨o1, o2, o3⟩
  · have ek : K p = 30000 + ci q := by rw [hk]; unfold cmE; rw [if_pos o1]
    obtain ⟨d1, d2⟩ := dv (x := K p) (by omega)
    rw [sgR_num o1] at hU
    cases hU
    rw [d1, d2, show K p / 10000 = 3 from by omega, show K p % 10000 = ci q from by omega, st1_push (crk_0 (by decide)) (by simp; omega)]
    show cva E 3 (ci q) :: (T ++ T0) = ci q :: T ++ T0
    unfold cva
    rw [if_pos rfl]
    rfl
  · have ek : K p = 280000 + 10000 * ci q := by rw [hk]; unfold cmE; rw [if_neg (by omega), if_pos o1]
    obtain ⟨d1, d2⟩ := dv (x := K p) (by omega)
    rw [sgR_var o1 ⟨o2, o3⟩] at hU
    cases hU
    rw [d1, d2, show K p / 10000 = 28 + ci q from by omega, show K p % 10000 = 0 from by omega, st1_push (crk_0 (by omega)) (by simp; omega), cva_var he ⟨o2, o3⟩]
    rfl
  · have ek : K p = (cd q + 5) * 10000 := by rw [hk]; unfold cmE; rw [if_neg (by omega), if_neg (by omega)]
    obtain ⟨d1, d2⟩ := dv (x := K p) (by omega)
    unfold sgR at hU
    rw [if_neg (by omega)] at hU
    match T, hT, hU with
    | b :: a :: T', hT, hU =>
      cases hU
      have hc : crk (cd q + 5) = 4 ∨ crk (cd q + 5) = 5 := by
        have hh : cd q = 2 ∨ cd q = 3 ∨ cd q = 4 := by omega
        rcases hh with e | e | e <;> rw [e]
        · exact Or.inl (by decide)
        · exact Or.inl (by decide)
        · exact Or.inr (by decide)
      rw [d1, show K p / 10000 = cd q + 5 from by omega]
      show st1C (cd q + 5) _ (b :: a :: (T' ++ T0)) = _ :: (T' ++ T0)
      rw [st1_op (by omega) (by have : T'.length + 2 ≤ 20 := hT; simp; omega)]
      have ecc : cco (cd q + 5) a b = if cd q = 2 then w32 (a + b) else if cd q = 3 then w32 (a - b) else w32 (a * b) := by
        have hh : cd q = 2 ∨ cd q = 3 ∨ cd q = 4 := by omega
        rcases hh with e | e | e <;> rw [e] <;> rfl
      rw [ecc]
theorem rnF_seg (he : eV E va) (h : ∀ i, i < n → K (p + i) = cmE (cd (q + i)) (ci (q + i)) ∧ okE (cd (q + i)) (ci (q + i))) (hp : ∀ i, i ≤ n → ∃ T, rnR cd ci va q i = some T ∧ T.length ≤ 20) (h0 : T0.length ≤ 4) : ∀ T, rnR cd ci va q n = some T → rnF E K p n T0 = T ++ T0 := by
  induction n with
  | zero =>
    intro T hT
    cases hT
    rfl
  | succ n ih =>
    intro U hU
    obtain ⟨T, t1, t2⟩ := hp n (by omega)
    have ih2 := ih (fun i hi => h i (by omega)) (fun i hi => hp i (by omega)) T t1
    have e2 : rnR cd ci va q (n + 1) = (match rnR cd ci va q n with | some S => sgR cd ci va (q + n) S | none => none) := rfl
    rw [e2, t1] at hU
    have hU2 : sgR cd ci va (q + n) T = some U := hU
    show stC E K (p + n) (rnF E K p n T0) = U ++ T0
    rw [ih2]
    exact stC_seg he (h n (by omega)).1 (h n (by omega)).2 hU2 t2 h0
/-- what waits at a level's foot comes out -/
def opz (x : Int) (w : Nat → Int) : Nat → List Int → Nat × List Int
  | 0, T => (0, T)
  | j + 1, T => if x ≤ crk (w j) then opz x w j (st1C (w j) 0 T) else (j + 1, T)
theorem opz_s {w : Nat → Int} {j : Nat} : opz x w (j + 1) T = if x ≤ crk (w j) then opz x w j (st1C (w j) 0 T) else (j + 1, T) := rfl
theorem st1_any (h : ¬ crk x = 0) : st1C x v T = st1C x 0 T := by
  unfold st1C
  rw [if_neg h, if_neg h]
end SEM
theorem opz_n {x : Int} {w : Nat → Int} (n : Nat) : ∀ T T' : List Int, (opz x w n T).1 = (opz x w n T').1 := by
  induction n with
  | zero => exact fun _ _ => rfl
  | succ n ih =>
    intro T T'
    rw [opz_s, opz_s]
    by_cases y : x ≤ crk (w n)
    · rw [if_pos y, if_pos y]; exact ih _ _
    · rw [if_neg y, if_neg y]
/-- a clause in the making: its words from P0 to P, w signs waiting -/
def CS0 (c k P0 P w : Nat) (s : mG) : Prop := s c 12 = ((k + 1 : Nat) : Int) ∧ s c 13 = (P : Int) ∧ s (c + 10) k = (P : Int) ∧ s 15 5 = (w : Int) ∧ P0 ≤ P
section OPZ
variable {c k P0 : Nat} {x : Int}
theorem rl_opz (hc : c = 40 ∨ c = 52) (hk : k < 40) (hx : 1 ≤ x) : ∀ (w P : Nat) (s : mG), CS0 c k P0 P w s → P + w ≤ 600 → (∀ i, i < w → 0 ≤ s 19 i ∧ s 19 i ≤ 40) →
    ∃ (s' : mG) (P' w' : Nat), rl c x w s = s' ∧ CS0 c k P0 P' w' s' ∧ P' + w' = P + w ∧ P ≤ P' ∧ s' 19 = s 19 ∧ frm (insX c k P0) s s' ∧ s' 15 6 = s 15 6 ∧ (∀ E : Nat → Int, (w', rnC E (s' (c + 11)) P0 (P' - P0)) = opz x (s 19) w (rnC E (s (c + 11)) P0 (P - P0))) := by
  intro w
  induction w with
  | zero =>
    intro P s h _ _
    exact ⟨s, P, 0, rfl, h, rfl, Nat.le_refl P, rfl, frm_rf, rfl, fun E => rfl⟩
  | succ j ih =>
    intro P s h hP hw
    have hwj := hw j (by omega)
    by_cases y : x ≤ crk (s 19 j)
    · obtain ⟨h1, h2, h3, h4, h5⟩ := h
      obtain ⟨g1, g2, g3, g4, g5, g6, g7⟩ := code_f (x := s 19 j) (y := 0) h2 (by omega) h1 hk
      have fs := code_frm (x := s 19 j) (y := 0) (frm_rf (P := insX c k P0) (G := s)) h2 (by omega) h1 hk h5
      have e : rl c x (j + 1) s = rl c x j (gs (e_X1_addCode c s (s 19 j) 0) 15 5 ((j : Nat) : Int)) := by rw [rl_s, if_pos y]
      rw [e]
      generalize e_X1_addCode c s (s 19 j) 0 = s1 at *
      have e15 : s1 15 = s 15 := g7 15 (by omega) (by omega) (by omega)
      have e19 : (gs s1 15 5 ((j : Nat) : Int)) 19 = s 19 := by rw [gs_ne (by decide), g7 19 (by omega) (by omega) (by omega)]
      have hcs : CS0 c k P0 (P + 1) j (gs s1 15 5 ((j : Nat) : Int)) := by
        refine ⟨?_, ?_, ?_, gs_at _ _ _ _, by omega⟩
        · rw [gs_ne (by omega), g5 12 (by decide)]; exact h1
        · rw [gs_ne (by omega)]; exact g1
        · rw [gs_ne (by omega)]; exact g2
      obtain ⟨s', P', w', i1, i2, i3, i4, i5, i6, i7, i8⟩ := ih (P + 1) (gs s1 15 5 ((j : Nat) : Int)) hcs (by omega) (fun i hi => by rw [e19]; exact hw i (by omega))
      refine ⟨s', P', w', i1, i2, by omega, by omega, by rw [i5, e19], frm_tr (frm_gs fs (Or.inr (Or.inr (Or.inl ⟨rfl, Or.inl rfl⟩)))) i6, by rw [i7, gs_at_ne (by decide), e15], fun E => ?_⟩
      rw [i8 E, opz_s, if_pos y, e19, gs_ne (by omega)]
      have e11 : rnC E (s1 (c + 11)) P0 (P + 1 - P0) = st1C (s 19 j) 0 (rnC E (s (c + 11)) P0 (P - P0)) := by
        rw [show P + 1 - P0 = (P - P0) + 1 from by omega]
        show stC E (s1 (c + 11)) (P0 + (P - P0)) (rnC E (s1 (c + 11)) P0 (P - P0)) = _
        rw [show P0 + (P - P0) = P from by omega, rnC_congr (fun i hi => g4 (P0 + i) (by omega))]
        unfold stC ckd cnm
        have e1 : w32 (w32 (s 19 j * 10000) + 0) = s 19 j * 10000 := by rw [w32_i (x := s 19 j * 10000) (by omega) (by omega), w32_i (by omega) (by omega)]; omega
        rw [g3, e1]
        obtain ⟨d1, d2⟩ := dv (x := s 19 j * 10000) (by omega)
        rw [d1, show s 19 j * 10000 / 10000 = s 19 j from by omega]
        exact st1_any (by omega)
      rw [e11]
    · refine ⟨s, P, j + 1, by rw [rl_s, if_neg y], h, rfl, Nat.le_refl P, rfl, frm_rf, rfl, fun E => ?_⟩
      rw [opz_s, if_neg y]
end OPZ
