/-! ===== an expression on both sides ===== -/
section XPR
variable {c S k p0 q0 w0 n m d u : Nat} {s H s' H' A : mG} {x y : Int}
theorem hold_eq {j : Nat} (h : s 15 5 = (j : Int)) (hj : j < 35) : e_X7_hold s x = gs (gs s 19 j x) 15 5 ((j + 1 : Nat) : Int) := by
  unfold e_X7_hold
  rw [h, st_nat, w32_nat (by omega), if_neg (by omega), if_neg (by omega)]
theorem unit_int : e_X7_noteUnit c A 3 y = e_X1_addCode c A 3 y := by
  unfold e_X7_noteUnit
  rw [if_pos (by decide), if_neg (by decide)]
theorem unit_open : e_X7_noteUnit c A 5 y = gs (e_X7_hold A 5) 15 6 (w32 (((e_X7_hold A 5) 15 6) + 1)) := by
  unfold e_X7_noteUnit
  rw [if_neg (by decide)]
theorem unit_var (h : 28 ≤ x ∧ x ≤ 33) : e_X7_noteUnit c A x y = e_X1_addCode c A x 0 := by
  unfold e_X7_noteUnit
  rw [if_pos (by omega), if_pos (by omega), if_neg (by omega)]
theorem unit_near : e_X7_noteUnit c A 27 y = A := by
  unfold e_X7_noteUnit
  rw [if_pos (by decide), if_pos (by decide), if_pos rfl]
theorem behind_op (h : x = 7 ∨ x = 8 ∨ x = 9) : e_X7_noteBehind c A x = e_X7_hold (e_X7_release c A (crk x)) x := by
  unfold e_X7_noteBehind
  rw [crk_eq]
  rcases h with e | e | e
  · subst e
    rw [if_pos (by decide), if_neg (by decide), if_pos (by decide), show mMax (crk 7) 1 = crk 7 from by decide]
  · subst e
    rw [if_pos (by decide), if_neg (by decide), if_pos (by decide), show mMax (crk 8) 1 = crk 8 from by decide]
  · subst e
    rw [if_pos (by decide), if_neg (by decide), if_pos (by decide), show mMax (crk 9) 1 = crk 9 from by decide]
theorem behind_close : e_X7_noteBehind c A 6 = gs (gs (e_X7_release c A 1) 15 5 (mMax 0 (w32 (((e_X7_release c A 1) 15 5) - 1)))) 15 6 (w32 (((e_X7_release c A 1) 15 6) - 1)) := by
  unfold e_X7_noteBehind
  rw [crk_eq, show mMax (crk 6) 1 = 1 from by decide, if_neg (by decide), if_neg (by decide)]
  generalize e_X7_release c A 1 = R
  by_cases z : w32 ((R 15 6) - 1) = 0
  · rw [if_neg (fun q => q z), if_pos rfl]
  · rw [if_pos z]
theorem XI_A (h : XI c S k p0 q0 w0 n m d u s H) (hA : ∀ k, k ≠ 20 → A k = s k) (hc : c = 40 ∨ c = 52) : XI c S k p0 q0 w0 n m d u A H :=
  XI_to h (by rw [hA c (by omega)]) (by rw [hA c (by omega)]) (by rw [hA (c + 10) (by omega)]) (fun i _ => by rw [hA (c + 11) (by omega)]) (by rw [hA 15 (by omega)]) (by rw [hA 15 (by omega)]) (fun i _ => by rw [hA 19 (by omega)]) rfl rfl rfl (fun _ _ => ⟨rfl, rfl⟩) (fun _ _ => rfl)
/-- other signs wait -/
theorem XI_w {m2 d2 u2 : Nat} (h : XI c S k p0 q0 w0 n m d u s H) (e12 : s' c 12 = s c 12) (e13 : s' c 13 = s c 13) (e10 : s' (c + 10) k = s (c + 10) k) (e11 : ∀ i, i < p0 + n → s' (c + 11) i = s (c + 11) i) (r39 : H' 64 39 = H 64 39) (r9 : ∀ i, i < 700 * S + q0 + n → H' 91 i = H 91 i ∧ H' 92 i = H 92 i) (e5 : s' 15 5 = ((w0 + m2 : Nat) : Int)) (r43 : H' 64 43 = (m2 : Int)) (wt : ∀ i, i < m2 → s' 19 (w0 + i) = km (H' 93 i) ∧ (H' 93 i = 6 ∨ H' 93 i = 8 ∨ H' 93 i = 9 ∨ H' 93 i = 10)) (e6 : s' 15 6 = (d2 : Int)) (r12 : H' 64 12 = (d2 : Int)) (d6 : d2 ≤ 6) (wo : (wb (H' 93) m2).1 = d2) (wn : ∀ i, i ≤ m2 → i ≤ 3 * (wb (H' 93) i).1 + (wb (H' 93) i).2) (hl : (m2 - d2) + u2 = (m - d) + u) : XI c S k p0 q0 w0 n m2 d2 u2 s' H' := by
  have rc : ∀ va i, i ≤ n → rnR (H' 91) (H' 92) va (700 * S + q0) i = rnR (H 91) (H 92) va (700 * S + q0) i := fun va i hi => rnR_congr (fun j hj => r9 _ (by omega))
  refine ⟨by rw [e12]; exact h.c12, by rw [e13]; exact h.cl, by rw [e10]; exact h.ce, by rw [r39]; exact h.cr, fun i hi => ?_, e5, r43, wt, e6, r12, d6, wo, wn, fun va => ?_, fun va i hi => by rw [rc va i hi]; exact h.rp va i hi⟩
  · rw [e11 _ (by omega), (r9 (700 * S + q0 + i) (by omega)).1, (r9 (700 * S + q0 + i) (by omega)).2]; exact h.co i hi
  · rw [rc va n (Nat.le_refl n), hl]; exact h.rv va
theorem wb_push {f g : Nat → Int} {m : Nat} {w : Int} (hg : ∀ i, i < m → g i = f i) (hw : g m = w) : wb g (m + 1) = if w = 6 then ((wb f m).1 + 1, 0) else ((wb f m).1, if w = 10 then 2 else 1) := by
  rw [wb_s, hw, wb_congr hg]
/-- a bracket opens -/
theorem XI_open (hc : c = 40 ∨ c = 52) {t : Nat} (h : XI c S k p0 q0 w0 n m d 0 s H) (hd : d < 6) (hw : w0 ≤ 3) : XI c S k p0 q0 w0 n (m + 1) (d + 1) 0 (gs (gs (gs (gs s 19 (w0 + m) 5) 15 5 ((w0 + m + 1 : Nat) : Int)) 15 6 ((d + 1 : Nat) : Int)) 15 8 20) (gs (gs (gs (gs H 64 12 ((d + 1 : Nat) : Int)) 64 11 ((t + 1 : Nat) : Int)) 93 m 6) 64 43 ((m + 1 : Nat) : Int)) := by
  have hmm := XI_m h
  have f93 : ∀ i, (gs (gs (gs (gs H 64 12 ((d + 1 : Nat) : Int)) 64 11 ((t + 1 : Nat) : Int)) 93 m 6) 64 43 ((m + 1 : Nat) : Int)) 93 i = if i = m then 6 else H 93 i := by
    intro i
    rw [gs_ne (by decide)]
    by_cases z : i = m
    · rw [z, gs_at, if_pos rfl]
    · rw [gs_at_ne z, gs_ne (by decide), gs_ne (by decide), if_neg z]
  have g93 : ∀ i, i < m → (gs (gs (gs (gs H 64 12 ((d + 1 : Nat) : Int)) 64 11 ((t + 1 : Nat) : Int)) 93 m 6) 64 43 ((m + 1 : Nat) : Int)) 93 i = H 93 i := fun i hi => by rw [f93, if_neg (by omega)]
  have w1 := wb_push (w := 6) g93 (by rw [f93, if_pos rfl])
  rw [if_pos rfl] at w1
  refine XI_w h ?_ ?_ ?_ ?_ ?_ ?_ ?_ ?_ ?_ ?_ ?_ ?_ ?_ ?_ ?_
  · rw [gs_ne (by omega), gs_ne (by omega), gs_ne (by omega), gs_ne (by omega)]
  · rw [gs_ne (by omega), gs_ne (by omega), gs_ne (by omega), gs_ne (by omega)]
  · rw [gs_ne (by omega), gs_ne (by omega), gs_ne (by omega), gs_ne (by omega)]
  · intro i _
    rw [gs_ne (by omega), gs_ne (by omega), gs_ne (by omega), gs_ne (by omega)]
  · rw [gs_at_ne (by decide), gs_ne (by decide), gs_at_ne (by decide), gs_at_ne (by decide)]
  · intro i _
    rw [gs_ne (by decide), gs_ne (by decide), gs_ne (by decide), gs_ne (by decide), gs_ne (by decide), gs_ne (by decide), gs_ne (by decide), gs_ne (by decide)]
    exact ⟨rfl, rfl⟩
  · rw [gs_at_ne (by decide), gs_at_ne (by decide), gs_at]; rfl
  · exact gs_at _ _ _ _
  · intro i hi
    rw [f93, gs_ne (by decide), gs_ne (by decide), gs_ne (by decide)]
    by_cases z : i = m
    · rw [z, gs_at, if_pos rfl]; exact ⟨by decide, Or.inl rfl⟩
    · rw [gs_at_ne (by omega), if_neg z]; exact h.wt i (by omega)
  · rw [gs_at_ne (by decide), gs_at]
  · rw [gs_at_ne (by decide), gs_ne (by decide), gs_at_ne (by decide), gs_at]
  · omega
  · rw [w1]
    have := h.wo
    show (wb (H 93) m).1 + 1 = d + 1
    omega
  · intro i hi
    by_cases z : i = m + 1
    · rw [z, w1]
      have := h.wo
      show m + 1 ≤ 3 * ((wb (H 93) m).1 + 1) + 0
      omega
    · rw [wb_congr (fun j hj => g93 j (by omega))]
      exact h.wn i (by omega)
  · omega
/-- a bracket closes -/
theorem XI_close (hc : c = 40 ∨ c = 52) {t j e : Nat} (h : XI c S k p0 q0 w0 n (j + 1) (e + 1) 1 s H) (h6 : H 93 j = 6) : XI c S k p0 q0 w0 n j e 1 (gs (gs (gs s 15 5 ((w0 + j : Nat) : Int)) 15 6 ((e : Nat) : Int)) 15 8 21) (gs (gs (gs H 64 43 ((j : Nat) : Int)) 64 12 ((e : Nat) : Int)) 64 11 ((t + 1 : Nat) : Int)) := by
  have hmm := XI_m h
  have hwo := h.wo
  rw [wb_s, if_pos h6] at hwo
  have hwo2 : (wb (H 93) j).1 + 1 = e + 1 := hwo
  have f93 : (gs (gs (gs H 64 43 ((j : Nat) : Int)) 64 12 ((e : Nat) : Int)) 64 11 ((t + 1 : Nat) : Int)) 93 = H 93 := by rw [gs_ne (by decide), gs_ne (by decide), gs_ne (by decide)]
  refine XI_w h ?_ ?_ ?_ ?_ ?_ ?_ ?_ ?_ ?_ ?_ ?_ ?_ ?_ ?_ ?_
  · rw [gs_ne (by omega), gs_ne (by omega), gs_ne (by omega)]
  · rw [gs_ne (by omega), gs_ne (by omega), gs_ne (by omega)]
  · rw [gs_ne (by omega), gs_ne (by omega), gs_ne (by omega)]
  · intro i _
    rw [gs_ne (by omega), gs_ne (by omega), gs_ne (by omega)]
  · rw [gs_at_ne (by decide), gs_at_ne (by decide), gs_at_ne (by decide)]
  · intro i _
    rw [gs_ne (by decide), gs_ne (by decide), gs_ne (by decide), gs_ne (by decide), gs_ne (by decide), gs_ne (by decide)]
    exact ⟨rfl, rfl⟩
  · rw [gs_at_ne (by decide), gs_at_ne (by decide), gs_at]
  · rw [gs_at_ne (by decide), gs_at_ne (by decide), gs_at]
  · intro i hi
    rw [f93, gs_ne (by decide), gs_ne (by decide), gs_ne (by decide)]
    exact h.wt i (by omega)
  · rw [gs_at_ne (by decide), gs_at]
  · rw [gs_at_ne (by decide), gs_at]
  · have := h.d6
    omega
  · rw [f93]; omega
  · intro i hi
    rw [f93]
    exact h.wn i (by omega)
  · omega
/-- a sign is held -/
theorem XI_hold (hc : c = 40 ∨ c = 52) {t : Nat} {w X : Int} (h : XI c S k p0 q0 w0 n m d 1 s H) (hw : w = 8 ∨ w = 9 ∨ w = 10) (ht : m = 0 ∨ (0 < m ∧ (H 93 (m - 1) = 6 ∨ (w = 10 ∧ ¬ H 93 (m - 1) = 10)))) : XI c S k p0 q0 w0 n (m + 1) d 0 (gs (gs (gs s 19 (w0 + m) (km w)) 15 5 ((w0 + m + 1 : Nat) : Int)) 15 8 X) (gs (gs (gs H 93 m w) 64 43 ((m + 1 : Nat) : Int)) 64 11 ((t + 1 : Nat) : Int)) := by
  have hmm := XI_m h
  have f93 : ∀ i, (gs (gs (gs H 93 m w) 64 43 ((m + 1 : Nat) : Int)) 64 11 ((t + 1 : Nat) : Int)) 93 i = if i = m then w else H 93 i := by
    intro i
    rw [gs_ne (by decide), gs_ne (by decide)]
    by_cases z : i = m
    · rw [z, gs_at, if_pos rfl]
    · rw [gs_at_ne z, if_neg z]
  have g93 : ∀ i, i < m → (gs (gs (gs H 93 m w) 64 43 ((m + 1 : Nat) : Int)) 64 11 ((t + 1 : Nat) : Int)) 93 i = H 93 i := fun i hi => by rw [f93, if_neg (by omega)]
  have w1 := wb_push (w := w) g93 (by rw [f93, if_pos rfl])
  rw [if_neg (by omega)] at w1
  have hwo := h.wo
  have hwn := h.wn m (Nat.le_refl m)
  have hm2 : m ≤ 3 * d + (if w = 10 then 1 else 0) := by
    rcases ht with z | ⟨z, z2⟩
    · omega
    · obtain ⟨j, rfl⟩ : ∃ j, m = j + 1 := ⟨m - 1, by omega⟩
      rw [show j + 1 - 1 = j from rfl] at z2
      rw [hwo] at hwn
      rw [wb_s] at hwn
      rcases z2 with z2 | ⟨z2, z3⟩
      · rw [if_pos z2] at hwn
        have hwn2 : j + 1 ≤ 3 * d + 0 := hwn
        omega
      · by_cases y6 : H 93 j = 6
        · rw [if_pos y6] at hwn
          have hwn2 : j + 1 ≤ 3 * d + 0 := hwn
          omega
        · rw [if_neg y6] at hwn
          have hwn2 : j + 1 ≤ 3 * d + (if H 93 j = 10 then 2 else 1) := hwn
          rw [if_neg z3] at hwn2
          rw [if_pos z2]
          exact hwn2
  refine XI_w h ?_ ?_ ?_ ?_ ?_ ?_ ?_ ?_ ?_ ?_ ?_ h.d6 ?_ ?_ ?_
  · rw [gs_ne (by omega), gs_ne (by omega), gs_ne (by omega)]
  · rw [gs_ne (by omega), gs_ne (by omega), gs_ne (by omega)]
  · rw [gs_ne (by omega), gs_ne (by omega), gs_ne (by omega)]
  · intro i _
    rw [gs_ne (by omega), gs_ne (by omega), gs_ne (by omega)]
  · rw [gs_at_ne (by decide), gs_at_ne (by decide), gs_ne (by decide)]
  · intro i _
    rw [gs_ne (by decide), gs_ne (by decide), gs_ne (by decide), gs_ne (by decide), gs_ne (by decide), gs_ne (by decide)]
    exact ⟨rfl, rfl⟩
  · rw [gs_at_ne (by decide), gs_at]; rfl
  · rw [gs_at_ne (by decide), gs_at]
  · intro i hi
    rw [f93, gs_ne (by decide), gs_ne (by decide)]
    by_cases z : i = m
    · rw [z, gs_at, if_pos rfl]; exact ⟨rfl, Or.inr hw⟩
    · rw [gs_at_ne (by omega), if_neg z]; exact h.wt i (by omega)
  · rw [gs_at_ne (by decide), gs_at_ne (by decide), gs_ne (by decide)]; exact h.dl
  · rw [gs_at_ne (by decide), gs_at_ne (by decide), gs_ne (by decide)]; exact h.dr
  · rw [w1]; exact hwo
  · intro i hi
    by_cases z : i = m + 1
    · rw [z, w1]
      show m + 1 ≤ 3 * (wb (H 93) m).1 + (if w = 10 then 2 else 1)
      rw [hwo]
      by_cases y : w = 10
      · rw [if_pos y] at hm2
        rw [if_pos y]; omega
      · rw [if_neg y] at hm2
        rw [if_neg y]; omega
    · rw [wb_congr (fun j hj => g93 j (by omega))]
      exact h.wn i (by omega)
  · omega
/-- a number or a variable -/
theorem XI_unit (hc : c = 40 ∨ c = 52) (hk : k < 40) {t : Nat} {k1 v x y : Int} (h : XI c S k p0 q0 w0 n m d 0 s H) (hp : p0 + n < 600) (hq : 700 * S + q0 + n < 1400) (hok : okE k1 v) (h01 : k1 = 0 ∨ k1 = 1) (hxy : w32 (w32 (x * 10000) + y) = cmE k1 v) : XI c S k p0 q0 w0 (n + 1) m d 1 (gs (e_X1_addCode c s x y) 15 8 21) (gs (e_X12_emit H k1 v) 64 11 ((t + 1 : Nat) : Int)) := by
  have hmm := XI_m h
  have hd6 := h.d6
  obtain ⟨f1, f2, f3, f4, f5, f6⟩ := emit_f (x := k1) (y := v) h.cr hq
  obtain ⟨g1, g2, g3, g4, g5, g6, g7⟩ := code_f (x := x) (y := y) h.cl hp h.c12 hk
  rw [hxy] at g3
  generalize e_X12_emit H k1 v = H1 at *
  generalize e_X1_addCode c s x y = s1 at *
  have e15 : s1 15 = s 15 := g7 15 (by omega) (by omega) (by omega)
  have e19 : s1 19 = s 19 := g7 19 (by omega) (by omega) (by omega)
  refine XI_emit (m' := m) (u' := 1) (k1 := k1) (v := v) h hok (Nat.le_refl m) h.wo ?_ ?_ ?_ ?_ ?_ ?_ ?_ ?_ ?_ ?_ ?_ ?_ ?_ ?_ ?_
  · rw [gs_ne (by omega)]; exact g5 12 (by decide)
  · rw [gs_ne (by omega)]; exact g1
  · rw [gs_ne (by omega)]; exact g2
  · intro i hi
    rw [gs_ne (by omega)]; exact g4 i (by omega)
  · rw [gs_ne (by omega)]; exact g3
  · rw [gs_at_ne (by decide), e15]; exact h.wl
  · rw [gs_at_ne (by decide), e15]
  · intro i hi
    rw [gs_ne (by decide), e19]
  · rw [gs_at_ne (by decide)]; exact f1
  · rw [gs_at_ne (by decide), f5 43 (by decide)]; exact h.wr
  · rw [gs_at_ne (by decide), f5 12 (by decide)]
  · intro i hi
    rw [gs_ne (by decide), gs_ne (by decide)]
    exact f4 i (by omega)
  · rw [gs_ne (by decide), gs_ne (by decide)]
    exact ⟨f2, f3⟩
  · intro i hi
    rw [gs_ne (by decide), f6 93 (by decide) (by decide) (by decide)]
  · intro va T hl
    rw [gs_ne (by decide), gs_ne (by decide)]
    rcases h01 with e | e
    · exact ⟨_, sgR_num (by rw [f2]; exact e), by show T.length + 1 = _; omega, by show T.length + 1 ≤ 20; omega⟩
    · refine ⟨_, sgR_var (by rw [f2]; exact e) ?_, by show T.length + 1 = _; omega, by show T.length + 1 ≤ 20; omega⟩
      rw [f3]
      rcases hok with q | q | q <;> omega
theorem cO_43 {z : Int} : ∀ (j : Nat) (H : mG), H 64 43 = (j : Int) → 0 ≤ (cO z j H) 64 43 ∧ (cO z j H) 64 43 ≤ (j : Int) := by
  intro j
  induction j with
  | zero => intro H h; show 0 ≤ H 64 43 ∧ H 64 43 ≤ 0; omega
  | succ j ih =>
    intro H h
    have e : cO z (j + 1) H = if H 93 j = 6 ∨ (¬ z = 0 ∧ ¬ H 93 j = 10) then H else cO z j (e_X12_emit (gs H 64 43 ((j : Nat) : Int)) (rk2 (H 93 j)) 0) := rfl
    rw [e]
    by_cases y : H 93 j = 6 ∨ (¬ z = 0 ∧ ¬ H 93 j = 10)
    · rw [if_pos y]; omega
    · rw [if_neg y]
      have f1 : (e_X12_emit (gs H 64 43 ((j : Nat) : Int)) (rk2 (H 93 j)) 0) 64 43 = (j : Int) := by
        unfold e_X12_emit
        rw [gs_at_ne (by decide), gs_ne (by decide), gs_ne (by decide), gs_at]
      have := ih _ f1
      omega
theorem cO_frm {z : Int} (hS : S ≤ 1) : ∀ (j : Nat) (H : mG) (P : Nat), H 64 39 = (P : Int) → 700 * S + q0 ≤ P → P + j ≤ 700 * S + 700 → frm (insE S q0) H (cO z j H) := by
  intro j
  induction j with
  | zero => intro H _ _ _ _; exact frm_rf
  | succ j ih =>
    intro H P h h1 h2
    have e : cO z (j + 1) H = if H 93 j = 6 ∨ (¬ z = 0 ∧ ¬ H 93 j = 10) then H else cO z j (e_X12_emit (gs H 64 43 ((j : Nat) : Int)) (rk2 (H 93 j)) 0) := rfl
    rw [e]
    by_cases y : H 93 j = 6 ∨ (¬ z = 0 ∧ ¬ H 93 j = 10)
    · rw [if_pos y]; exact frm_rf
    · rw [if_neg y]
      have h3 : (gs H 64 43 ((j : Nat) : Int)) 64 39 = (P : Int) := by rw [gs_at_ne (by decide)]; exact h
      have fh := emit_frm (x := rk2 (H 93 j)) (y := 0) (frm_gs (frm_rf (P := insE S q0) (G := H)) (k := 64) (i := 43) (v := ((j : Nat) : Int)) (insE_64 (by decide))) (P := P) h3 h1 (by omega)
      obtain ⟨f1, _⟩ := emit_f (x := rk2 (H 93 j)) (y := 0) h3 (by omega)
      exact frm_tr fh (ih _ (P + 1) f1 (by omega) (by omega))
end XPR
