/-! ===== both emit the same code ===== -/
/-- what may change, and what not -/
def frm (P : Nat → Nat → Prop) (G H : mG) : Prop := ∀ k i, ¬ P k i → H k i = G k i
section FRM
variable {P Q : Nat → Nat → Prop} {G H M : mG}
theorem frm_rf : frm P G G := fun _ _ _ => rfl
theorem frm_gs (h : frm P G H) {k i : Nat} {v : Int} (hi : P k i) : frm P G (gs H k i v) := by
  intro a j hj
  by_cases y : a = k
  · subst y
    by_cases z : j = i
    · subst z; exact absurd hi hj
    · rw [gs_at_ne z]; exact h a j hj
  · rw [gs_ne y]; exact h a j hj
theorem frm_tr (h1 : frm P G H) (h2 : frm P H M) : frm P G M := fun k i hi => (h2 k i hi).trans (h1 k i hi)
theorem frm_mono (h : frm P G H) (hPQ : ∀ k i, P k i → Q k i) : frm Q G H := fun k i hi => h k i (fun y => hi (hPQ k i y))
theorem frm_row (h : ∀ k, k ≠ 20 → H k = G k) (hP : ∀ i, P 20 i) : frm P G H := fun k i hi => by
  by_cases y : k = 20
  · subst y; exact absurd (hP i) hi
  · rw [h k y]
end FRM
/-- release, with j waiting -/
def rl (c : Nat) (x : Int) : Nat → mG → mG
  | 0, s => s
  | j + 1, s => if x ≤ crk (s 19 j) then rl c x j (gs (e_X1_addCode c s (s 19 j) 0) 15 5 ((j : Nat) : Int)) else s
theorem rl_s {c : Nat} {x : Int} {j : Nat} {s : mG} : rl c x (j + 1) s = if x ≤ crk (s 19 j) then rl c x j (gs (e_X1_addCode c s (s 19 j) 0) 15 5 ((j : Nat) : Int)) else s := rfl
theorem release_rl {c m : Nat} {s : mG} {x : Int} (h5 : s 15 5 = (m : Int)) (hm : m ≤ 35) : e_X7_release c s x = rl c x m s := by
  unfold e_X7_release
  rw [h5, st_nat]
  have key : ∀ n j, j + n = m → ∀ z, fe (g_X7_release_7 c s x) s j = Sum.inl z → brk (fe (g_X7_release_7 c s x) s m) = rl c x n z := by
    intro n
    induction n with
    | zero =>
      intro j hj z hz
      have e : j = m := by omega
      rw [← e, hz]
      rfl
    | succ n ih =>
      intro j hj z hz
      have h1 := fe_inl hz
      have g1 : g_X7_release_7 c s x j z = if x ≤ crk (z 19 n) then Sum.inl (gs (e_X1_addCode c z (z 19 n) 0) 15 5 ((n : Nat) : Int)) else Sum.inr z := by
        unfold g_X7_release_7
        rw [h5, w32_i (x := ((m : Nat) : Int) - 1) (by omega) (by omega), show ((m : Nat) : Int) - 1 - ((j : Nat) : Int) = ((n : Nat) : Int) from by omega, st_nat, if_neg (by omega), if_neg (by omega), crk_eq]
      rw [g1] at h1
      rw [rl_s]
      by_cases y : x ≤ crk (z 19 n)
      · rw [if_pos y] at h1
        rw [if_pos y]
        exact ih (j + 1) (by omega) _ h1
      · rw [if_neg y] at h1
        rw [if_neg y]
        have h2 := fe_inr h1 n
        rw [show j + 1 + n = m from by omega] at h2
        rw [h2]
        rfl
  exact key m 0 (by omega) s rfl
theorem code_eq {c P k : Nat} {s : mG} {x y : Int} (h13 : s c 13 = (P : Int)) (hP : P < 600) (h12 : s c 12 = ((k + 1 : Nat) : Int)) (hk : k < 40) : e_X1_addCode c s x y = gs (gs (gs s (c + 11) P (w32 (w32 (x * 10000) + y))) c 13 ((P + 1 : Nat) : Int)) (c + 10) k ((P + 1 : Nat) : Int) := by
  have e : w32 ((s c 12) - 1) = ((k : Nat) : Int) := by rw [h12, w32_i (by omega) (by omega)]; omega
  have hh : f_X1_hasClause c s ((k : Nat) : Int) = 1 := by
    unfold f_X1_hasClause
    rw [h12, if_neg (by omega), if_neg (by omega), if_neg (by omega)]
  unfold e_X1_addCode
  rw [e, hh, h13, st_nat, st_nat, w32_nat (by omega), if_neg (by omega), if_neg (by omega), if_neg (by decide)]
/-- the class's word for the reference's -/
def cmE (k v : Int) : Int := if k = 0 then 30000 + v else if k = 1 then 280000 + 10000 * v else (k + 5) * 10000
def okE (k v : Int) : Prop := (k = 0 ∧ 0 ≤ v ∧ v ≤ 9999) ∨ (k = 1 ∧ 0 ≤ v ∧ v < 6) ∨ (2 ≤ k ∧ k ≤ 4 ∧ v = 0)
/-- open brackets, and where among their signs -/
def wb (f : Nat → Int) : Nat → Nat × Nat
  | 0 => (0, 0)
  | i + 1 => if f i = 6 then ((wb f i).1 + 1, 0) else ((wb f i).1, if f i = 10 then 2 else 1)
theorem wb_s {f : Nat → Int} {i : Nat} : wb f (i + 1) = if f i = 6 then ((wb f i).1 + 1, 0) else ((wb f i).1, if f i = 10 then 2 else 1) := rfl
theorem wb_2 (f : Nat → Int) (i : Nat) : (wb f i).2 ≤ 2 ∧ (wb f i).1 ≤ i := by
  induction i with
  | zero => exact ⟨Nat.zero_le 2, Nat.le_refl 0⟩
  | succ i ih =>
    rw [wb_s]
    by_cases y : f i = 6
    · rw [if_pos y]; exact ⟨Nat.zero_le 2, by show (wb f i).1 + 1 ≤ i + 1; omega⟩
    · rw [if_neg y]
      refine ⟨?_, by show (wb f i).1 ≤ i + 1; omega⟩
      by_cases z : f i = 10
      · rw [if_pos z]; exact Nat.le_refl 2
      · rw [if_neg z]; exact Nat.le_succ 1
theorem wb_congr {f g : Nat → Int} {m : Nat} (h : ∀ i, i < m → g i = f i) : wb g m = wb f m := by
  induction m with
  | zero => rfl
  | succ m ih => rw [wb_s, wb_s, h m (by omega), ih (fun i hi => h i (by omega))]
theorem sgR_congr {cd ci cd' ci' va : Nat → Int} {i : Nat} {T : List Int} (h1 : cd' i = cd i) (h2 : ci' i = ci i) : sgR cd' ci' va i T = sgR cd ci va i T := by
  unfold sgR
  rw [h1, h2]
theorem rnR_congr {cd ci cd' ci' va : Nat → Int} {q n : Nat} (h : ∀ i, i < n → cd' (q + i) = cd (q + i) ∧ ci' (q + i) = ci (q + i)) : rnR cd' ci' va q n = rnR cd ci va q n := by
  induction n with
  | zero => rfl
  | succ n ih =>
    have e := ih (fun i hi => h i (by omega))
    have e1 : rnR cd' ci' va q (n + 1) = (match rnR cd' ci' va q n with | some S => sgR cd' ci' va (q + n) S | none => none) := rfl
    have e2 : rnR cd ci va q (n + 1) = (match rnR cd ci va q n with | some S => sgR cd ci va (q + n) S | none => none) := rfl
    rw [e1, e2, e]
    cases rnR cd ci va q n with
    | none => rfl
    | some T => exact sgR_congr (h n (by omega)).1 (h n (by omega)).2
theorem rnR_s {cd ci va : Nat → Int} {q n : Nat} {T U : List Int} (h : rnR cd ci va q n = some T) (hs : sgR cd ci va (q + n) T = some U) : rnR cd ci va q (n + 1) = some U := by
  have e2 : rnR cd ci va q (n + 1) = (match rnR cd ci va q n with | some S => sgR cd ci va (q + n) S | none => none) := rfl
  rw [e2, h]
  exact hs
/-- both in the midst of an expression: n words out, m signs waiting, d brackets open; u: behind a unit -/
def XI (c S k p0 q0 w0 n m d u : Nat) (s H : mG) : Prop := (s c 12 = ((k + 1 : Nat) : Int)) ∧ (s c 13 = ((p0 + n : Nat) : Int)) ∧ (s (c + 10) k = ((p0 + n : Nat) : Int)) ∧ (H 64 39 = ((700 * S + q0 + n : Nat) : Int)) ∧ (∀ i, i < n → s (c + 11) (p0 + i) = cmE (H 91 (700 * S + q0 + i)) (H 92 (700 * S + q0 + i)) ∧ okE (H 91 (700 * S + q0 + i)) (H 92 (700 * S + q0 + i))) ∧ (s 15 5 = ((w0 + m : Nat) : Int)) ∧ (H 64 43 = (m : Int)) ∧ (∀ i, i < m → s 19 (w0 + i) = km (H 93 i) ∧ (H 93 i = 6 ∨ H 93 i = 8 ∨ H 93 i = 9 ∨ H 93 i = 10)) ∧ (s 15 6 = (d : Int)) ∧ (H 64 12 = (d : Int)) ∧ (d ≤ 6) ∧ ((wb (H 93) m).1 = d) ∧ (∀ i, i ≤ m → i ≤ 3 * (wb (H 93) i).1 + (wb (H 93) i).2) ∧ (∀ va, ∃ T, rnR (H 91) (H 92) va (700 * S + q0) n = some T ∧ T.length = (m - d) + u) ∧ (∀ va i, i ≤ n → ∃ T, rnR (H 91) (H 92) va (700 * S + q0) i = some T ∧ T.length ≤ 20)
theorem XI.c12 {c S k p0 q0 w0 n m d u : Nat} {s H : mG} (h : XI c S k p0 q0 w0 n m d u s H) : s c 12 = ((k + 1 : Nat) : Int) := h.1
theorem XI.cl {c S k p0 q0 w0 n m d u : Nat} {s H : mG} (h : XI c S k p0 q0 w0 n m d u s H) : s c 13 = ((p0 + n : Nat) : Int) := h.2.1
theorem XI.ce {c S k p0 q0 w0 n m d u : Nat} {s H : mG} (h : XI c S k p0 q0 w0 n m d u s H) : s (c + 10) k = ((p0 + n : Nat) : Int) := h.2.2.1
theorem XI.cr {c S k p0 q0 w0 n m d u : Nat} {s H : mG} (h : XI c S k p0 q0 w0 n m d u s H) : H 64 39 = ((700 * S + q0 + n : Nat) : Int) := h.2.2.2.1
theorem XI.co {c S k p0 q0 w0 n m d u : Nat} {s H : mG} (h : XI c S k p0 q0 w0 n m d u s H) : ∀ i, i < n → s (c + 11) (p0 + i) = cmE (H 91 (700 * S + q0 + i)) (H 92 (700 * S + q0 + i)) ∧ okE (H 91 (700 * S + q0 + i)) (H 92 (700 * S + q0 + i)) := h.2.2.2.2.1
theorem XI.wl {c S k p0 q0 w0 n m d u : Nat} {s H : mG} (h : XI c S k p0 q0 w0 n m d u s H) : s 15 5 = ((w0 + m : Nat) : Int) := h.2.2.2.2.2.1
theorem XI.wr {c S k p0 q0 w0 n m d u : Nat} {s H : mG} (h : XI c S k p0 q0 w0 n m d u s H) : H 64 43 = (m : Int) := h.2.2.2.2.2.2.1
theorem XI.wt {c S k p0 q0 w0 n m d u : Nat} {s H : mG} (h : XI c S k p0 q0 w0 n m d u s H) : ∀ i, i < m → s 19 (w0 + i) = km (H 93 i) ∧ (H 93 i = 6 ∨ H 93 i = 8 ∨ H 93 i = 9 ∨ H 93 i = 10) := h.2.2.2.2.2.2.2.1
theorem XI.dl {c S k p0 q0 w0 n m d u : Nat} {s H : mG} (h : XI c S k p0 q0 w0 n m d u s H) : s 15 6 = (d : Int) := h.2.2.2.2.2.2.2.2.1
theorem XI.dr {c S k p0 q0 w0 n m d u : Nat} {s H : mG} (h : XI c S k p0 q0 w0 n m d u s H) : H 64 12 = (d : Int) := h.2.2.2.2.2.2.2.2.2.1
theorem XI.d6 {c S k p0 q0 w0 n m d u : Nat} {s H : mG} (h : XI c S k p0 q0 w0 n m d u s H) : d ≤ 6 := h.2.2.2.2.2.2.2.2.2.2.1
theorem XI.wo {c S k p0 q0 w0 n m d u : Nat} {s H : mG} (h : XI c S k p0 q0 w0 n m d u s H) : (wb (H 93) m).1 = d := h.2.2.2.2.2.2.2.2.2.2.2.1
theorem XI.wn {c S k p0 q0 w0 n m d u : Nat} {s H : mG} (h : XI c S k p0 q0 w0 n m d u s H) : ∀ i, i ≤ m → i ≤ 3 * (wb (H 93) i).1 + (wb (H 93) i).2 := h.2.2.2.2.2.2.2.2.2.2.2.2.1
theorem XI.rv {c S k p0 q0 w0 n m d u : Nat} {s H : mG} (h : XI c S k p0 q0 w0 n m d u s H) : ∀ va, ∃ T, rnR (H 91) (H 92) va (700 * S + q0) n = some T ∧ T.length = (m - d) + u := h.2.2.2.2.2.2.2.2.2.2.2.2.2.1
theorem XI.rp {c S k p0 q0 w0 n m d u : Nat} {s H : mG} (h : XI c S k p0 q0 w0 n m d u s H) : ∀ va i, i ≤ n → ∃ T, rnR (H 91) (H 92) va (700 * S + q0) i = some T ∧ T.length ≤ 20 := h.2.2.2.2.2.2.2.2.2.2.2.2.2.2
section XIS
variable {c S k p0 q0 w0 n m d u : Nat} {s H s' H' : mG}
theorem XI_m (h : XI c S k p0 q0 w0 n m d u s H) : m ≤ 3 * d + 2 ∧ m ≤ 20 ∧ d ≤ m := by
  have h1 := h.wn m (Nat.le_refl m)
  have h2 := wb_2 (H 93) m
  have h3 := h.wo
  have h4 := h.d6
  omega
/-- nothing that counts has changed -/
theorem XI_to (h : XI c S k p0 q0 w0 n m d u s H) (e12 : s' c 12 = s c 12) (e13 : s' c 13 = s c 13) (e10 : s' (c + 10) k = s (c + 10) k) (e11 : ∀ i, i < p0 + n → s' (c + 11) i = s (c + 11) i) (e5 : s' 15 5 = s 15 5) (e6 : s' 15 6 = s 15 6) (e19 : ∀ i, i < w0 + m → s' 19 i = s 19 i)
    (r39 : H' 64 39 = H 64 39) (r43 : H' 64 43 = H 64 43) (r12 : H' 64 12 = H 64 12) (r9 : ∀ i, i < 700 * S + q0 + n → H' 91 i = H 91 i ∧ H' 92 i = H 92 i) (r93 : ∀ i, i < m → H' 93 i = H 93 i) : XI c S k p0 q0 w0 n m d u s' H' := by
  have rc : ∀ va i, i ≤ n → rnR (H' 91) (H' 92) va (700 * S + q0) i = rnR (H 91) (H 92) va (700 * S + q0) i := fun va i hi => rnR_congr (fun j hj => r9 _ (by omega))
  have wc : ∀ i, i ≤ m → wb (H' 93) i = wb (H 93) i := fun i hi => wb_congr (fun j hj => r93 j (by omega))
  refine ⟨by rw [e12]; exact h.c12, by rw [e13]; exact h.cl, by rw [e10]; exact h.ce, by rw [r39]; exact h.cr, fun i hi => ?_, by rw [e5]; exact h.wl, by rw [r43]; exact h.wr, fun i hi => ?_, by rw [e6]; exact h.dl, by rw [r12]; exact h.dr, h.d6, by rw [wc m (Nat.le_refl m)]; exact h.wo, fun i hi => by rw [wc i hi]; exact h.wn i hi, fun va => by rw [rc va n (Nat.le_refl n)]; exact h.rv va, fun va i hi => by rw [rc va i hi]; exact h.rp va i hi⟩
  · rw [e11 _ (by omega), (r9 (700 * S + q0 + i) (by omega)).1, (r9 (700 * S + q0 + i) (by omega)).2]; exact h.co i hi
  · rw [e19 _ (by omega), r93 i hi]; exact h.wt i hi
/-- one word more -/
theorem XI_emit {m' u' : Nat} {k1 v : Int} (h : XI c S k p0 q0 w0 n m d u s H) (hok : okE k1 v) (hm : m' ≤ m) (hwo : (wb (H 93) m').1 = d) (e12 : s' c 12 = s c 12) (e13 : s' c 13 = ((p0 + n + 1 : Nat) : Int)) (e10 : s' (c + 10) k = ((p0 + n + 1 : Nat) : Int)) (e11 : ∀ i, i < p0 + n → s' (c + 11) i = s (c + 11) i) (e11n : s' (c + 11) (p0 + n) = cmE k1 v) (e5 : s' 15 5 = ((w0 + m' : Nat) : Int)) (e6 : s' 15 6 = s 15 6) (e19 : ∀ i, i < w0 + m' → s' 19 i = s 19 i)
    (r39 : H' 64 39 = ((700 * S + q0 + n + 1 : Nat) : Int)) (r43 : H' 64 43 = (m' : Int)) (r12 : H' 64 12 = H 64 12) (r9 : ∀ i, i < 700 * S + q0 + n → H' 91 i = H 91 i ∧ H' 92 i = H 92 i) (r9n : H' 91 (700 * S + q0 + n) = k1 ∧ H' 92 (700 * S + q0 + n) = v) (r93 : ∀ i, i < m' → H' 93 i = H 93 i)
    (hT : ∀ va T, T.length = (m - d) + u → ∃ U, sgR (H' 91) (H' 92) va (700 * S + q0 + n) T = some U ∧ U.length = (m' - d) + u' ∧ U.length ≤ 20) : XI c S k p0 q0 w0 (n + 1) m' d u' s' H' := by
  have rc : ∀ va i, i ≤ n → rnR (H' 91) (H' 92) va (700 * S + q0) i = rnR (H 91) (H 92) va (700 * S + q0) i := fun va i hi => rnR_congr (fun j hj => r9 _ (by omega))
  have wc : ∀ i, i ≤ m' → wb (H' 93) i = wb (H 93) i := fun i hi => wb_congr (fun j hj => r93 j (by omega))
  have rv' : ∀ va, ∃ T, rnR (H' 91) (H' 92) va (700 * S + q0) (n + 1) = some T ∧ T.length = (m' - d) + u' ∧ T.length ≤ 20 := by
    intro va
    obtain ⟨T, t1, t2⟩ := h.rv va
    obtain ⟨U, u1, u2, u3⟩ := hT va T t2
    rw [← rc va n (Nat.le_refl n)] at t1
    exact ⟨U, rnR_s t1 u1, u2, u3⟩
  refine ⟨by rw [e12]; exact h.c12, e13, e10, r39, fun i hi => ?_, e5, r43, fun i hi => ?_, by rw [e6]; exact h.dl, by rw [r12]; exact h.dr, h.d6, by rw [wc m' (Nat.le_refl m')]; exact hwo, fun i hi => by rw [wc i hi]; exact h.wn i (by omega), fun va => ?_, fun va i hi => ?_⟩
  · by_cases z : i = n
    · rw [z, e11n, r9n.1, r9n.2]; exact ⟨rfl, hok⟩
    · rw [e11 _ (by omega), (r9 (700 * S + q0 + i) (by omega)).1, (r9 (700 * S + q0 + i) (by omega)).2]; exact h.co i (by omega)
  · rw [e19 _ (by omega), r93 i hi]; exact h.wt i (by omega)
  · obtain ⟨T, a, b, _⟩ := rv' va
    exact ⟨T, a, b⟩
  · by_cases z : i = n + 1
    · rw [z]
      obtain ⟨T, a, _, b⟩ := rv' va
      exact ⟨T, a, b⟩
    · rw [rc va i (by omega)]; exact h.rp va i (by omega)
theorem rk2_v {w : Int} (h : w = 8 ∨ w = 9 ∨ w = 10) : 2 ≤ rk2 w ∧ rk2 w ≤ 4 ∧ cmE (rk2 w) 0 = w32 (w32 (km w * 10000) + 0) := by
  rcases h with e | e | e <;> subst e <;> decide
/-- where the class writes in an expression -/
def insX (c k p0 a i : Nat) : Prop := a = 20 ∨ a = 19 ∨ (a = 15 ∧ (i = 5 ∨ i = 6 ∨ i = 8)) ∨ (a = c ∧ i = 13) ∨ (a = c + 10 ∧ i = k) ∨ (a = c + 11 ∧ p0 ≤ i)
/-- where the reference writes in an expression -/
def insE (S q0 a i : Nat) : Prop := (a = 64 ∧ (i = 11 ∨ i = 12 ∨ i = 13 ∨ i = 14 ∨ i = 39 ∨ i = 43)) ∨ a = 93 ∨ (91 ≤ a ∧ a ≤ 92 ∧ 700 * S + q0 ≤ i ∧ i < 700 * S + 700)
theorem insE_64 {i : Nat} (h : i = 11 ∨ i = 12 ∨ i = 13 ∨ i = 14 ∨ i = 39 ∨ i = 43) : insE S q0 64 i := Or.inl ⟨rfl, h⟩
theorem emit_frm {G : mG} {x y : Int} {P : Nat} (h : frm (insE S q0) G H) (h39 : H 64 39 = (P : Int)) (h1 : 700 * S + q0 ≤ P) (h2 : P < 700 * S + 700) : frm (insE S q0) G (e_X12_emit H x y) := by
  unfold e_X12_emit
  rw [h39, st_nat]
  exact frm_gs (frm_gs (frm_gs h (Or.inr (Or.inr ⟨by decide, by decide, h1, h2⟩))) (Or.inr (Or.inr ⟨by decide, by decide, h1, h2⟩))) (insE_64 (by decide))
theorem code_frm {G : mG} {x y : Int} {P : Nat} (h : frm (insX c k p0) G s) (h13 : s c 13 = (P : Int)) (hP : P < 600) (h12 : s c 12 = ((k + 1 : Nat) : Int)) (hk : k < 40) (hp : p0 ≤ P) : frm (insX c k p0) G (e_X1_addCode c s x y) := by
  rw [code_eq h13 hP h12 hk]
  refine frm_gs (frm_gs (frm_gs h ?_) ?_) ?_
  · exact Or.inr (Or.inr (Or.inr (Or.inr (Or.inr ⟨rfl, hp⟩))))
  · exact Or.inr (Or.inr (Or.inr (Or.inl ⟨rfl, rfl⟩)))
  · exact Or.inr (Or.inr (Or.inr (Or.inr (Or.inl ⟨rfl, rfl⟩))))
theorem emit_f {P : Nat} {x y : Int} (h : H 64 39 = (P : Int)) (hP : P < 1400) : (e_X12_emit H x y) 64 39 = ((P + 1 : Nat) : Int) ∧ (e_X12_emit H x y) 91 P = x ∧ (e_X12_emit H x y) 92 P = y ∧ (∀ i, i ≠ P → (e_X12_emit H x y) 91 i = H 91 i ∧ (e_X12_emit H x y) 92 i = H 92 i) ∧ (∀ i, i ≠ 39 → (e_X12_emit H x y) 64 i = H 64 i) ∧ (∀ a, a ≠ 64 → a ≠ 91 → a ≠ 92 → (e_X12_emit H x y) a = H a) := by
  unfold e_X12_emit
  rw [h, st_nat, w32_nat (by omega)]
  refine ⟨gs_at _ _ _ _, ?_, ?_, fun i hi => ⟨?_, ?_⟩, fun i hi => ?_, fun a h1 h2 h3 => ?_⟩
  · rw [gs_ne (by decide), gs_ne (by decide), gs_at]
  · rw [gs_ne (by decide), gs_at]
  · rw [gs_ne (by decide), gs_ne (by decide), gs_at_ne hi]
  · rw [gs_ne (by decide), gs_at_ne hi, gs_ne (by decide)]
  · rw [gs_at_ne hi, gs_ne (by decide), gs_ne (by decide)]
  · rw [gs_ne h1, gs_ne h3, gs_ne h2]
theorem code_f {P : Nat} {x y : Int} (h13 : s c 13 = (P : Int)) (hP : P < 600) (h12 : s c 12 = ((k + 1 : Nat) : Int)) (hk : k < 40) : (e_X1_addCode c s x y) c 13 = ((P + 1 : Nat) : Int) ∧ (e_X1_addCode c s x y) (c + 10) k = ((P + 1 : Nat) : Int) ∧ (e_X1_addCode c s x y) (c + 11) P = w32 (w32 (x * 10000) + y) ∧ (∀ i, i ≠ P → (e_X1_addCode c s x y) (c + 11) i = s (c + 11) i) ∧ (∀ i, i ≠ 13 → (e_X1_addCode c s x y) c i = s c i) ∧ (∀ i, i ≠ k → (e_X1_addCode c s x y) (c + 10) i = s (c + 10) i) ∧ (∀ a, a ≠ c → a ≠ c + 10 → a ≠ c + 11 → (e_X1_addCode c s x y) a = s a) := by
  rw [code_eq h13 hP h12 hk]
  refine ⟨?_, gs_at _ _ _ _, ?_, fun i hi => ?_, fun i hi => ?_, fun i hi => ?_, fun a h1 h2 h3 => ?_⟩
  · rw [gs_ne (by omega), gs_at]
  · rw [gs_ne (by omega), gs_ne (by omega), gs_at]
  · rw [gs_ne (by omega), gs_ne (by omega), gs_at_ne hi]
  · rw [gs_ne (by omega), gs_at_ne hi, gs_ne (by omega)]
  · rw [gs_at_ne hi, gs_ne (by omega), gs_ne (by omega)]
  · rw [gs_ne h2, gs_ne h1, gs_ne h3]
theorem sgR_op {cd ci va : Nat → Int} {i : Nat} {T : List Int} (h : 2 ≤ cd i) (hT : 2 ≤ T.length) : ∃ U, sgR cd ci va i T = some U ∧ U.length + 1 = T.length := by
  match T, hT with
  | b :: a :: T', _ =>
    unfold sgR
    rw [if_neg (by omega)]
    exact ⟨_, rfl, rfl⟩
theorem sgR_num {cd ci va : Nat → Int} {i : Nat} {T : List Int} (h : cd i = 0) : sgR cd ci va i T = some (ci i :: T) := by
  unfold sgR
  rw [if_pos (by omega), if_pos h]
theorem sgR_var {cd ci va : Nat → Int} {i : Nat} {T : List Int} (h : cd i = 1) (h2 : 0 ≤ ci i ∧ ci i < 6) : sgR cd ci va i T = some (va (ci i).toNat :: T) := by
  unfold sgR
  rw [if_pos (by omega), if_neg (by omega), if_pos h2]
/-- a sign comes out on both sides -/
theorem XI_op (hc : c = 40 ∨ c = 52) (hk : k < 40) {j : Nat} (h : XI c S k p0 q0 w0 n (j + 1) d 1 s H) (hj : ¬ H 93 j = 6) (hp : p0 + n < 600) (hq : 700 * S + q0 + n < 1400) : XI c S k p0 q0 w0 (n + 1) j d 1 (gs (e_X1_addCode c s (s 19 (w0 + j)) 0) 15 5 ((w0 + j : Nat) : Int)) (e_X12_emit (gs H 64 43 ((j : Nat) : Int)) (rk2 (H 93 j)) 0) := by
  obtain ⟨w1, w2⟩ := h.wt j (by omega)
  have hw : H 93 j = 8 ∨ H 93 j = 9 ∨ H 93 j = 10 := by omega
  obtain ⟨k1, k2, k3⟩ := rk2_v hw
  have hmm := XI_m h
  have hwo : (wb (H 93) j).1 = d := by
    have := h.wo
    rw [wb_s, if_neg hj] at this
    exact this
  have hdj := (wb_2 (H 93) j).2
  have h39 : (gs H 64 43 ((j : Nat) : Int)) 64 39 = ((700 * S + q0 + n : Nat) : Int) := by rw [gs_at_ne (by decide)]; exact h.cr
  obtain ⟨f1, f2, f3, f4, f5, f6⟩ := emit_f (x := rk2 (H 93 j)) (y := 0) h39 hq
  obtain ⟨g1, g2, g3, g4, g5, g6, g7⟩ := code_f (x := s 19 (w0 + j)) (y := 0) h.cl hp h.c12 hk
  generalize rk2 (H 93 j) = rk at *
  generalize e_X12_emit (gs H 64 43 ((j : Nat) : Int)) rk 0 = H1 at *
  generalize e_X1_addCode c s (s 19 (w0 + j)) 0 = s1 at *
  have e15 : s1 15 = s 15 := g7 15 (by omega) (by omega) (by omega)
  have e19 : s1 19 = s 19 := g7 19 (by omega) (by omega) (by omega)
  refine XI_emit (m' := j) (u' := 1) (k1 := rk) (v := 0) h (Or.inr (Or.inr ⟨k1, k2, rfl⟩)) (by omega) hwo ?_ ?_ ?_ ?_ ?_ ?_ ?_ ?_ ?_ ?_ ?_ ?_ ?_ ?_ ?_
  · rw [gs_ne (by omega)]; exact g5 12 (by decide)
  · rw [gs_ne (by omega)]; exact g1
  · rw [gs_ne (by omega)]; exact g2
  · intro i hi
    rw [gs_ne (by omega)]; exact g4 i (by omega)
  · rw [gs_ne (by omega), g3, w1]; exact k3.symm
  · exact gs_at _ _ _ _
  · rw [gs_at_ne (by decide), e15]
  · intro i hi
    rw [gs_ne (by decide), e19]
  · exact f1
  · rw [f5 43 (by decide), gs_at]
  · rw [f5 12 (by decide), gs_at_ne (by decide)]
  · intro i hi
    obtain ⟨a, b⟩ := f4 i (by omega)
    rw [a, b, gs_ne (by decide), gs_ne (by decide)]
    exact ⟨rfl, rfl⟩
  · exact ⟨f2, f3⟩
  · intro i hi
    rw [f6 93 (by decide) (by decide) (by decide), gs_ne (by decide)]
  · intro va T hl
    obtain ⟨U, u1, u2⟩ := sgR_op (cd := H1 91) (ci := H1 92) (va := va) (i := 700 * S + q0 + n) (T := T) (by rw [f2]; exact k1) (by omega)
    exact ⟨U, u1, by omega, by omega⟩
theorem crk_km {w : Int} : (w = 6 → crk (km w) = 0) ∧ (w = 8 ∨ w = 9 → crk (km w) = 4) ∧ (w = 10 → crk (km w) = 5) := by
  refine ⟨fun e => ?_, fun e => ?_, fun e => ?_⟩
  · subst e; decide
  · rcases e with e | e <;> subst e <;> decide
  · subst e; decide
/-- both release in step -/
theorem XI_rel (hc : c = 40 ∨ c = 52) (hk : k < 40) {x z : Int} (hxz : (z = 0 ∧ 1 ≤ x ∧ x ≤ 4) ∨ (z = 1 ∧ x = 5)) (hS : S ≤ 1) : ∀ (m n : Nat) (s H : mG), XI c S k p0 q0 w0 n m d 1 s H → p0 + n + (m - d) ≤ 600 → q0 + n + (m - d) ≤ 700 →
    ∃ n' m' s', rl c x (w0 + m) s = rl c x (w0 + m') s' ∧ m' ≤ m ∧ n ≤ n' ∧ n' + (m' - d) = n + (m - d) ∧ XI c S k p0 q0 w0 n' m' d 1 s' (cO z m H) ∧ (m' = 0 ∨ (0 < m' ∧ (H 93 (m' - 1) = 6 ∨ (z = 1 ∧ ¬ H 93 (m' - 1) = 10)) ∧ rl c x (w0 + m') s' = s')) ∧ frm (insX c k p0) s s' ∧ frm (insE S q0) H (cO z m H) ∧ (∀ i, i < w0 → s' 19 i = s 19 i) ∧ s' 15 8 = s 15 8 := by
  intro m
  induction m with
  | zero =>
    intro n s H h _ _
    exact ⟨n, 0, s, rfl, Nat.le_refl 0, Nat.le_refl n, rfl, h, Or.inl rfl, frm_rf, frm_rf, fun _ _ => rfl, rfl⟩
  | succ j ih =>
    intro n s H h hp hq
    obtain ⟨w1, w2⟩ := h.wt j (by omega)
    obtain ⟨v1, v2, v3⟩ := crk_km (w := H 93 j)
    have e : cO z (j + 1) H = if H 93 j = 6 ∨ (¬ z = 0 ∧ ¬ H 93 j = 10) then H else cO z j (e_X12_emit (gs H 64 43 ((j : Nat) : Int)) (rk2 (H 93 j)) 0) := rfl
    have e2 : rl c x (w0 + (j + 1)) s = if x ≤ crk (s 19 (w0 + j)) then rl c x (w0 + j) (gs (e_X1_addCode c s (s 19 (w0 + j)) 0) 15 5 ((w0 + j : Nat) : Int)) else s := rfl
    by_cases y : H 93 j = 6 ∨ (¬ z = 0 ∧ ¬ H 93 j = 10)
    · rw [e, if_pos y]
      have hlt : ¬ x ≤ crk (s 19 (w0 + j)) := by
        rw [w1]
        rcases y with y | y
        · rw [v1 y]; omega
        · by_cases y6 : H 93 j = 6
          · rw [v1 y6]; omega
          · rw [v2 (by omega)]; omega
      refine ⟨n, j + 1, s, rfl, Nat.le_refl _, Nat.le_refl n, rfl, h, Or.inr ⟨by omega, ?_, ?_⟩, frm_rf, frm_rf, fun _ _ => rfl, rfl⟩
      · rw [show j + 1 - 1 = j from rfl]
        rcases y with y | y
        · exact Or.inl y
        · exact Or.inr ⟨by omega, y.2⟩
      · rw [e2, if_neg hlt]
    · rw [e, if_neg y]
      have hw : ¬ H 93 j = 6 := fun q => y (Or.inl q)
      have hge : x ≤ crk (s 19 (w0 + j)) := by
        rw [w1]
        by_cases y10 : H 93 j = 10
        · rw [v3 y10]; omega
        · rw [v2 (by omega)]
          have : z = 0 := Classical.byContradiction (fun q => y (Or.inr ⟨q, y10⟩))
          omega
      have hmm := XI_m h
      have hwo : (wb (H 93) j).1 = d := by
        have := h.wo
        rw [wb_s, if_neg hw] at this
        exact this
      have hdj := (wb_2 (H 93) j).2
      have hx := XI_op hc hk h hw (by omega) (by omega)
      have fs := code_frm (x := s 19 (w0 + j)) (y := 0) (frm_rf (P := insX c k p0) (G := s)) h.cl (by omega) h.c12 hk (by omega)
      have fs2 : frm (insX c k p0) s (gs (e_X1_addCode c s (s 19 (w0 + j)) 0) 15 5 ((w0 + j : Nat) : Int)) := frm_gs fs (Or.inr (Or.inr (Or.inl ⟨rfl, Or.inl rfl⟩)))
      have fh := emit_frm (x := rk2 (H 93 j)) (y := 0) (frm_gs (frm_rf (P := insE S q0) (G := H)) (k := 64) (i := 43) (v := ((j : Nat) : Int)) (insE_64 (by decide))) (P := 700 * S + q0 + n) (by rw [gs_at_ne (by decide)]; exact h.cr) (by omega) (by omega)
      obtain ⟨g1, g2, g3, g4, g5, g6, g7⟩ := code_f (x := s 19 (w0 + j)) (y := 0) h.cl (by omega) h.c12 hk
      have z8 : (gs (e_X1_addCode c s (s 19 (w0 + j)) 0) 15 5 ((w0 + j : Nat) : Int)) 15 8 = s 15 8 := by rw [gs_at_ne (by decide), g7 15 (by omega) (by omega) (by omega)]
      have z19 : (gs (e_X1_addCode c s (s 19 (w0 + j)) 0) 15 5 ((w0 + j : Nat) : Int)) 19 = s 19 := by rw [gs_ne (by decide), g7 19 (by omega) (by omega) (by omega)]
      obtain ⟨f1, f2, f3, f4, f5, f6⟩ := emit_f (H := gs H 64 43 ((j : Nat) : Int)) (P := 700 * S + q0 + n) (x := rk2 (H 93 j)) (y := 0) (by rw [gs_at_ne (by decide)]; exact h.cr) (by omega)
      have z93 : (e_X12_emit (gs H 64 43 ((j : Nat) : Int)) (rk2 (H 93 j)) 0) 93 = H 93 := by rw [f6 93 (by decide) (by decide) (by decide), gs_ne (by decide)]
      rw [e2, if_pos hge]
      generalize e_X12_emit (gs H 64 43 ((j : Nat) : Int)) (rk2 (H 93 j)) 0 = H1 at *
      generalize gs (e_X1_addCode c s (s 19 (w0 + j)) 0) 15 5 ((w0 + j : Nat) : Int) = s1 at *
      obtain ⟨n', m', s', i1, i2, i3, i4, i5, i6, i7, i8, i9, i10⟩ := ih (n + 1) s1 H1 hx (by omega) (by omega)
      refine ⟨n', m', s', i1, by omega, by omega, by omega, i5, ?_, frm_tr fs2 i7, frm_tr fh i8, fun i hi => by rw [i9 i hi, z19], by rw [i10, z8]⟩
      rw [z93] at i6
      exact i6
end XIS
