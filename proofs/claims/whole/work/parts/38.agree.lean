/-! ===== the search as mathematics: two plans that agree; what is gained is what is given ===== -/
/-- two plans agree on n boards -/
def agr (P P' : sP) (n : Nat) : Prop := ∀ b, b < n → sop P b = sop P' b ∧ sbe P b = sbe P' b ∧ ∀ i, i < sop P b → scl P b i = scl P' b i ∧ sgn P b i = sgn P' b i ∧ sow P (scl P b i) = sow P' (scl P b i)
def agA (P P' : sP) (n : Nat) (ah : Int) : Prop := ∀ b i, b < n → i < sop P b → sbe P b = true → sap P ah (sow P (scl P b i)) = sap P' ah (sow P (scl P b i))
theorem proc_s {P : sP} {m b : Nat} {g ah : Int} {lf pk : Nat → Int} {A : sA} : proc P (m + 1) b g ah lf pk A = fd (fun i A => bif sOk P b ah lf (scl P b i) then proc P m (b + 1) (g + sgn P b i) (sow P (scl P b i)) (sUse lf (scl P b i)) (setN pk b (scl P b i)) A else A) A (sop P b) := rfl
theorem proc_cg {P P' : sP} {n : Nat} (h : agr P P' n) (ho : ∀ b i, b < n → i < sop P b → agA P P' n (sow P (scl P b i))) : ∀ (m b : Nat), b + m = n → ∀ (g ah : Int) (lf pk : Nat → Int) (A : sA), agA P P' n ah → proc P m b g ah lf pk A = proc P' m b g ah lf pk A := by
  intro m
  induction m with
  | zero => intro b hb g ah lf pk A ha; rfl
  | succ m ih =>
    intro b hb g ah lf pk A ha
    obtain ⟨h1, h2, h3⟩ := h b (by omega)
    rw [proc_s, proc_s, ← h1]
    refine fd_congr (fun i s hi => ?_)
    obtain ⟨e1, e2, e3⟩ := h3 i hi
    have e4 : sOk P' b ah lf (scl P' b i) = sOk P b ah lf (scl P b i) := by
      unfold sOk
      rw [← e1, ← e3, ← h2]
      cases hb2 : sbe P b with
      | false => rfl
      | true => rw [ha b i (by omega) hi hb2]
    rw [e4, ← e1, ← e2, ← e3, ih (b + 1) (by omega) _ _ _ _ _ (ho b i (by omega) hi)]
/-- the sum of what the first b boards gain -/
def gsum (gn : Nat → Int → Int) (f : Nat → Int) : Nat → Int
  | 0 => 0
  | b + 1 => gsum gn f b + gn b (f b)
theorem gsum_congr {gn : Nat → Int → Int} {f f' : Nat → Int} {n : Nat} (h : ∀ i, i < n → f i = f' i) : gsum gn f n = gsum gn f' n := by
  induction n with
  | zero => rfl
  | succ n ih => show gsum gn f n + gn n (f n) = gsum gn f' n + gn n (f' n); rw [ih (fun i hi => h i (by omega)), h n (by omega)]
def gGood (P : sP) (gn : Nat → Int → Int) (g : Int) (f : Nat → Int) (b : Nat) : Prop := g = gsum gn f b ∧ ∀ i, i < b → ∃ j, j < sop P i ∧ f i = scl P i j
theorem gGood_s {P : sP} {gn : Nat → Int → Int} {g : Int} {f : Nat → Int} {b j : Nat} (h : gGood P gn g f b) (hj : j < sop P b) (hg : sgn P b j = gn b (scl P b j)) : gGood P gn (g + sgn P b j) (setN f b (scl P b j)) (b + 1) := by
  refine ⟨?_, fun i hi => ?_⟩
  · show _ = gsum gn (setN f b (scl P b j)) b + gn b (setN f b (scl P b j) b)
    rw [gsum_congr (f' := f) (fun i hi => by unfold setN; rw [if_neg (by omega)]), ← h.1, hg]
    unfold setN
    rw [if_pos rfl]
  · by_cases hib : i = b
    · subst hib
      exact ⟨j, hj, by unfold setN; rw [if_pos rfl]⟩
    · obtain ⟨q, q1, q2⟩ := h.2 i (by omega)
      exact ⟨q, q1, by unfold setN; rw [if_neg hib]; exact q2⟩
theorem proc_fin {P : sP} {gn : Nat → Int → Int} {n : Nat} (hg : ∀ b i, b < n → i < sop P b → sgn P b i = gn b (scl P b i)) : ∀ (m b : Nat), b + m = n → ∀ (g ah : Int) (lf pk : Nat → Int) (A : sA), gGood P gn g pk b → proc P m b g ah lf pk A = A ∨ gGood P gn (proc P m b g ah lf pk A).1 (proc P m b g ah lf pk A).2 n := by
  intro m
  induction m with
  | zero =>
    intro b hb g ah lf pk A hG
    have hbn : b = n := by omega
    subst hbn
    show (if A.1 < g then (g, pk) else A) = A ∨ gGood P gn (if A.1 < g then (g, pk) else A).1 (if A.1 < g then (g, pk) else A).2 b
    by_cases hA : A.1 < g
    · rw [if_pos hA]; exact Or.inr hG
    · rw [if_neg hA]; exact Or.inl rfl
  | succ m ih =>
    intro b hb g ah lf pk A hG
    rw [proc_s]
    refine fd_inv (fun _ s => s = A ∨ gGood P gn s.1 s.2 n) (Or.inl rfl) (fun j s hj hI => ?_)
    cases ho : sOk P b ah lf (scl P b j) with
    | false => exact hI
    | true =>
      show proc P m (b + 1) (g + sgn P b j) (sow P (scl P b j)) (sUse lf (scl P b j)) (setN pk b (scl P b j)) s = A ∨ _
      rcases ih (b + 1) (by omega) (g + sgn P b j) (sow P (scl P b j)) (sUse lf (scl P b j)) (setN pk b (scl P b j)) s (gGood_s hG hj (hg b j (by omega) hj)) with h1 | h1
      · rw [h1]
        rcases hI with h2 | h2
        · exact Or.inl h2
        · exact Or.inr h2
      · exact Or.inr h1
/-- behind a whole search from an empty start the best way is one of the ways, and its gain is its sum -/
theorem proc_best {P : sP} {gn : Nat → Int → Int} {n : Nat} (hg : ∀ b i, b < n → i < sop P b → sgn P b i = gn b (scl P b i)) {l : Int} {lf pk : Nat → Int} {A : sA} {v : Int} (hv : rc P n 0 (-1) lf v) (hl : l ≤ v) (hA : A.1 < l) : gGood P gn (proc P n 0 0 (-1) lf pk A).1 (proc P n 0 0 (-1) lf pk A).2 n := by
  rcases proc_fin hg n 0 (by omega) 0 (-1) lf pk A ⟨rfl, fun i hi => absurd hi (by omega)⟩ with h | h
  · have h2 := (proc_ge (P := P) (m := n) (b := 0) (g := 0) (ah := -1) (lf := lf) (pk := pk) (A := A)).2 v hv
    rw [h] at h2
    omega
  · exact h
/-- what boards can gain at most by themselves bounds what they gain together -/
theorem hope_dom {P : sP} {n : Nat} {hp : Nat → Int} (h0 : hp n = 0) (hs : ∀ b i, b < n → i < sop P b → sgn P b i ≤ 16 * (hp b - hp (b + 1))) : ∀ (m b : Nat), b + m = n → ∀ (ah : Int) (lf : Nat → Int), dom P m b ah lf (16 * hp b) := by
  intro m
  induction m with
  | zero =>
    intro b hb ah lf v hv
    have hv : v = 0 := hv
    rw [show b = n by omega, h0]
    omega
  | succ m ih =>
    intro b hb ah lf v hv
    obtain ⟨i, h1, _, h3⟩ := hv
    have h4 := ih (b + 1) (by omega) _ _ _ h3
    have h5 := hs b i (by omega) h1
    omega
