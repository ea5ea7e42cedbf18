/-! ===== all ways to give the boards, in their order; the first best one ===== -/
abbrev sP : Type := (Nat → Nat) × (Nat → Nat → Int) × (Nat → Nat → Int) × (Int → Int) × (Nat → Bool) × (Int → Int → Bool)
def sop (P : sP) : Nat → Nat := P.1
def scl (P : sP) : Nat → Nat → Int := P.2.1
def sgn (P : sP) : Nat → Nat → Int := P.2.2.1
def sow (P : sP) : Int → Int := P.2.2.2.1
def sbe (P : sP) : Nat → Bool := P.2.2.2.2.1
def sap (P : sP) : Int → Int → Bool := P.2.2.2.2.2
abbrev sA : Type := Int × (Nat → Int)
def sFree (lf : Nat → Int) (w : Int) : Bool := decide (w < 0) || (decide (w < 40) && decide (0 < lf w.toNat))
def sUse (lf : Nat → Int) (w : Int) : Nat → Int := fun i => if (i : Int) = w then lf i - 1 else lf i
def sOk (P : sP) (b : Nat) (ah : Int) (lf : Nat → Int) (w : Int) : Bool := sFree lf w && !(sbe P b && sap P ah (sow P w))
def setN (f : Nat → Int) (b : Nat) (w : Int) : Nat → Int := fun i => if i = b then w else f i
/-- all ways to fill m boards from b on are tried in their order; a better one is kept -/
def proc (P : sP) : Nat → Nat → Int → Int → (Nat → Int) → (Nat → Int) → sA → sA
  | 0, _, g, _, _, pk, A => if A.1 < g then (g, pk) else A
  | m + 1, b, g, ah, lf, pk, A => fd (fun i A => bif sOk P b ah lf (scl P b i) then proc P m (b + 1) (g + sgn P b i) (sow P (scl P b i)) (sUse lf (scl P b i)) (setN pk b (scl P b i)) A else A) A (sop P b)
/-- what the boards from b on can gain -/
def rc (P : sP) : Nat → Nat → Int → (Nat → Int) → Int → Prop
  | 0, _, _, _, v => v = 0
  | m + 1, b, ah, lf, v => ∃ i, i < sop P b ∧ sOk P b ah lf (scl P b i) = true ∧ rc P m (b + 1) (sow P (scl P b i)) (sUse lf (scl P b i)) (v - sgn P b i)
def dom (P : sP) (m b : Nat) (ah : Int) (lf : Nat → Int) (x : Int) : Prop := ∀ v, rc P m b ah lf v → v ≤ x
theorem dom_le {P : sP} {m b : Nat} {ah : Int} {lf : Nat → Int} {x y : Int} (h : dom P m b ah lf x) (hx : x ≤ y) : dom P m b ah lf y := fun v hv => Int.le_trans (h v hv) hx
theorem dom_s {P : sP} {m b : Nat} {ah : Int} {lf : Nat → Int} {x : Int} {i : Nat} (h : dom P (m + 1) b ah lf x) (hi : i < sop P b) (ho : sOk P b ah lf (scl P b i) = true) : dom P m (b + 1) (sow P (scl P b i)) (sUse lf (scl P b i)) (x - sgn P b i) := by
  intro v hv
  have := h (v + sgn P b i) ⟨i, hi, ho, by rw [show v + sgn P b i - sgn P b i = v by omega]; exact hv⟩
  omega
theorem fd_id {α : Type} {g : Nat → α → α} {a : α} {n : Nat} (h : ∀ j, j < n → g j a = a) : fd g a n = a := by
  induction n with
  | zero => rfl
  | succ n ih => rw [fd_s, ih (fun j hj => h j (by omega)), h n (by omega)]
theorem proc_dom {P : sP} {m b : Nat} {g ah : Int} {lf pk : Nat → Int} {A : sA} (h : dom P m b ah lf (A.1 - g)) : proc P m b g ah lf pk A = A := by
  induction m generalizing b g ah lf pk with
  | zero =>
    have := h 0 rfl
    unfold proc
    rw [if_neg (by omega)]
  | succ m ih =>
    unfold proc
    refine fd_id (fun i hi => ?_)
    cases ho : sOk P b ah lf (scl P b i) with
    | false => rfl
    | true => exact ih (dom_le (dom_s h hi ho) (by omega))
theorem proc_ge {P : sP} {m b : Nat} {g ah : Int} {lf pk : Nat → Int} {A : sA} : A.1 ≤ (proc P m b g ah lf pk A).1 ∧ dom P m b ah lf ((proc P m b g ah lf pk A).1 - g) := by
  induction m generalizing b g ah lf pk A with
  | zero =>
    unfold proc
    by_cases h : A.1 < g
    · rw [if_pos h]
      refine ⟨by show A.1 ≤ g; omega, fun v hv => ?_⟩
      have hv : v = 0 := hv
      show v ≤ g - g
      omega
    · rw [if_neg h]
      refine ⟨Int.le_refl _, fun v hv => ?_⟩
      have hv : v = 0 := hv
      omega
  | succ m ih =>
    unfold proc
    have key := fd_inv (g := fun i A => bif sOk P b ah lf (scl P b i) then proc P m (b + 1) (g + sgn P b i) (sow P (scl P b i)) (sUse lf (scl P b i)) (setN pk b (scl P b i)) A else A) (a := A) (n := sop P b)
      (fun j s => A.1 ≤ s.1 ∧ ∀ i, i < j → sOk P b ah lf (scl P b i) = true → dom P m (b + 1) (sow P (scl P b i)) (sUse lf (scl P b i)) (s.1 - g - sgn P b i))
      ⟨Int.le_refl _, fun i hi => absurd hi (by omega)⟩
      (by
        intro j s hj hI
        show A.1 ≤ (bif sOk P b ah lf (scl P b j) then proc P m (b + 1) (g + sgn P b j) (sow P (scl P b j)) (sUse lf (scl P b j)) (setN pk b (scl P b j)) s else s).1 ∧ _
        cases ho : sOk P b ah lf (scl P b j) with
        | false =>
          refine ⟨hI.1, fun i hi hok => ?_⟩
          by_cases hij : i = j
          · rw [hij, ho] at hok; cases hok
          · exact hI.2 i (by omega) hok
        | true =>
          have hp := ih (b := b + 1) (g := g + sgn P b j) (ah := sow P (scl P b j)) (lf := sUse lf (scl P b j)) (pk := setN pk b (scl P b j)) (A := s)
          refine ⟨Int.le_trans hI.1 hp.1, fun i hi hok => ?_⟩
          by_cases hij : i = j
          · rw [hij]
            exact dom_le hp.2 (by show _ ≤ (proc P m (b + 1) (g + sgn P b j) (sow P (scl P b j)) (sUse lf (scl P b j)) (setN pk b (scl P b j)) s).1 - g - sgn P b j; omega)
          · exact dom_le (hI.2 i (by omega) hok) (by show _ ≤ (proc P m (b + 1) (g + sgn P b j) (sow P (scl P b j)) (sUse lf (scl P b j)) (setN pk b (scl P b j)) s).1 - g - sgn P b i; have := hp.1; omega))
    refine ⟨key.1, fun v hv => ?_⟩
    obtain ⟨i, hi, ho, hr⟩ := hv
    have := key.2 i hi ho _ hr
    omega
/-- with less taken and nobody ahead no less can be gained -/
theorem sFree_mono {lf lf' : Nat → Int} {w : Int} (hl : ∀ i, i < 40 → lf i ≤ lf' i) (h : sFree lf w = true) : sFree lf' w = true := by
  unfold sFree at *
  rw [Bool.or_eq_true_iff] at *
  rcases h with h | h
  · exact Or.inl h
  · refine Or.inr ?_
    rw [Bool.and_eq_true_iff] at *
    refine ⟨h.1, ?_⟩
    have h2 := of_decide_eq_true h.2
    have h1 := of_decide_eq_true h.1
    have := hl w.toNat (by omega)
    exact decide_eq_true (by omega)
theorem sUse_mono {lf lf' : Nat → Int} {w : Int} (hl : ∀ i, i < 40 → lf i ≤ lf' i) : ∀ i, i < 40 → sUse lf w i ≤ sUse lf' w i := by
  intro i hi
  unfold sUse
  have := hl i hi
  split <;> omega
theorem rc_mono {P : sP} (hap : ∀ x, sap P (-1) x = false) {m b : Nat} {ah ah' : Int} {lf lf' : Nat → Int} {v : Int} (ha : ah' = ah ∨ ah' = -1) (hl : ∀ i, i < 40 → lf i ≤ lf' i) (h : rc P m b ah lf v) : rc P m b ah' lf' v := by
  induction m generalizing b ah ah' lf lf' v with
  | zero => exact h
  | succ m ih =>
    obtain ⟨i, hi, ho, hr⟩ := h
    refine ⟨i, hi, ?_, ih (Or.inl rfl) (sUse_mono hl) hr⟩
    unfold sOk at *
    rw [Bool.and_eq_true_iff] at *
    refine ⟨sFree_mono hl ho.1, ?_⟩
    rcases ha with rfl | rfl
    · exact ho.2
    · rw [hap]; simp
/-- alike for all that the boards from b on can tell -/
def sEq (tk : Nat → Nat → Int) (b : Nat) (lf lf' : Nat → Int) : Prop := ∀ w, w < 40 → 0 < tk b w → mMin (tk b w) (lf w) = mMin (tk b w) (lf' w)
theorem rc_eq {P : sP} {n : Nat} {tk : Nat → Nat → Int} (h1 : ∀ b w, b < n → w < 40 → 0 ≤ tk (b + 1) w ∧ tk (b + 1) w ≤ tk b w) (h2 : ∀ b i, b < n → i < sop P b → 0 ≤ scl P b i → scl P b i < 40 ∧ tk (b + 1) (scl P b i).toNat + 1 ≤ tk b (scl P b i).toNat)
    {m b : Nat} (hb : b + m = n) {ah ah' : Int} {lf lf' : Nat → Int} {v : Int} (ha : sbe P b = true → ah' = ah) (hl : sEq tk b lf lf') (h : rc P m b ah lf v) : rc P m b ah' lf' v := by
  induction m generalizing b ah ah' lf lf' v with
  | zero => exact h
  | succ m ih =>
    obtain ⟨i, hi, ho, hr⟩ := h
    refine ⟨i, hi, ?_, ih (by omega) (fun _ => rfl) ?_ hr⟩
    · unfold sOk at *
      rw [Bool.and_eq_true_iff] at *
      constructor
      · have hf := ho.1
        unfold sFree at *
        rw [Bool.or_eq_true_iff] at *
        rcases hf with hf | hf
        · exact Or.inl hf
        · by_cases hw : scl P b i < 0
          · exact Or.inl (decide_eq_true hw)
          · refine Or.inr ?_
            rw [Bool.and_eq_true_iff] at *
            refine ⟨hf.1, decide_eq_true ?_⟩
            have g2 := of_decide_eq_true hf.2
            obtain ⟨q1, q2⟩ := h2 b i (by omega) hi (by omega)
            have q3 := h1 b (scl P b i).toNat (by omega) (by omega)
            have q4 := hl (scl P b i).toNat (by omega) (by omega)
            unfold mMin at q4
            split at q4 <;> split at q4 <;> omega
      · cases hbe : sbe P b with
        | false => simp
        | true => rw [ha hbe]; have := ho.2; rw [hbe] at this; exact this
    · intro w hw ht
      have q3 := h1 b w (by omega) hw
      have q4 := hl w hw (by omega)
      unfold mMin at q4 ⊢
      unfold sUse
      by_cases hwi : (w : Int) = scl P b i
      · rw [if_pos hwi, if_pos hwi]
        obtain ⟨q1, q2⟩ := h2 b i (by omega) hi (by omega)
        have e : (scl P b i).toNat = w := by omega
        rw [e] at q2
        split at q4 <;> split at q4 <;> split <;> split <;> omega
      · rw [if_neg hwi, if_neg hwi]
        split at q4 <;> split at q4 <;> split <;> split <;> omega
/-- what is kept doesn't hang on what was kept before, as long as that is worse than all -/
def sR (n : Nat) (l : Int) (A B : sA) : Prop := (A.1 = B.1 ∧ ∀ i, i < n → A.2 i = B.2 i) ∨ (A.1 < l ∧ B.1 < l)
theorem proc_R {P : sP} {n N : Nat} {l : Int} {m b : Nat} (hb : b + m = n) {g ah : Int} {lf pk pk' : Nat → Int} {A B : sA} (hpk : ∀ i, i < N → (i < b ∨ n ≤ i) → pk i = pk' i) (hl : (A.1 < l ∧ B.1 < l) → ∀ v, rc P m b ah lf v → l ≤ g + v) (h : sR N l A B) : sR N l (proc P m b g ah lf pk A) (proc P m b g ah lf pk' B) := by
  induction m generalizing b g ah lf pk pk' A B with
  | zero =>
    unfold proc
    rcases h with ⟨h1, h2⟩ | ⟨h1, h2⟩
    · rw [h1]
      by_cases hc : B.1 < g
      · rw [if_pos hc, if_pos hc]
        exact Or.inl ⟨rfl, fun i hi => hpk i hi (by omega)⟩
      · rw [if_neg hc, if_neg hc]
        exact Or.inl ⟨h1, h2⟩
    · have hg := hl ⟨h1, h2⟩ 0 rfl
      rw [if_pos (by omega), if_pos (by omega)]
      exact Or.inl ⟨rfl, fun i hi => hpk i hi (by omega)⟩
  | succ m ih =>
    unfold proc
    have : ∀ k, k ≤ sop P b → sR N l (fd (fun i A => bif sOk P b ah lf (scl P b i) then proc P m (b + 1) (g + sgn P b i) (sow P (scl P b i)) (sUse lf (scl P b i)) (setN pk b (scl P b i)) A else A) A k) (fd (fun i A => bif sOk P b ah lf (scl P b i) then proc P m (b + 1) (g + sgn P b i) (sow P (scl P b i)) (sUse lf (scl P b i)) (setN pk' b (scl P b i)) A else A) B k) ∧ A.1 ≤ (fd (fun i A => bif sOk P b ah lf (scl P b i) then proc P m (b + 1) (g + sgn P b i) (sow P (scl P b i)) (sUse lf (scl P b i)) (setN pk b (scl P b i)) A else A) A k).1 ∧ B.1 ≤ (fd (fun i A => bif sOk P b ah lf (scl P b i) then proc P m (b + 1) (g + sgn P b i) (sow P (scl P b i)) (sUse lf (scl P b i)) (setN pk' b (scl P b i)) A else A) B k).1 := by
      intro k
      induction k with
      | zero => intro _; exact ⟨h, Int.le_refl _, Int.le_refl _⟩
      | succ k ihk =>
        intro hk
        rw [fd_s, fd_s]
        obtain ⟨hR, hA, hB⟩ := ihk (by omega)
        cases ho : sOk P b ah lf (scl P b k) with
        | false => simp only [cond_false]; exact ⟨hR, hA, hB⟩
        | true =>
          simp only [cond_true]
          refine ⟨ih (by omega) (fun i hi hi2 => ?_) (fun hlow v hv => ?_) hR, Int.le_trans hA proc_ge.1, Int.le_trans hB proc_ge.1⟩
          · unfold setN
            by_cases hib : i = b
            · rw [if_pos hib, if_pos hib]
            · rw [if_neg hib, if_neg hib]; exact hpk i hi (by omega)
          · have := hl ⟨by omega, by omega⟩ (v + sgn P b k) ⟨k, by omega, ho, by rw [show v + sgn P b k - sgn P b k = v by omega]; exact hv⟩
            omega
    exact (this _ (Nat.le_refl _)).1
theorem proc_pk {P : sP} {n N : Nat} {m b : Nat} (hb : b + m = n) {g ah : Int} {lf pk pk' : Nat → Int} {A B : sA} (hpk : ∀ i, i < N → (i < b ∨ n ≤ i) → pk i = pk' i) (h1 : A.1 = B.1) (h2 : ∀ i, i < N → A.2 i = B.2 i) : (proc P m b g ah lf pk A).1 = (proc P m b g ah lf pk' B).1 ∧ ∀ i, i < N → (proc P m b g ah lf pk A).2 i = (proc P m b g ah lf pk' B).2 i := by
  have := proc_R (P := P) (n := n) (N := N) (l := A.1) hb (g := g) (ah := ah) (lf := lf) hpk (fun hlow => by omega) (Or.inl ⟨h1, h2⟩)
  rcases this with h | ⟨h3, _⟩
  · exact h
  · have := (proc_ge (P := P) (m := m) (b := b) (g := g) (ah := ah) (lf := lf) (pk := pk) (A := A)).1
    omega
theorem proc_same {P : sP} {n : Nat} {l : Int} {lf pk pk' : Nat → Int} {A B : sA} {v : Int} (hv : rc P n 0 (-1) lf v) (hl : ∀ v, rc P n 0 (-1) lf v → l ≤ v) (hA : A.1 < l) (hB : B.1 < l) : (proc P n 0 0 (-1) lf pk A).1 = (proc P n 0 0 (-1) lf pk' B).1 ∧ ∀ i, i < n → (proc P n 0 0 (-1) lf pk A).2 i = (proc P n 0 0 (-1) lf pk' B).2 i := by
  have := proc_R (P := P) (n := n) (N := n) (l := l) (m := n) (b := 0) (by omega) (g := 0) (ah := -1) (lf := lf) (pk := pk) (pk' := pk') (A := A) (B := B) (fun i hi hi2 => absurd hi2 (by omega)) (fun _ v hv => by have := hl v hv; omega) (Or.inr ⟨hA, hB⟩)
  rcases this with h | ⟨h1, _⟩
  · exact h
  · have h2 := (proc_ge (P := P) (m := n) (b := 0) (g := 0) (ah := -1) (lf := lf) (pk := pk) (A := A)).2 v hv
    have := hl v hv
    omega
/-! ===== keys: alike for alike states alone ===== -/
theorem rad_inj {s s' t m m' : Int} (ht : 0 ≤ t) (hm : 0 ≤ m ∧ m ≤ t) (hm' : 0 ≤ m' ∧ m' ≤ t) (h : s * (t + 1) + m = s' * (t + 1) + m') : s = s' ∧ m = m' := by
  have hs : s = s' := by
    rcases Int.lt_trichotomy s s' with h1 | h1 | h1
    · exfalso
      have q : (s + 1) * (t + 1) ≤ s' * (t + 1) := Int.mul_le_mul_of_nonneg_right (by omega) (by omega)
      rw [Int.add_mul] at q
      omega
    · exact h1
    · exfalso
      have q : (s' + 1) * (t + 1) ≤ s * (t + 1) := Int.mul_le_mul_of_nonneg_right (by omega) (by omega)
      rw [Int.add_mul] at q
      omega
  rw [hs] at h
  exact ⟨hs, by omega⟩
def kS (tk : Nat → Nat → Int) (lf : Nat → Int) (b : Nat) (a : Int) (n : Nat) : Int := fd (fun w s => if 0 < tk b w then s * (tk b w + 1) + mMin (tk b w) (lf w) else s) a n
theorem mMin_r {t l : Int} (ht : 0 ≤ t) (hl : 0 ≤ l) : 0 ≤ mMin t l ∧ mMin t l ≤ t := by unfold mMin; split <;> omega
theorem kS_inj {tk : Nat → Nat → Int} {lf lf' : Nat → Int} {b : Nat} {a a' : Int} {n : Nat} (hl : ∀ w, w < n → 0 ≤ lf w ∧ 0 ≤ lf' w) (h : kS tk lf b a n = kS tk lf' b a' n) : a = a' ∧ ∀ w, w < n → 0 < tk b w → mMin (tk b w) (lf w) = mMin (tk b w) (lf' w) := by
  induction n with
  | zero => exact ⟨h, fun w hw => absurd hw (by omega)⟩
  | succ n ih =>
    have h' : (if 0 < tk b n then kS tk lf b a n * (tk b n + 1) + mMin (tk b n) (lf n) else kS tk lf b a n) = (if 0 < tk b n then kS tk lf' b a' n * (tk b n + 1) + mMin (tk b n) (lf' n) else kS tk lf' b a' n) := h
    have hln := hl n (by omega)
    by_cases ht : 0 < tk b n
    · rw [if_pos ht, if_pos ht] at h'
      obtain ⟨e1, e2⟩ := rad_inj (by omega) (mMin_r (by omega) hln.1) (mMin_r (by omega) hln.2) h'
      obtain ⟨f1, f2⟩ := ih (fun w hw => hl w (by omega)) e1
      refine ⟨f1, fun w hw hp => ?_⟩
      by_cases hwn : w = n
      · rw [hwn]; exact e2
      · exact f2 w (by omega) hp
    · rw [if_neg ht, if_neg ht] at h'
      obtain ⟨f1, f2⟩ := ih (fun w hw => hl w (by omega)) h'
      refine ⟨f1, fun w hw hp => ?_⟩
      by_cases hwn : w = n
      · rw [hwn] at hp; exact absurd hp ht
      · exact f2 w (by omega) hp
def pd (tk : Nat → Nat → Int) (b : Nat) (n : Nat) : Int := fd (fun w s => if 0 < tk b w then s * (tk b w + 1) else s) 1 n
theorem pd_pos {tk : Nat → Nat → Int} {b n : Nat} : 1 ≤ pd tk b n := by
  induction n with
  | zero => exact Int.le_refl _
  | succ n ih =>
    show 1 ≤ (if 0 < tk b n then pd tk b n * (tk b n + 1) else pd tk b n)
    by_cases ht : 0 < tk b n
    · rw [if_pos ht]
      have : 1 * 1 ≤ pd tk b n * (tk b n + 1) := Int.mul_le_mul ih (by omega) (by omega) (by omega)
      omega
    · rw [if_neg ht]; exact ih
theorem pd_mono {tk : Nat → Nat → Int} {b n : Nat} : pd tk b n ≤ pd tk b (n + 1) := by
  show pd tk b n ≤ (if 0 < tk b n then pd tk b n * (tk b n + 1) else pd tk b n)
  have hp := pd_pos (tk := tk) (b := b) (n := n)
  by_cases ht : 0 < tk b n
  · rw [if_pos ht]
    have : pd tk b n * 1 ≤ pd tk b n * (tk b n + 1) := Int.mul_le_mul_of_nonneg_left (by omega) (by omega)
    omega
  · rw [if_neg ht]; exact Int.le_refl _
theorem pd_le {tk : Nat → Nat → Int} {b n m : Nat} : pd tk b n ≤ pd tk b (n + m) := by
  induction m with
  | zero => exact Int.le_refl _
  | succ m ih => exact Int.le_trans ih pd_mono
/-- a product of radices is at most 2 to the sum -/
def sm (tk : Nat → Nat → Int) (b : Nat) (n : Nat) : Nat := fd (fun w (s : Nat) => s + (tk b w).toNat) 0 n
theorem two_le (t : Nat) : ((t : Int) + 1) ≤ 2 ^ t := by
  induction t with
  | zero => decide
  | succ t ih =>
    have h2 : (2 : Int) ^ (t + 1) = 2 ^ t * 2 := Int.pow_succ 2 t
    rw [h2]
    have : ((t + 1 : Nat) : Int) = (t : Int) + 1 := by omega
    omega
theorem pd_two {tk : Nat → Nat → Int} {b n : Nat} : pd tk b n ≤ 2 ^ (sm tk b n) := by
  induction n with
  | zero => show (1 : Int) ≤ 2 ^ 0; decide
  | succ n ih =>
    show (if 0 < tk b n then pd tk b n * (tk b n + 1) else pd tk b n) ≤ 2 ^ (sm tk b n + (tk b n).toNat)
    rw [Int.pow_add]
    have hp := pd_pos (tk := tk) (b := b) (n := n)
    have ht2 := two_le (tk b n).toNat
    by_cases ht : 0 < tk b n
    · rw [if_pos ht]
      exact Int.mul_le_mul ih (by omega) (by omega) (by omega)
    · rw [if_neg ht]
      have : pd tk b n * 1 ≤ 2 ^ sm tk b n * 2 ^ (tk b n).toNat := Int.mul_le_mul ih (by omega) (by omega) (by omega)
      omega
theorem kS_bd {tk : Nat → Nat → Int} {lf : Nat → Int} {b : Nat} {a : Int} {n : Nat} (ha : 0 ≤ a) (hl : ∀ w, w < n → 0 ≤ lf w) : 0 ≤ kS tk lf b a n ∧ kS tk lf b a n + 1 ≤ (a + 1) * pd tk b n := by
  induction n with
  | zero =>
    show 0 ≤ a ∧ a + 1 ≤ (a + 1) * 1
    omega
  | succ n ih =>
    obtain ⟨i1, i2⟩ := ih (fun w hw => hl w (by omega))
    show 0 ≤ (if 0 < tk b n then kS tk lf b a n * (tk b n + 1) + mMin (tk b n) (lf n) else kS tk lf b a n) ∧ (if 0 < tk b n then kS tk lf b a n * (tk b n + 1) + mMin (tk b n) (lf n) else kS tk lf b a n) + 1 ≤ (a + 1) * (if 0 < tk b n then pd tk b n * (tk b n + 1) else pd tk b n)
    by_cases ht : 0 < tk b n
    · rw [if_pos ht, if_pos ht]
      have hm := mMin_r (t := tk b n) (l := lf n) (by omega) (hl n (by omega))
      have q1 : 0 ≤ kS tk lf b a n * (tk b n + 1) := Int.mul_nonneg i1 (by omega)
      have q2 : (kS tk lf b a n + 1) * (tk b n + 1) ≤ (a + 1) * pd tk b n * (tk b n + 1) := Int.mul_le_mul_of_nonneg_right i2 (by omega)
      rw [Int.add_mul] at q2
      rw [← Int.mul_assoc]
      omega
    · rw [if_neg ht, if_neg ht]
      exact ⟨i1, i2⟩
