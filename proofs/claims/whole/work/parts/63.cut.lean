/-! ===== the text's tokens: what both sides cut ===== -/
theorem and255 (x : Int) : 0 ≤ mAnd x 255 ∧ mAnd x 255 ≤ 255 := by
  unfold mAnd
  have h : (Int32.ofInt x &&& Int32.ofInt 255).toInt = ((Int32.ofInt x).toBitVec &&& (Int32.ofInt 255).toBitVec).toInt := rfl
  have e : (Int32.ofInt 255).toBitVec.toNat = 255 := by decide
  have hn : ((Int32.ofInt x).toBitVec &&& (Int32.ofInt 255).toBitVec).toNat ≤ 255 := by
    rw [BitVec.toNat_and, e]
    exact Nat.and_le_right
  rw [h, BitVec.toInt_eq_toNat_of_lt (by omega)]
  omega
/-- the byte at a place, -1 behind the end -/
def tb (L : Int) (r : Nat → Int) (i : Nat) : Int := if (i : Int) < L ∧ i < 3000 then mAnd (r i) 255 else -1
theorem tb_r (L : Int) (r : Nat → Int) (i : Nat) : -1 ≤ tb L r i ∧ tb L r i ≤ 255 := by
  have := and255 (r i)
  unfold tb
  split <;> omega
theorem tb_in {L : Int} {r : Nat → Int} {i : Nat} (h : ¬ tb L r i = -1) : (i : Int) < L ∧ i < 3000 := by
  unfold tb at h
  by_cases z : (i : Int) < L ∧ i < 3000
  · exact z
  · rw [if_neg z] at h; exact absurd rfl h
def tcL (x : Int) : Bool := decide (97 ≤ x ∧ x ≤ 122)
def tcD (x : Int) : Bool := decide (48 ≤ x ∧ x ≤ 57)
def tcB (x : Int) : Bool := decide (x = 9 ∨ x = 10 ∨ x = 13 ∨ x = 32)
/-- how many places in a row are so -/
def rn (P : Nat → Bool) : Nat → Nat → Nat
  | 0, _ => 0
  | n + 1, p => bif P p then rn P n (p + 1) + 1 else 0
theorem rn_eq {P : Nat → Bool} {n p m : Nat} (h : ∀ i, i < m → P (p + i) = true) (hs : P (p + m) = false) (hm : m < n) : rn P n p = m := by
  induction n generalizing p m with
  | zero => omega
  | succ n ih =>
    unfold rn
    cases m with
    | zero => rw [show P p = false from hs]; rfl
    | succ m =>
      rw [show P p = true from h 0 (by omega)]
      show rn P n (p + 1) + 1 = m + 1
      rw [ih (p := p + 1) (m := m) (fun i hi => by rw [show p + 1 + i = p + (i + 1) from by omega]; exact h (i + 1) (by omega)) (by rw [show p + 1 + m = p + (m + 1) from by omega]; exact hs) (by omega)]
theorem rn_ge {P : Nat → Bool} {n p m : Nat} (h : ∀ i, i < m → P (p + i) = true) (hm : m ≤ n) : m ≤ rn P n p := by
  induction n generalizing p m with
  | zero => omega
  | succ n ih =>
    unfold rn
    cases m with
    | zero => omega
    | succ m =>
      rw [show P p = true from h 0 (by omega)]
      show m + 1 ≤ rn P n (p + 1) + 1
      have := ih (p := p + 1) (m := m) (fun i hi => by rw [show p + 1 + i = p + (i + 1) from by omega]; exact h (i + 1) (by omega)) (by omega)
      omega
theorem rn_all {P : Nat → Bool} {n p i : Nat} (h : i < rn P n p) : P (p + i) = true := by
  induction n generalizing p i with
  | zero => unfold rn at h; omega
  | succ n ih =>
    unfold rn at h
    cases hp : P p with
    | false => rw [hp] at h; exact absurd h (Nat.not_lt_zero _)
    | true =>
      rw [hp] at h
      have h : i < rn P n (p + 1) + 1 := h
      cases i with
      | zero => exact hp
      | succ i => rw [show p + (i + 1) = p + 1 + i from by omega]; exact ih (by omega)
theorem rn_le {P : Nat → Bool} {n p : Nat} : rn P n p ≤ n := by
  induction n generalizing p with
  | zero => unfold rn; omega
  | succ n ih =>
    unfold rn
    cases P p with
    | false => exact Nat.zero_le _
    | true => show rn P n (p + 1) + 1 ≤ n + 1; have := ih (p := p + 1); omega
theorem rn_stop {P : Nat → Bool} {n p : Nat} (h : rn P n p < n) : P (p + rn P n p) = false := by
  induction n generalizing p with
  | zero => omega
  | succ n ih =>
    unfold rn at h ⊢
    cases hp : P p with
    | false => exact hp
    | true =>
      rw [hp] at h
      have h : rn P n (p + 1) + 1 < n + 1 := h
      show P (p + (rn P n (p + 1) + 1)) = false
      rw [show p + (rn P n (p + 1) + 1) = p + 1 + rn P n (p + 1) from by omega]
      exact ih (by omega)
/-- a loop that goes on while it is so -/
theorem fe_run {α : Type} {g : Nat → α → α ⊕ α} {a : α} {R : Nat → α → Prop} {P : Nat → Bool} {N : Nat} (h0 : R 0 a) (hg : ∀ j s, j < N → R j s → (P j = true → ∃ z, g j s = Sum.inl z ∧ R (j + 1) z) ∧ (P j = false → g j s = Sum.inr s)) : ∃ m, m ≤ N ∧ R m (brk (fe g a N)) ∧ (∀ i, i < m → P i = true) ∧ (m < N → P m = false) := by
  have key : ∀ n, n ≤ N → (∃ s, fe g a n = Sum.inl s ∧ R n s ∧ ∀ i, i < n → P i = true) ∨ (∃ s m, m < n ∧ fe g a n = Sum.inr s ∧ R m s ∧ (∀ i, i < m → P i = true) ∧ P m = false) := by
    intro n
    induction n with
    | zero => intro _; exact Or.inl ⟨a, rfl, h0, fun i hi => absurd hi (Nat.not_lt_zero _)⟩
    | succ n ih =>
      intro hn
      rcases ih (by omega) with ⟨s, e1, e2, e3⟩ | ⟨s, m, m1, e1, e2, e3, e4⟩
      · have hh := hg n s (by omega) e2
        rw [fe_inl e1]
        cases hp : P n with
        | true =>
          obtain ⟨z, z1, z2⟩ := hh.1 hp
          refine Or.inl ⟨z, z1, z2, fun i hi => ?_⟩
          by_cases hin : i = n
          · rw [hin]; exact hp
          · exact e3 i (by omega)
        | false => exact Or.inr ⟨s, n, by omega, hh.2 hp, e2, e3, hp⟩
      · exact Or.inr ⟨s, m, by omega, by rw [fe_s, e1], e2, e3, e4⟩
  rcases key N (Nat.le_refl _) with ⟨s, e1, e2, e3⟩ | ⟨s, m, m1, e1, e2, e3, e4⟩
  · exact ⟨N, Nat.le_refl _, by rw [e1]; exact e2, e3, fun y => absurd y (by omega)⟩
  · exact ⟨m, by omega, by rw [e1]; exact e2, e3, fun _ => e4⟩
/-- letters as digits to the base 27, digits as a number -/
def nmF (f : Nat → Int) : Nat → Int
  | 0 => 0
  | n + 1 => nmF f n * 27 + f n
def vlF (f : Nat → Int) : Nat → Int
  | 0 => 0
  | n + 1 => vlF f n * 10 + f n
def p27 : Nat → Int
  | 0 => 1
  | n + 1 => p27 n * 27
theorem p27_r : ∀ m, m < 10 → 1 ≤ p27 m ∧ p27 m ≤ 7625597484987 := by decide
def p10 : Nat → Int
  | 0 => 1
  | n + 1 => p10 n * 10
theorem p10_r : ∀ m, m < 6 → 1 ≤ p10 m ∧ p10 m ≤ 100000 := by decide
theorem nmF_r {f : Nat → Int} {n : Nat} (h : ∀ i, i < n → 1 ≤ f i ∧ f i ≤ 26) : 0 ≤ nmF f n ∧ nmF f n < p27 n := by
  induction n with
  | zero => show (0 : Int) ≤ 0 ∧ (0 : Int) < 1; omega
  | succ n ih =>
    have := ih (fun i hi => h i (by omega))
    have := h n (by omega)
    show 0 ≤ nmF f n * 27 + f n ∧ nmF f n * 27 + f n < p27 n * 27
    omega
theorem vlF_r {f : Nat → Int} {n : Nat} (h : ∀ i, i < n → 0 ≤ f i ∧ f i ≤ 9) : 0 ≤ vlF f n ∧ vlF f n < p10 n := by
  induction n with
  | zero => show (0 : Int) ≤ 0 ∧ (0 : Int) < 1; omega
  | succ n ih =>
    have := ih (fun i hi => h i (by omega))
    have := h n (by omega)
    show 0 ≤ vlF f n * 10 + f n ∧ vlF f n * 10 + f n < p10 n * 10
    omega
theorem nmF_congr {f g : Nat → Int} {n : Nat} (h : ∀ i, i < n → f i = g i) : nmF f n = nmF g n := by
  induction n with
  | zero => rfl
  | succ n ih => show nmF f n * 27 + f n = nmF g n * 27 + g n; rw [ih (fun i hi => h i (by omega)), h n (by omega)]
theorem nmF_inj {f g : Nat → Int} {n m : Nat} (hf : ∀ i, i < n → 1 ≤ f i ∧ f i ≤ 26) (hg : ∀ i, i < m → 1 ≤ g i ∧ g i ≤ 26) (e : nmF f n = nmF g m) : n = m ∧ ∀ i, i < n → f i = g i := by
  induction n generalizing m with
  | zero =>
    cases m with
    | zero => exact ⟨rfl, fun i hi => absurd hi (Nat.not_lt_zero _)⟩
    | succ m =>
      have h1 := (nmF_r (n := m) (fun i hi => hg i (by omega))).1
      have h2 := hg m (by omega)
      have e : (0 : Int) = nmF g m * 27 + g m := e
      omega
  | succ n ih =>
    have h1 := (nmF_r (n := n) (fun i hi => hf i (by omega))).1
    have h2 := hf n (by omega)
    cases m with
    | zero =>
      have e : nmF f n * 27 + f n = (0 : Int) := e
      omega
    | succ m =>
      have h3 := (nmF_r (n := m) (fun i hi => hg i (by omega))).1
      have h4 := hg m (by omega)
      have e : nmF f n * 27 + f n = nmF g m * 27 + g m := e
      have ih := ih (fun i hi => hf i (by omega)) (fun i hi => hg i (by omega)) (show nmF f n = nmF g m by omega)
      refine ⟨by omega, fun i hi => ?_⟩
      by_cases hin : i = n
      · have fn : f n = g m := by omega
        rw [hin, fn, ih.1]
      · exact ih.2 i (by omega)
/-- the words -/
def wdl (i : Nat) : Nat := rn (fun j => tcL (wdc ((8 * i + j : Nat) : Int))) 8 0
theorem wdl_all : (List.range 20).all (fun i => decide (wdl i ≤ 8) && (List.range 8).all (fun j => decide ((j < wdl i → 97 ≤ wdc ((8 * i + j : Nat) : Int) ∧ wdc ((8 * i + j : Nat) : Int) ≤ 122) ∧ (wdl i ≤ j → wdc ((8 * i + j : Nat) : Int) = 32)))) = true := by decide +kernel
theorem wdl_ok {i : Nat} (hi : i < 20) : wdl i ≤ 8 ∧ ∀ j, j < 8 → (j < wdl i → 97 ≤ wdc ((8 * i + j : Nat) : Int) ∧ wdc ((8 * i + j : Nat) : Int) ≤ 122) ∧ (wdl i ≤ j → wdc ((8 * i + j : Nat) : Int) = 32) := by
  have h := List.all_eq_true.mp wdl_all i (List.mem_range.mpr hi)
  rw [Bool.and_eq_true] at h
  exact ⟨of_decide_eq_true h.1, fun j hj => of_decide_eq_true (List.all_eq_true.mp h.2 j (List.mem_range.mpr hj))⟩
def ky (i : Nat) : Int := nmF (fun j => wdc ((8 * i + j : Nat) : Int) - 96) (wdl i)
theorem ky_all : (List.range 20).all (fun i => (List.range 20).all (fun j => decide (ky i = ky j → i = j))) = true := by decide +kernel
theorem ky_inj {i j : Nat} (hi : i < 20) (hj : j < 20) (e : ky i = ky j) : i = j :=
  of_decide_eq_true (List.all_eq_true.mp (List.all_eq_true.mp ky_all i (List.mem_range.mpr hi)) j (List.mem_range.mpr hj)) e
/-- a word's kind by its letters -/
def wk (x : Int) : Int := fd (fun i s => if ky i = x then 20 + (i : Int) else s) 1 20
theorem wk_at {x : Int} : (wk x = 1 ∧ ∀ i, i < 20 → ¬ ky i = x) ∨ ∃ i : Nat, i < 20 ∧ ky i = x ∧ wk x = 20 + (i : Int) := by
  have key : ∀ n, n ≤ 20 → (fd (fun i s => if ky i = x then 20 + (i : Int) else s) 1 n = 1 ∧ ∀ i, i < n → ¬ ky i = x) ∨ ∃ i : Nat, i < n ∧ ky i = x ∧ fd (fun i s => if ky i = x then 20 + (i : Int) else s) 1 n = 20 + (i : Int) := by
    intro n
    induction n with
    | zero => intro _; exact Or.inl ⟨rfl, fun i hi => absurd hi (Nat.not_lt_zero _)⟩
    | succ n ih =>
      intro hn
      rw [fd_s]
      by_cases z : ky n = x
      · exact Or.inr ⟨n, by omega, z, by rw [if_pos z]⟩
      · rw [if_neg z]
        rcases ih (by omega) with ⟨e1, e2⟩ | ⟨i, i1, i2, i3⟩
        · refine Or.inl ⟨e1, fun i hi => ?_⟩
          by_cases hin : i = n
          · rw [hin]; exact z
          · exact e2 i (by omega)
        · exact Or.inr ⟨i, by omega, i2, i3⟩
  exact key 20 (Nat.le_refl _)
