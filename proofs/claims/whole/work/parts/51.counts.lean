/-! ===== counts: how many wants suit a board ===== -/
theorem cn_len (p : Nat → Bool) (n : Nat) : (((List.range n).filter p).length : Int) = cn p n := by
  induction n with
  | zero => rfl
  | succ n ih =>
    rw [List.range_succ, List.filter_append, List.length_append]
    show _ = cn p n + b01 (p n)
    rw [← ih]
    unfold b01
    cases h : p n <;> simp [h]
theorem cn_add {p q r : Nat → Bool} {n : Nat} (h : ∀ j, j < n → b01 (p j) = b01 (q j) + b01 (r j)) : cn p n = cn q n + cn r n := by
  induction n with
  | zero => rfl
  | succ n ih =>
    show cn p n + b01 (p n) = cn q n + b01 (q n) + (cn r n + b01 (r n))
    rw [ih (fun j hj => h j (by omega)), h n (by omega)]
    omega
theorem cn_zero {p : Nat → Bool} {n : Nat} (h : ∀ j, j < n → p j = false) : cn p n = 0 := by
  induction n with
  | zero => rfl
  | succ n ih =>
    show cn p n + b01 (p n) = 0
    rw [ih (fun j hj => h j (by omega)), h n (by omega)]
    rfl
theorem cn_one {p : Nat → Bool} {n : Nat} (h : ∀ i j, i < n → j < n → p i = true → p j = true → i = j) : cn p n ≤ 1 := by
  induction n with
  | zero => show (0 : Int) ≤ 1; omega
  | succ n ih =>
    show cn p n + b01 (p n) ≤ 1
    cases hp : p n with
    | false =>
      have := ih (fun i j hi hj => h i j (by omega) (by omega))
      show cn p n + 0 ≤ 1
      omega
    | true =>
      have hz : cn p n = 0 := cn_zero (fun j hj => by
        cases hq : p j with
        | false => rfl
        | true => have := h j n (by omega) (by omega) hq hp; omega)
      rw [hz]
      show (0 : Int) + 1 ≤ 1
      omega
theorem cn_nn (p : Nat → Bool) (n : Nat) : 0 ≤ cn p n := (cn_r p n).1
/-- wants with owners of their own, all in force: no more than campaigns in force -/
theorem cn_own {p : Nat → Bool} {own : Nat → Int} {inf : Nat → Bool} {nk : Nat} (hr : ∀ j, j < nk → p j = true → 0 ≤ own j) (hi : ∀ j, j < nk → p j = true → inf (own j).toNat = true) (hu : ∀ i j, i < nk → j < nk → p i = true → p j = true → own i = own j → i = j) : ∀ m : Nat, cn (fun j => p j && decide (own j < (m : Int))) nk ≤ cn inf m := by
  intro m
  induction m with
  | zero =>
    rw [cn_zero (fun j hj => ?_)]
    · show (0 : Int) ≤ 0; omega
    · cases hp : p j with
      | false => rfl
      | true =>
        have := hr j hj hp
        rw [decide_eq_false (by omega)]
        rfl
  | succ m ih =>
    have e : cn (fun j => p j && decide (own j < ((m + 1 : Nat) : Int))) nk = cn (fun j => p j && decide (own j < (m : Int))) nk + cn (fun j => p j && decide (own j = (m : Int))) nk := by
      refine cn_add (fun j hj => ?_)
      cases hp : p j with
      | false => rfl
      | true =>
        show b01 (decide (own j < ((m + 1 : Nat) : Int))) = b01 (decide (own j < (m : Int))) + b01 (decide (own j = (m : Int)))
        by_cases h1 : own j < (m : Int)
        · rw [decide_eq_true (show own j < ((m + 1 : Nat) : Int) by omega), decide_eq_true h1, decide_eq_false (show ¬ own j = (m : Int) by omega)]; rfl
        · by_cases h2 : own j = (m : Int)
          · rw [decide_eq_true (show own j < ((m + 1 : Nat) : Int) by omega), decide_eq_false h1, decide_eq_true h2]; rfl
          · rw [decide_eq_false (show ¬ own j < ((m + 1 : Nat) : Int) by omega), decide_eq_false h1, decide_eq_false h2]; rfl
    have e2 : cn (fun j => p j && decide (own j = (m : Int))) nk ≤ b01 (inf m) := by
      cases hm : inf m with
      | true =>
        refine cn_one (fun i j hi2 hj2 h1 h2 => ?_)
        rw [Bool.and_eq_true] at h1 h2
        have a := of_decide_eq_true h1.2
        have b := of_decide_eq_true h2.2
        exact hu i j hi2 hj2 h1.1 h2.1 (by omega)
      | false =>
        rw [cn_zero (fun j hj => ?_)]
        · show (0 : Int) ≤ 0; omega
        · cases hp : p j with
          | false => rfl
          | true =>
            have h3 := hi j hj hp
            by_cases h2 : own j = (m : Int)
            · rw [h2, st_nat, hm] at h3; cases h3
            · rw [decide_eq_false h2]; rfl
    show _ ≤ cn inf m + b01 (inf m)
    omega
theorem cn_ext {p q : Nat → Bool} {n : Nat} (h : ∀ j, j < n → p j = q j) : cn p n = cn q n := cn_congr h
/-- a want that suits has its owner below n -/
theorem cn_all {p : Nat → Bool} {own : Nat → Int} {nk m : Nat} (h : ∀ j, j < nk → p j = true → own j < (m : Int)) : cn p nk = cn (fun j => p j && decide (own j < (m : Int))) nk := by
  refine cn_congr (fun j hj => ?_)
  cases hp : p j with
  | false => rfl
  | true => rw [decide_eq_true (h j hj hp)]; rfl
theorem cn_lt {p : Nat → Bool} {n i0 : Nat} (hi : i0 < n) (h : p i0 = false) : cn p n + 1 ≤ (n : Int) := by
  induction n with
  | zero => omega
  | succ n ih =>
    show cn p n + b01 (p n) + 1 ≤ ((n + 1 : Nat) : Int)
    have hb : 0 ≤ b01 (p n) ∧ b01 (p n) ≤ 1 := by unfold b01; cases p n <;> simp
    by_cases h2 : i0 = n
    · subst h2
      have h3 := (cn_r p i0).2
      rw [h]
      show cn p i0 + 0 + 1 ≤ _
      omega
    · have := ih (by omega)
      omega
/-- sums of takers: as many as there are options from a board on -/
theorem oc_sum {G : mG} {b nk i0 : Nat} (hi0 : i0 < (G 30 b).toNat) (h0 : G 31 (5 * b + i0) = -1) : fd (fun w (s : Nat) => s + (oc G b w).toNat) 0 nk + 1 ≤ (G 30 b).toNat := by
  have key : ∀ m, ((fd (fun w (s : Nat) => s + (oc G b w).toNat) 0 m : Nat) : Int) = cn (fun i => decide (0 ≤ G 31 (5 * b + i)) && decide (G 31 (5 * b + i) < (m : Int))) (G 30 b).toNat := by
    intro m
    induction m with
    | zero =>
      rw [cn_zero (fun j _ => ?_)]
      · rfl
      · by_cases h1 : 0 ≤ G 31 (5 * b + j)
        · rw [decide_eq_false (show ¬ G 31 (5 * b + j) < ((0 : Nat) : Int) by omega)]; simp
        · rw [decide_eq_false h1]; rfl
    | succ m ih =>
      rw [fd_s]
      have ho : 0 ≤ oc G b m := (cn_r _ _).1
      have e : cn (fun i => decide (0 ≤ G 31 (5 * b + i)) && decide (G 31 (5 * b + i) < ((m + 1 : Nat) : Int))) (G 30 b).toNat = cn (fun i => decide (0 ≤ G 31 (5 * b + i)) && decide (G 31 (5 * b + i) < (m : Int))) (G 30 b).toNat + cn (fun i => decide (G 31 (5 * b + i) = (m : Int))) (G 30 b).toNat := by
        refine cn_add (fun j _ => ?_)
        by_cases h0 : 0 ≤ G 31 (5 * b + j)
        · by_cases h1 : G 31 (5 * b + j) < (m : Int)
          · rw [decide_eq_true h0, decide_eq_true (show G 31 (5 * b + j) < ((m + 1 : Nat) : Int) by omega), decide_eq_true h1, decide_eq_false (show ¬ G 31 (5 * b + j) = (m : Int) by omega)]; rfl
          · by_cases h2 : G 31 (5 * b + j) = (m : Int)
            · rw [decide_eq_true h0, decide_eq_true (show G 31 (5 * b + j) < ((m + 1 : Nat) : Int) by omega), decide_eq_false h1, decide_eq_true h2]; rfl
            · rw [decide_eq_true h0, decide_eq_false (show ¬ G 31 (5 * b + j) < ((m + 1 : Nat) : Int) by omega), decide_eq_false h1, decide_eq_false h2]; rfl
        · rw [decide_eq_false h0, decide_eq_false (show ¬ G 31 (5 * b + j) = (m : Int) by omega)]; rfl
      rw [e, ← ih]
      show ((fd (fun w (s : Nat) => s + (oc G b w).toNat) 0 m + (oc G b m).toNat : Nat) : Int) = _ + oc G b m
      omega
  have h1 := key nk
  have h2 := cn_lt (p := fun i => decide (0 ≤ G 31 (5 * b + i)) && decide (G 31 (5 * b + i) < (nk : Int))) hi0 (by show (decide (0 ≤ G 31 (5 * b + i0)) && decide (G 31 (5 * b + i0) < (nk : Int))) = false; rw [h0]; rfl)
  omega
theorem tk_sum {G : mG} {nk n : Nat} (h5 : ∀ b, b < n → (G 30 b).toNat ≤ 5) (hopt : ∀ b, b < n → fd (fun w (s : Nat) => s + (oc G b w).toNat) 0 nk ≤ 4) (hnn : ∀ b w, 0 ≤ oc G b w) : ∀ m b, b + m = n → fd (fun w (s : Nat) => s + (tkM G m b w).toNat) 0 nk ≤ 4 * m := by
  have tnn : ∀ m b w, 0 ≤ tkM G m b w := by
    intro m
    induction m with
    | zero => intro b w; exact Int.le_refl _
    | succ m ih => intro b w; have h1 := ih (b + 1) w; have h2 := hnn b w; show 0 ≤ tkM G m (b + 1) w + oc G b w; omega
  intro m
  induction m with
  | zero =>
    intro b _
    have : ∀ k, fd (fun w (s : Nat) => s + (tkM G 0 b w).toNat) 0 k = 0 := by
      intro k
      induction k with
      | zero => rfl
      | succ k ih => rw [fd_s, ih]; rfl
    rw [this]
    omega
  | succ m ih =>
    intro b hb
    have h1 := ih (b + 1) (by omega)
    have h2 := hopt b (by omega)
    have e : ∀ k, fd (fun w (s : Nat) => s + (tkM G (m + 1) b w).toNat) 0 k = fd (fun w (s : Nat) => s + (tkM G m (b + 1) w).toNat) 0 k + fd (fun w (s : Nat) => s + (oc G b w).toNat) 0 k := by
      intro k
      induction k with
      | zero => rfl
      | succ k ihk =>
        rw [fd_s, fd_s, fd_s, ihk]
        have a1 := tnn m (b + 1) k
        have a2 := hnn b k
        have a3 : tkM G (m + 1) b k = tkM G m (b + 1) k + oc G b k := rfl
        rw [a3]
        omega
    rw [e]
    omega
