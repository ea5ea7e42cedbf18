/-! ===== and, or: what waits below a literal ===== -/
def shW (sh : Nat) : Nat := if sh = 0 then 0 else if sh = 3 then 2 else 1
def shB (sh : Nat) (w : Nat → Int) : Prop := sh = 0 ∨ (sh = 1 ∧ w 0 = 25) ∨ (sh = 2 ∧ w 0 = 26) ∨ (sh = 3 ∧ w 0 = 25 ∧ w 1 = 26)
def stk (sh : Nat) (p : Bool × Bool) : List Int := if sh = 0 then [] else if sh = 1 then [b01 (p.1 || p.2)] else if sh = 2 then [b01 p.2] else [b01 p.2, b01 p.1]
/-- is the next literal one of a new part -/
def shO (sh : Nat) : Bool := decide (sh = 0 ∨ sh = 1)
/-- the shape behind an and -/
def shA (sh : Nat) : Nat := if sh = 0 ∨ sh = 2 then 2 else 3
/-- the parts so far, with one literal more -/
def nxP (sh : Nat) (p : Bool × Bool) (v : Bool) : Bool × Bool := (p.1 || (shO sh && p.2), (p.2 || shO sh) && v)
section SHP
variable {sh : Nat} {w : Nat → Int} {p : Bool × Bool} {v : Bool} {x : Int}
theorem shB_r (h : shB sh w) : ∀ i, i < shW sh → (w i = 25 ∨ w i = 26) := by
  intro i hi
  unfold shW at hi
  rcases h with e | ⟨e, e2⟩ | ⟨e, e2⟩ | ⟨e, e2, e3⟩ <;> subst e
  · exact absurd hi (by simp)
  · have : i = 0 := by simp at hi; exact hi
    subst this; exact Or.inl e2
  · have : i = 0 := by simp at hi; exact hi
    subst this; exact Or.inr e2
  · have : i = 0 ∨ i = 1 := by simp at hi; omega
    rcases this with q | q <;> subst q
    · exact Or.inl e2
    · exact Or.inr e3
theorem shW_le : shW sh ≤ 2 := by
  unfold shW
  by_cases h : sh = 0
  · rw [if_pos h]; decide
  · rw [if_neg h]
    by_cases h2 : sh = 3
    · rw [if_pos h2]; decide
    · rw [if_neg h2]; decide
theorem stk_len : (stk sh p).length ≤ 2 := by
  unfold stk
  by_cases h : sh = 0
  · rw [if_pos h]; decide
  · rw [if_neg h]
    by_cases h2 : sh = 1
    · rw [if_pos h2]; exact Nat.le_succ 1
    · rw [if_neg h2]
      by_cases h3 : sh = 2
      · rw [if_pos h3]; exact Nat.le_succ 1
      · rw [if_neg h3]; exact Nat.le_refl 2
theorem and_b (a b : Bool) : cco 26 (b01 a) (b01 b) = b01 (a && b) := by cases a <;> cases b <;> decide
theorem or_b (a b : Bool) : cco 25 (b01 a) (b01 b) = b01 (a || b) := by cases a <;> cases b <;> decide
theorem opz_and (h : shB sh w) (h0 : sh = 0 → p = (false, false)) (h2 : sh = 2 → p.1 = false) : opz 2 w (shW sh) (b01 v :: stk sh p) = (shW (shA sh) - 1, stk (shA sh) (nxP sh p v)) ∧ (shA sh = 2 → (nxP sh p v).1 = false) := by
  obtain ⟨p1, p2⟩ := p
  rcases h with e | ⟨e, e2⟩ | ⟨e, e2⟩ | ⟨e, e2, e3⟩ <;> subst e
  · have e := h0 rfl
    cases e
    cases v <;> exact ⟨rfl, fun _ => rfl⟩
  · refine ⟨?_, fun y => absurd y (by decide)⟩
    show opz 2 w (0 + 1) (b01 v :: [b01 (p1 || p2)]) = _
    rw [opz_s, e2, if_neg (by decide)]
    cases p1 <;> cases p2 <;> cases v <;> rfl
  · have e1 : p1 = false := h2 rfl
    subst e1
    refine ⟨?_, fun _ => ?_⟩
    · show opz 2 w (0 + 1) (b01 v :: [b01 p2]) = _
      rw [opz_s, e2, if_pos (by decide), st1_op (by decide) (by decide), and_b]
      cases p2 <;> cases v <;> rfl
    · cases p2 <;> rfl
  · refine ⟨?_, fun y => absurd y (by decide)⟩
    show opz 2 w (1 + 1) (b01 v :: [b01 p2, b01 p1]) = _
    rw [opz_s, e3, if_pos (by decide), st1_op (x := 26) (T := [b01 p1]) (by decide) (show (1 : Nat) < 34 by decide), and_b]
    show opz 2 w (0 + 1) _ = _
    rw [opz_s, e2, if_neg (by decide)]
    cases p1 <;> cases p2 <;> cases v <;> rfl
theorem opz_or (h : shB sh w) (h0 : sh = 0 → p = (false, false)) (h2 : sh = 2 → p.1 = false) : opz 1 w (shW sh) (b01 v :: stk sh p) = (0, [b01 ((nxP sh p v).1 || (nxP sh p v).2)]) := by
  obtain ⟨p1, p2⟩ := p
  rcases h with e | ⟨e, e2⟩ | ⟨e, e2⟩ | ⟨e, e2, e3⟩ <;> subst e
  · have e := h0 rfl
    cases e
    cases v <;> rfl
  · show opz 1 w (0 + 1) (b01 v :: [b01 (p1 || p2)]) = _
    rw [opz_s, e2, if_pos (by decide), st1_op (by decide) (by decide), or_b]
    cases p1 <;> cases p2 <;> cases v <;> rfl
  · have e1 : p1 = false := h2 rfl
    subst e1
    show opz 1 w (0 + 1) (b01 v :: [b01 p2]) = _
    rw [opz_s, e2, if_pos (by decide), st1_op (by decide) (by decide), and_b]
    cases p2 <;> cases v <;> rfl
  · show opz 1 w (1 + 1) (b01 v :: [b01 p2, b01 p1]) = _
    rw [opz_s, e3, if_pos (by decide), st1_op (x := 26) (T := [b01 p1]) (by decide) (show (1 : Nat) < 34 by decide), and_b]
    show opz 1 w (0 + 1) _ = _
    rw [opz_s, e2, if_pos (by decide), st1_op (by decide) (by decide), or_b]
    cases p1 <;> cases p2 <;> cases v <;> rfl
end SHP
/-- the values are those of one board -/
def cpE (E va : Nat → Int) (mk : Int) : Prop := (0 ≤ mk ∧ mk ≤ 255) ∧ eV E va ∧ E 4 = mk
section LIT
variable {so le ri en cd ci va so' le' ri' en' cd' ci' : Nat → Int} {mk : Int} {l : Nat}
/-- a literal's rows, and its words -/
theorem litY_congr (h1 : so' l = so l) (h2 : le' l = le l) (h3 : ri' l = ri l) (h4 : en' l = en l) (hb : 0 ≤ le l ∧ le l ≤ ri l ∧ ri l ≤ en l ∧ (so l = 4 → le l < en l)) (hc : ∀ i : Nat, le l ≤ (i : Int) → (i : Int) < en l → cd' i = cd i ∧ ci' i = ci i) : litY so' le' ri' en' cd' ci' va mk l = litY so le ri en cd ci va mk l := by
  unfold litY
  rw [h1, h2, h3, h4]
  have e1 : rV cd' ci' va (le l).toNat (ri l - le l).toNat = rV cd ci va (le l).toNat (ri l - le l).toNat := by
    unfold rV
    rw [rnR_congr (fun i hi => hc _ (by omega) (by omega))]
  have e2 : rV cd' ci' va (ri l).toNat (en l - ri l).toNat = rV cd ci va (ri l).toNat (en l - ri l).toNat := by
    unfold rV
    rw [rnR_congr (fun i hi => hc _ (by omega) (by omega))]
  by_cases z : so l = 4
  · rw [if_pos z, if_pos z, (hc (le l).toNat (by omega) (by have := hb.2.2.2 z; omega)).2]
  · rw [if_neg z, if_neg z, e1, e2]
theorem hR_congr {oo lv oo' lv' : Nat → Bool} {l0 n : Nat} (h : ∀ i, i < n → oo' (l0 + i) = oo (l0 + i) ∧ lv' (l0 + i) = lv (l0 + i)) : hR oo' lv' l0 n = hR oo lv l0 n := by
  induction n with
  | zero => rfl
  | succ n ih =>
    show ((hR oo' lv' l0 n).1 || (oo' (l0 + n) && (hR oo' lv' l0 n).2), ((hR oo' lv' l0 n).2 || oo' (l0 + n)) && lv' (l0 + n)) = ((hR oo lv l0 n).1 || (oo (l0 + n) && (hR oo lv l0 n).2), ((hR oo lv l0 n).2 || oo (l0 + n)) && lv (l0 + n))
    rw [ih (fun i hi => h i (by omega)), (h n (by omega)).1, (h n (by omega)).2]
theorem hR_nx {oo lv : Nat → Bool} {l0 n sh : Nat} (ho : oo (l0 + n) = shO sh) : hR oo lv l0 (n + 1) = nxP sh (hR oo lv l0 n) (lv (l0 + n)) := by
  show ((hR oo lv l0 n).1 || (oo (l0 + n) && (hR oo lv l0 n).2), ((hR oo lv l0 n).2 || oo (l0 + n)) && lv (l0 + n)) = _
  rw [ho]
  rfl
end LIT
/-- a sign of comparison gives what the reference's sort asks -/
theorem cmp_v {x so : Int} {a b : Int} (h : x = 10 + so) (hs : 0 ≤ so ∧ so ≤ 3) : cco x a b = b01 (if so = 0 then decide (a = b) else if so = 1 then decide (¬ a = b) else if so = 2 then decide (a < b) else decide (a ≤ b)) := by
  have hh : so = 0 ∨ so = 1 ∨ so = 2 ∨ so = 3 := by omega
  rcases hh with e | e | e | e <;> subst e <;> subst h
  · show (if ¬ a = b then (0 : Int) else 1) = b01 (decide (a = b))
    by_cases z : a = b
    · rw [if_neg (fun q => q z), b01_t z]
    · rw [if_pos z, b01_f z]
  · show (if a = b then (0 : Int) else 1) = b01 (decide (¬ a = b))
    by_cases z : a = b
    · rw [if_pos z, b01_f (fun q => q z)]
    · rw [if_neg z, b01_t z]
  · show (if b ≤ a then (0 : Int) else 1) = b01 (decide (a < b))
    by_cases z : a < b
    · rw [if_neg (by omega), b01_t z]
    · rw [if_pos (by omega), b01_f z]
  · show (if b < a then (0 : Int) else 1) = b01 (decide (a ≤ b))
    by_cases z : a ≤ b
    · rw [if_neg (by omega), b01_t z]
    · rw [if_pos (by omega), b01_f z]
theorem near_all : (List.range 256).all (fun m => (List.range 8).all (fun n => decide (mAnd (mUshr ((m : Nat) : Int) ((n : Nat) : Int)) 1 = b01 (decide (mAnd (mShr ((m : Nat) : Int) ((n : Nat) : Int)) 1 = 1))))) = true := by decide +kernel
theorem near_v {m n : Int} (hm : 0 ≤ m ∧ m ≤ 255) (hn : 0 ≤ n ∧ n ≤ 7) : mAnd (mUshr m n) 1 = b01 (decide (mAnd (mShr m n) 1 = 1)) := by
  have h1 := List.all_eq_true.mp near_all m.toNat (List.mem_range.mpr (by omega))
  have h2 := of_decide_eq_true (List.all_eq_true.mp h1 n.toNat (List.mem_range.mpr (by omega)))
  rw [show ((m.toNat : Nat) : Int) = m from by omega, show ((n.toNat : Nat) : Int) = n from by omega] at h2
  exact h2
