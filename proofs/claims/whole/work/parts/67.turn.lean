/-! ===== the class's parse, turn by turn ===== -/
/-- one turn -/
def pst (c : Nat) (j : Nat) (s : mG) : mG :=
  if f_X7_follow (e_X10_advance s) (f_X10_kind (e_X10_advance s)) = -1 then e_X7_stop (e_X10_advance s) 1
  else if f_X7_follow (e_X10_advance s) (f_X10_kind (e_X10_advance s)) = 0 then gs (e_X7_note c (e_X10_advance s) (f_X10_kind (e_X10_advance s))) 15 8 0
  else if j = 600 then e_X7_stop (e_X10_advance s) 2
  else if f_X7_lacksRoomFor c (e_X10_advance s) (f_X10_kind (e_X10_advance s)) = 0 then gs (e_X7_note c (e_X10_advance s) (f_X10_kind (e_X10_advance s))) 15 8 (f_X7_follow (e_X10_advance s) (f_X10_kind (e_X10_advance s)))
  else e_X7_stop (e_X10_advance s) 2
/-- the turns that are left: n of them, from turn t on -/
def pfin (c : Nat) : Nat → Nat → mG → mG
  | 0, _, s => s
  | n + 1, t, s => if s 15 8 ≤ 0 then s else pfin c n (t + 1) (pst c t s)
section TURN
variable {c : Nat} {G s : mG} {L : Int} {r : Nat → Int}
theorem g_pst {j : Nat} (hj : j < 601) : g_X7_parse_7 c G j s = if s 15 8 ≤ 0 then Sum.inr s else Sum.inl (pst c j s) := by
  unfold g_X7_parse_7 pst
  rw [if_neg (show ¬ (600 : Int) < ((j : Nat) : Int) by omega)]
  generalize f_X7_follow (e_X10_advance s) (f_X10_kind (e_X10_advance s)) = fo
  generalize f_X7_lacksRoomFor c (e_X10_advance s) (f_X10_kind (e_X10_advance s)) = la
  generalize e_X7_note c (e_X10_advance s) (f_X10_kind (e_X10_advance s)) = no
  generalize e_X7_stop (e_X10_advance s) 1 = s1
  generalize e_X7_stop (e_X10_advance s) 2 = s2
  by_cases h0 : s 15 8 ≤ 0
  · rw [if_pos h0, if_pos h0]
  · rw [if_neg h0, if_neg h0]
    by_cases h1 : fo = -1
    · rw [if_neg (show ¬ ¬ fo = -1 from fun y => y h1), if_pos h1]
    · rw [if_pos h1, if_neg h1]
      by_cases h2 : fo = 0
      · rw [if_pos h2, if_pos h2, h2]
      · rw [if_neg h2, if_neg h2]
        by_cases h3 : j = 600
        · rw [if_pos (show ((j : Nat) : Int) = 600 by omega), if_pos h3]
        · rw [if_neg (show ¬ ((j : Nat) : Int) = 600 by omega), if_neg h3]
          by_cases h4 : la = 0
          · rw [if_pos h4, if_pos h4]
          · rw [if_neg h4, if_neg h4]
theorem par_fin {a : mG} : ∀ n t : Nat, t + n = 601 → ∀ s, fe (g_X7_parse_7 c G) a t = Sum.inl s → brk (fe (g_X7_parse_7 c G) a 601) = pfin c n t s := by
  intro n
  induction n with
  | zero =>
    intro t ht s hs
    have : t = 601 := by omega
    rw [← this, hs]
    rfl
  | succ n ih =>
    intro t ht s hs
    have h1 := fe_inl hs
    rw [g_pst (by omega)] at h1
    show _ = if s 15 8 ≤ 0 then s else pfin c n (t + 1) (pst c t s)
    by_cases z : s 15 8 ≤ 0
    · rw [if_pos z] at h1 ⊢
      have h2 := fe_inr h1 n
      rw [show t + 1 + n = 601 from by omega] at h2
      rw [h2]
      rfl
    · rw [if_neg z] at h1 ⊢
      exact ih (t + 1) (by omega) _ h1
theorem pfin_s {n t : Nat} (h : 0 < s 15 8) : pfin c (n + 1) t s = pfin c n (t + 1) (pst c t s) := by
  show (if s 15 8 ≤ 0 then s else pfin c n (t + 1) (pst c t s)) = _
  rw [if_neg (by omega)]
theorem pfin_e {n t : Nat} (h : s 15 8 ≤ 0) : pfin c n t s = s := by
  cases n with
  | zero => rfl
  | succ n =>
    show (if s 15 8 ≤ 0 then s else pfin c n (t + 1) (pst c t s)) = _
    rw [if_pos h]
theorem tkE_le {q : Nat} (h : q ≤ 3000) : tkE (tb L r) q ≤ 3000 := by
  unfold tkE
  have h1 := tkW_le (L := L) (r := r) (p := q)
  have h2 := tkI_le (L := L) (r := r) (p := q)
  by_cases z0 : tb L r q = -1
  · rw [if_pos z0]; exact h
  · have h3 := (tb_in z0).2
    rw [if_neg z0]
    by_cases z1 : tcL (tb L r q) = true
    · rw [if_pos z1]; omega
    · rw [if_neg z1]
      by_cases z2 : tcD (tb L r q) = true
      · rw [if_pos z2]; omega
      · rw [if_neg z2]
        by_cases z3 : 11 ≤ sgK (tb L r q) (tb L r (q + 1)) ∧ ¬ sgK (tb L r q) (tb L r (q + 1)) = 13
        · rw [if_pos z3]
          have h61 : tb L r (q + 1) = 61 := by
            obtain ⟨y1, y2⟩ := z3
            revert y1 y2
            unfold sgK
            repeat' split
            all_goals omega
          have := (tb_in (L := L) (r := r) (i := q + 1) (by omega)).2
          omega
        · rw [if_neg z3]; omega
theorem tkP_le (t : Nat) : tkP (tb L r) t ≤ 3000 := by
  induction t with
  | zero => exact Nat.zero_le _
  | succ t ih => exact tkE_le (tkS_le ih)
/-- the class before its turn t: the tape as it was, its place behind token t-1 -/
def cs (c : Nat) (L : Int) (r : Nat → Int) (t : Nat) (s : mG) : Prop := s 13 1 = L ∧ s 14 = r ∧ s 20 1 = ((tkP (tb L r) t : Nat) : Int)
/-- the class behind its advance in turn t -/
theorem cs_adv {t : Nat} (h : cs c L r t s) : (∀ k, k ≠ 20 → (e_X10_advance s) k = s k) ∧ f_X10_start (e_X10_advance s) = ((tkQ (tb L r) t : Nat) : Int) ∧ f_X10_kind (e_X10_advance s) = km (tkK (tb L r) (tkQ (tb L r) t)) ∧ (tkK (tb L r) (tkQ (tb L r) t) = 2 → f_X10_number (e_X10_advance s) = tkV (tb L r) (tkQ (tb L r) t)) ∧ (tkK (tb L r) (tkQ (tb L r) t) = 1 → f_X10_name (e_X10_advance s) = tkN (tb L r) (tkQ (tb L r) t)) ∧ (¬ tkK (tb L r) (tkQ (tb L r) t) = 3 → ∀ z : mG, z 13 = s 13 → z 14 = s 14 → z 20 = (e_X10_advance s) 20 → cs c L r (t + 1) z) := by
  obtain ⟨h1, h2, h3⟩ := h
  obtain ⟨a1, a2, a3, a4, a5⟩ := adv_eq h1 h2 h3 (tkP_le t)
  have fr : ∀ k, k ≠ 20 → (e_X10_advance s) k = s k := fun k hk => fr_X10_advance (fun a ha => by simp only [List.mem_cons, List.not_mem_nil, or_false] at ha; omega)
  have q1 : tkS (tb L r) (tkP (tb L r) t) = tkQ (tb L r) t := rfl
  have q2 : tkP (tb L r) (t + 1) = tkE (tb L r) (tkQ (tb L r) t) := rfl
  unfold f_X10_start f_X10_kind f_X10_number f_X10_name cs
  rw [q1] at a1 a2 a3 a4 a5
  rw [q2]
  generalize e_X10_advance s = A at *
  generalize tkQ (tb L r) t = Z at *
  refine ⟨fr, a1, a2, a4, a5, fun hk z z1 z2 z3 => ⟨by rw [z1]; exact h1, by rw [z2]; exact h2, ?_⟩⟩
  rw [z3]
  exact a3 hk
end TURN
