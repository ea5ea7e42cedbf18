/-! ===== what both have told so far: campaigns and clauses ===== -/
/-- clause k told alike on both sides -/
def CK (c S n p l qq k : Nat) (s H : mG) : Prop := (H 78 (40 * S + k) = s (c + 5) k ∧ 0 ≤ s (c + 5) k ∧ s (c + 5) k < (n : Int)) ∧ ((0 ≤ s (c + 9) k ∧ s (c + 9) k ≤ s (c + 10) k ∧ s (c + 10) k ≤ (p : Int)) ∧ (0 ≤ H 82 (40 * S + k) ∧ H 82 (40 * S + k) ≤ H 83 (40 * S + k) ∧ H 83 (40 * S + k) ≤ (l : Int))) ∧ ((H 77 (40 * S + k) = 0 ∧ s (c + 4) k = 18 ∧ H 79 (40 * S + k) = s (c + 6) k ∧ H 80 (40 * S + k) = s (c + 7) k ∧ H 81 (40 * S + k) = s (c + 8) k ∧ 0 ≤ s (c + 6) k ∧ 0 ≤ s (c + 7) k ∧ 0 ≤ s (c + 8) k ∧ s (c + 8) k ≤ 9999 ∧ (s 15 10 = 0 → 1 ≤ s (c + 6) k ∧ s (c + 6) k ≤ 9 ∧ s (c + 7) k ≤ 5)) ∨ (H 77 (40 * S + k) = 1 ∧ s (c + 4) k = 21 ∧ s (c + 6) k = 0) ∨ (H 77 (40 * S + k) = 2 ∧ s (c + 4) k = 22 ∧ s (c + 6) k = 0 ∧ 0 ≤ H 84 (40 * S + k) ∧ H 84 (40 * S + k) ≤ 600 ∧ s 17 k = H 70 (H 84 (40 * S + k)).toNat ∧ s 18 k = H 68 (H 84 (40 * S + k)).toNat) ∨ (H 77 (40 * S + k) = 3 ∧ s (c + 4) k = 23 ∧ H 79 (40 * S + k) = s (c + 6) k ∧ 0 ≤ s (c + 6) k ∧ (s 15 10 = 0 → s (c + 6) k ≤ 100))) ∧ ((s (c + 4) k = 21 ∨ s (c + 4) k = 23) → (∀ j : Nat, H 82 (40 * S + k) ≤ (j : Int) → (j : Int) < H 83 (40 * S + k) → LOK S 0 qq H (600 * S + j)) ∧ (s 15 10 = 0 → ∀ (E va : Nat → Int) (mk : Int), cpE E va mk → hC E (s (c + 11)) (s (c + 9) k).toNat (s (c + 10) k - s (c + 9) k).toNat = hRs (oRf H) (lRf H va mk) (600 * S + (H 82 (40 * S + k)).toNat) (H 83 (40 * S + k) - H 82 (40 * S + k)).toNat))
theorem CK.own {c S n p l qq k : Nat} {s H : mG} (h : CK c S n p l qq k s H) : H 78 (40 * S + k) = s (c + 5) k ∧ 0 ≤ s (c + 5) k ∧ s (c + 5) k < (n : Int) := h.1
theorem CK.cod {c S n p l qq k : Nat} {s H : mG} (h : CK c S n p l qq k s H) : (0 ≤ s (c + 9) k ∧ s (c + 9) k ≤ s (c + 10) k ∧ s (c + 10) k ≤ (p : Int)) ∧ (0 ≤ H 82 (40 * S + k) ∧ H 82 (40 * S + k) ≤ H 83 (40 * S + k) ∧ H 83 (40 * S + k) ≤ (l : Int)) := h.2.1
theorem CK.srt {c S n p l qq k : Nat} {s H : mG} (h : CK c S n p l qq k s H) : (H 77 (40 * S + k) = 0 ∧ s (c + 4) k = 18 ∧ H 79 (40 * S + k) = s (c + 6) k ∧ H 80 (40 * S + k) = s (c + 7) k ∧ H 81 (40 * S + k) = s (c + 8) k ∧ 0 ≤ s (c + 6) k ∧ 0 ≤ s (c + 7) k ∧ 0 ≤ s (c + 8) k ∧ s (c + 8) k ≤ 9999 ∧ (s 15 10 = 0 → 1 ≤ s (c + 6) k ∧ s (c + 6) k ≤ 9 ∧ s (c + 7) k ≤ 5)) ∨ (H 77 (40 * S + k) = 1 ∧ s (c + 4) k = 21 ∧ s (c + 6) k = 0) ∨ (H 77 (40 * S + k) = 2 ∧ s (c + 4) k = 22 ∧ s (c + 6) k = 0 ∧ 0 ≤ H 84 (40 * S + k) ∧ H 84 (40 * S + k) ≤ 600 ∧ s 17 k = H 70 (H 84 (40 * S + k)).toNat ∧ s 18 k = H 68 (H 84 (40 * S + k)).toNat) ∨ (H 77 (40 * S + k) = 3 ∧ s (c + 4) k = 23 ∧ H 79 (40 * S + k) = s (c + 6) k ∧ 0 ≤ s (c + 6) k ∧ (s 15 10 = 0 → s (c + 6) k ≤ 100)) := h.2.2.1
theorem CK.wei {c S n p l qq k : Nat} {s H : mG} (h : CK c S n p l qq k s H) : (s (c + 4) k = 21 ∨ s (c + 4) k = 23) → (∀ j : Nat, H 82 (40 * S + k) ≤ (j : Int) → (j : Int) < H 83 (40 * S + k) → LOK S 0 qq H (600 * S + j)) ∧ (s 15 10 = 0 → ∀ (E va : Nat → Int) (mk : Int), cpE E va mk → hC E (s (c + 11)) (s (c + 9) k).toNat (s (c + 10) k - s (c + 9) k).toNat = hRs (oRf H) (lRf H va mk) (600 * S + (H 82 (40 * S + k)).toNat) (H 83 (40 * S + k) - H 82 (40 * S + k)).toNat) := h.2.2.2
section CKS
variable {c S n p l qq k n' p' l' qq' : Nat} {s H s' H' : mG}
/-- what is told grows behind it -/
theorem CK_gr (h : CK c S n p l qq k s H) (hn : n ≤ n') (hp : p ≤ p') (hl : l ≤ l') (hq : qq ≤ qq') (ec : ∀ a, 4 ≤ a → a ≤ 10 → s' (c + a) k = s (c + a) k) (e17 : s' 17 k = s 17 k) (e18 : s' 18 k = s 18 k) (er : ∀ a, 77 ≤ a → a ≤ 84 → H' a (40 * S + k) = H a (40 * S + k)) (e11 : ∀ i, i < p → s' (c + 11) i = s (c + 11) i) (el : ∀ a i, 86 ≤ a → a ≤ 90 → i < 600 * S + l → H' a i = H a i) (eq9 : ∀ i, i < 700 * S + qq → H' 91 i = H 91 i ∧ H' 92 i = H 92 i) (e68 : H' 68 = H 68) (e70 : H' 70 = H 70) (hb : s' 15 10 = 0 → s 15 10 = 0) : CK c S n' p' l' qq' k s' H' := by
  obtain ⟨h1, h2, h3, h4⟩ := h
  refine ⟨?_, ?_, ?_, ?_⟩
  · rw [er 78 (by decide) (by decide), ec 5 (by decide) (by decide)]; omega
  · rw [er 82 (by decide) (by decide), er 83 (by decide) (by decide), ec 9 (by decide) (by decide), ec 10 (by decide) (by decide)]; omega
  · rw [er 77 (by decide) (by decide), er 79 (by decide) (by decide), er 80 (by decide) (by decide), er 81 (by decide) (by decide), er 84 (by decide) (by decide), ec 4 (by decide) (by decide), ec 6 (by decide) (by decide), ec 7 (by decide) (by decide), ec 8 (by decide) (by decide), e17, e18, e68, e70]
    rcases h3 with ⟨a1, a2, a3, a4, a5, a6, a7, a8, a9, a10⟩ | q | q | ⟨a1, a2, a3, a4, a5⟩
    · exact Or.inl ⟨a1, a2, a3, a4, a5, a6, a7, a8, a9, fun z => a10 (hb z)⟩
    · exact Or.inr (Or.inl q)
    · exact Or.inr (Or.inr (Or.inl q))
    · exact Or.inr (Or.inr (Or.inr ⟨a1, a2, a3, a4, fun z => a5 (hb z)⟩))
  · rw [er 82 (by decide) (by decide), er 83 (by decide) (by decide), ec 4 (by decide) (by decide), ec 9 (by decide) (by decide), ec 10 (by decide) (by decide)]
    intro hk
    obtain ⟨w1, w2⟩ := h4 hk
    refine ⟨fun j j1 j2 => ?_, fun z E va mk hE => ?_⟩
    · exact LOK_to (w1 j j1 j2) hq (fun a q1 q2 => el a _ q1 (by omega) (by omega)) eq9
    · have e := w2 (hb z) E va mk hE
      have eC : hC E (s' (c + 11)) (s (c + 9) k).toNat (s (c + 10) k - s (c + 9) k).toNat = hC E (s (c + 11)) (s (c + 9) k).toNat (s (c + 10) k - s (c + 9) k).toNat := by
        unfold hC
        rw [rnC_congr (fun i hi => e11 _ (by omega))]
      have eR : hRs (oRf H') (lRf H' va mk) (600 * S + (H 82 (40 * S + k)).toNat) (H 83 (40 * S + k) - H 82 (40 * S + k)).toNat = hRs (oRf H) (lRf H va mk) (600 * S + (H 82 (40 * S + k)).toNat) (H 83 (40 * S + k) - H 82 (40 * S + k)).toNat := by
        unfold hRs
        have q := hR_to (S := S) (q0 := 0) (qq := qq) (l0 := (H 82 (40 * S + k)).toNat) (l := (H 83 (40 * S + k)).toNat) (H := H) (H' := H') (va := va) (mk := mk) (fun j j1 j2 => w1 j (by omega) (by omega)) (by omega) (fun a i q1 q2 q3 => el a i q1 q2 (by omega)) eq9
        rw [show (H 83 (40 * S + k) - H 82 (40 * S + k)).toNat = (H 83 (40 * S + k)).toNat - (H 82 (40 * S + k)).toNat from by omega, q]
      rw [eC, eR]
      exact e
end CKS
/-- all that is told so far: n campaigns, m clauses, p words, l literals -/
def JB (c S : Nat) (b : Nat → Int) (n m p l qq t : Nat) (s H : mG) : Prop := (n ≤ 8 ∧ m ≤ 40) ∧ (p ≤ t ∧ qq ≤ t ∧ l ≤ t) ∧ (s c 13 = (p : Int)) ∧ (H 64 39 = ((700 * S + qq : Nat) : Int)) ∧ (H 85 S = (l : Int)) ∧ (s 15 5 = 0) ∧ (s 15 6 = 0) ∧ (H 64 12 = 0) ∧ (∀ x, x < n → H 73 (8 * S + x) = s 16 x) ∧ (∀ x, x < n → H 74 (8 * S + x) = s (c + 1) x ∧ H 75 (8 * S + x) = s (c + 2) x) ∧ (∀ k, k < m → CK c S n p l qq k s H) ∧ (∀ i, i < 64 → s (c + 3) i = 0) ∧ (bq (s 15 10) (s 15 11) (H 64 15) (H 64 16)) ∧ (s 15 10 = 0 → ∀ k j : Nat, k < m → j < m → s (c + 4) k = 18 → s (c + 4) j = 18 → s (c + 5) k = s (c + 5) j → s (c + 7) k = s (c + 7) j → k = j) ∧ (∀ o, o < n → (∃ i : Nat, i < o ∧ s 16 i = s 16 o) → ¬ s 15 10 = 0 ∧ s 15 11 < ((tkP b t : Nat) : Int)) ∧ (∀ k, k < m → s (c + 4) k = 22 → (∃ i : Nat, (i : Int) < s (c + 5) k ∧ s 16 i = s 16 (s (c + 5) k).toNat) → ¬ s 15 10 = 0 ∧ s 15 11 < s 18 k)
theorem JB.hn {c S : Nat} {b : Nat → Int} {n m p l qq t : Nat} {s H : mG} (h : JB c S b n m p l qq t s H) : n ≤ 8 ∧ m ≤ 40 := h.1
theorem JB.hp {c S : Nat} {b : Nat → Int} {n m p l qq t : Nat} {s H : mG} (h : JB c S b n m p l qq t s H) : p ≤ t ∧ qq ≤ t ∧ l ≤ t := h.2.1
theorem JB.c13 {c S : Nat} {b : Nat → Int} {n m p l qq t : Nat} {s H : mG} (h : JB c S b n m p l qq t s H) : s c 13 = (p : Int) := h.2.2.1
theorem JB.r39 {c S : Nat} {b : Nat → Int} {n m p l qq t : Nat} {s H : mG} (h : JB c S b n m p l qq t s H) : H 64 39 = ((700 * S + qq : Nat) : Int) := h.2.2.2.1
theorem JB.r85 {c S : Nat} {b : Nat → Int} {n m p l qq t : Nat} {s H : mG} (h : JB c S b n m p l qq t s H) : H 85 S = (l : Int) := h.2.2.2.2.1
theorem JB.w5 {c S : Nat} {b : Nat → Int} {n m p l qq t : Nat} {s H : mG} (h : JB c S b n m p l qq t s H) : s 15 5 = 0 := h.2.2.2.2.2.1
theorem JB.d0 {c S : Nat} {b : Nat → Int} {n m p l qq t : Nat} {s H : mG} (h : JB c S b n m p l qq t s H) : s 15 6 = 0 := h.2.2.2.2.2.2.1
theorem JB.ro {c S : Nat} {b : Nat → Int} {n m p l qq t : Nat} {s H : mG} (h : JB c S b n m p l qq t s H) : H 64 12 = 0 := h.2.2.2.2.2.2.2.1
theorem JB.nam {c S : Nat} {b : Nat → Int} {n m p l qq t : Nat} {s H : mG} (h : JB c S b n m p l qq t s H) : ∀ x, x < n → H 73 (8 * S + x) = s 16 x := h.2.2.2.2.2.2.2.2.1
theorem JB.fro {c S : Nat} {b : Nat → Int} {n m p l qq t : Nat} {s H : mG} (h : JB c S b n m p l qq t s H) : ∀ x, x < n → H 74 (8 * S + x) = s (c + 1) x ∧ H 75 (8 * S + x) = s (c + 2) x := h.2.2.2.2.2.2.2.2.2.1
theorem JB.cla {c S : Nat} {b : Nat → Int} {n m p l qq t : Nat} {s H : mG} (h : JB c S b n m p l qq t s H) : ∀ k, k < m → CK c S n p l qq k s H := h.2.2.2.2.2.2.2.2.2.2.1
theorem JB.apa {c S : Nat} {b : Nat → Int} {n m p l qq t : Nat} {s H : mG} (h : JB c S b n m p l qq t s H) : ∀ i, i < 64 → s (c + 3) i = 0 := h.2.2.2.2.2.2.2.2.2.2.2.1
theorem JB.bqq {c S : Nat} {b : Nat → Int} {n m p l qq t : Nat} {s H : mG} (h : JB c S b n m p l qq t s H) : bq (s 15 10) (s 15 11) (H 64 15) (H 64 16) := h.2.2.2.2.2.2.2.2.2.2.2.2.1
theorem JB.uni {c S : Nat} {b : Nat → Int} {n m p l qq t : Nat} {s H : mG} (h : JB c S b n m p l qq t s H) : s 15 10 = 0 → ∀ k j : Nat, k < m → j < m → s (c + 4) k = 18 → s (c + 4) j = 18 → s (c + 5) k = s (c + 5) j → s (c + 7) k = s (c + 7) j → k = j := h.2.2.2.2.2.2.2.2.2.2.2.2.2.1
theorem JB.dup {c S : Nat} {b : Nat → Int} {n m p l qq t : Nat} {s H : mG} (h : JB c S b n m p l qq t s H) : ∀ o, o < n → (∃ i : Nat, i < o ∧ s 16 i = s 16 o) → ¬ s 15 10 = 0 ∧ s 15 11 < ((tkP b t : Nat) : Int) := h.2.2.2.2.2.2.2.2.2.2.2.2.2.2.1
theorem JB.dcl {c S : Nat} {b : Nat → Int} {n m p l qq t : Nat} {s H : mG} (h : JB c S b n m p l qq t s H) : ∀ k, k < m → s (c + 4) k = 22 → (∃ i : Nat, (i : Int) < s (c + 5) k ∧ s 16 i = s 16 (s (c + 5) k).toNat) → ¬ s 15 10 = 0 ∧ s 15 11 < s 18 k := h.2.2.2.2.2.2.2.2.2.2.2.2.2.2.2
theorem tkQ_ge (b : Nat → Int) (t : Nat) : tkP b t ≤ tkQ b t := by
  show tkP b t ≤ tkP b t + _
  omega
theorem tkE_ge {L : Int} {r : Nat → Int} {q : Nat} : q ≤ tkE (tb L r) q := by
  unfold tkE
  by_cases z0 : tb L r q = -1
  · rw [if_pos z0]; exact Nat.le_refl q
  · rw [if_neg z0]
    by_cases z1 : tcL (tb L r q) = true
    · rw [if_pos z1]; omega
    · rw [if_neg z1]
      by_cases z2 : tcD (tb L r q) = true
      · rw [if_pos z2]; omega
      · rw [if_neg z2]
        by_cases z3 : 11 ≤ sgK (tb L r q) (tb L r (q + 1)) ∧ ¬ sgK (tb L r q) (tb L r (q + 1)) = 13
        · rw [if_pos z3]; omega
        · rw [if_neg z3]; omega
theorem tkP_mono {L : Int} {r : Nat → Int} {t u : Nat} (h : t ≤ u) : tkP (tb L r) t ≤ tkP (tb L r) u := by
  induction u with
  | zero => rw [show t = 0 from by omega]; exact Nat.le_refl _
  | succ u ih =>
    by_cases z : t = u + 1
    · rw [z]; exact Nat.le_refl _
    · have h1 := ih (by omega)
      have h2 := tkQ_ge (tb L r) u
      have h3 : tkQ (tb L r) u ≤ tkP (tb L r) (u + 1) := tkE_ge
      omega
/-- a token that isn't the text's end has some length -/
theorem tkP_lt {L : Int} {r : Nat → Int} {t : Nat} (h : ¬ tkK (tb L r) (tkQ (tb L r) t) = 0) : tkQ (tb L r) t < tkP (tb L r) (t + 1) := by
  show tkQ (tb L r) t < tkE (tb L r) (tkQ (tb L r) t)
  generalize tkQ (tb L r) t = q at *
  unfold tkE
  have z0 : ¬ tb L r q = -1 := by
    intro z
    refine h ?_
    unfold tkK
    rw [if_pos z]
  rw [if_neg z0]
  by_cases z1 : tcL (tb L r q) = true
  · rw [if_pos z1]; have := tkW_pos z1; omega
  · rw [if_neg z1]
    by_cases z2 : tcD (tb L r q) = true
    · rw [if_pos z2]; have := tkI_pos z2; omega
    · rw [if_neg z2]
      by_cases z3 : 11 ≤ sgK (tb L r q) (tb L r (q + 1)) ∧ ¬ sgK (tb L r q) (tb L r (q + 1)) = 13
      · rw [if_pos z3]; omega
      · rw [if_neg z3]; omega
section EFF
variable {c m : Nat} {s : mG} {x v : Int}
/-- the class begins a clause -/
def adC (c m : Nat) (x : Int) (s : mG) : mG := gs (gs (gs (gs (gs (gs (gs (gs s (c + 4) m x) (c + 5) m (w32 (s c 11 - 1))) (c + 6) m 0) (c + 7) m (-1)) (c + 8) m 0) (c + 9) m (s c 13)) (c + 10) m (s c 13)) c 12 ((m + 1 : Nat) : Int)
theorem adC_eq (h : s c 12 = (m : Int)) (hm : m < 40) : (r_X1_addClause c s x).2 = adC c m x s := by
  unfold r_X1_addClause adC
  rw [h, if_neg (by omega), if_pos (by omega), st_nat, w32_nat (by omega)]
theorem adC_f : (adC c m x s) (c + 4) m = x ∧ (adC c m x s) (c + 5) m = w32 (s c 11 - 1) ∧ (adC c m x s) (c + 6) m = 0 ∧ (adC c m x s) (c + 7) m = -1 ∧ (adC c m x s) (c + 8) m = 0 ∧ (adC c m x s) (c + 9) m = s c 13 ∧ (adC c m x s) (c + 10) m = s c 13 ∧ (adC c m x s) c 12 = ((m + 1 : Nat) : Int) ∧ (∀ a i, ¬ (c + 4 ≤ a ∧ a ≤ c + 10 ∧ i = m) → ¬ (a = c ∧ i = 12) → (adC c m x s) a i = s a i) := by
  unfold adC
  refine ⟨?_, ?_, ?_, ?_, ?_, ?_, ?_, gs_at _ _ _ _, fun a i h1 h2 => ?_⟩
  · rw [gs_ne (by omega), gs_ne (by omega), gs_ne (by omega), gs_ne (by omega), gs_ne (by omega), gs_ne (by omega), gs_ne (by omega), gs_at]
  · rw [gs_ne (by omega), gs_ne (by omega), gs_ne (by omega), gs_ne (by omega), gs_ne (by omega), gs_ne (by omega), gs_at]
  · rw [gs_ne (by omega), gs_ne (by omega), gs_ne (by omega), gs_ne (by omega), gs_ne (by omega), gs_at]
  · rw [gs_ne (by omega), gs_ne (by omega), gs_ne (by omega), gs_ne (by omega), gs_at]
  · rw [gs_ne (by omega), gs_ne (by omega), gs_ne (by omega), gs_at]
  · rw [gs_ne (by omega), gs_ne (by omega), gs_at]
  · rw [gs_ne (by omega), gs_at]
  · have key : ∀ (M : mG) (b j : Nat) (v : Int), ¬ (a = b ∧ i = j) → (gs M b j v) a i = M a i := by
      intro M b j v hn
      by_cases y : a = b
      · subst y
        exact gs_at_ne (fun q => hn ⟨rfl, q⟩)
      · rw [gs_ne y]
    rw [key _ _ _ _ (fun q => h2 q), key _ _ _ _ (by omega), key _ _ _ _ (by omega), key _ _ _ _ (by omega), key _ _ _ _ (by omega), key _ _ _ _ (by omega), key _ _ _ _ (by omega), key _ _ _ _ (by omega)]
theorem hasC (h : s c 12 = ((m + 1 : Nat) : Int)) (hm : m < 40) : w32 (s c 12 - 1) = ((m : Nat) : Int) ∧ f_X1_hasClause c s ((m : Nat) : Int) = 1 := by
  refine ⟨by rw [h, w32_i (by omega) (by omega)]; omega, ?_⟩
  unfold f_X1_hasClause
  rw [h, if_neg (by omega), if_neg (by omega), if_neg (by omega)]
theorem setA_eq (h : s c 12 = ((m + 1 : Nat) : Int)) (hm : m < 40) : e_X1_setAmount c s v = gs s (c + 6) m v := by
  obtain ⟨e1, e2⟩ := hasC h hm
  unfold e_X1_setAmount
  rw [e1, e2, if_neg (by decide), st_nat]
theorem setD_eq (h : s c 12 = ((m + 1 : Nat) : Int)) (hm : m < 40) : e_X1_setDistrict c s v = gs s (c + 7) m v := by
  obtain ⟨e1, e2⟩ := hasC h hm
  unfold e_X1_setDistrict
  rw [e1, e2, if_neg (by decide), st_nat]
theorem setW_eq (h : s c 12 = ((m + 1 : Nat) : Int)) (hm : m < 40) : e_X1_setWorth c s v = gs s (c + 8) m v := by
  obtain ⟨e1, e2⟩ := hasC h hm
  unfold e_X1_setWorth
  rw [e1, e2, if_neg (by decide), st_nat]
theorem riv_eq (h : s c 12 = ((m + 1 : Nat) : Int)) (hm : m < 40) : e_X7_noteRival c s = gs (gs s 17 m (f_X10_name s)) 18 m (f_X10_start s) := by
  obtain ⟨e1, e2⟩ := hasC h hm
  unfold e_X7_noteRival
  have e3 : f_X1_clauses c s = s c 12 := rfl
  have e4 : f_X10_start (gs s 17 m (f_X10_name s)) = f_X10_start s := by unfold f_X10_start; rw [gs_ne (by decide)]
  rw [e3, e1, st_nat, if_neg (by omega), if_neg (by omega), e4]
theorem blf_0 {y : Int} : e_X7_blameIf s 0 y = s := by unfold e_X7_blameIf; rw [if_pos rfl]
theorem blf_1 {y : Int} : e_X7_blameIf s 1 y = e_X7_blame s y (f_X10_start s) := by unfold e_X7_blameIf; rw [if_neg (by decide)]
end EFF
