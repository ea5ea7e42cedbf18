/-! ===== a condition on both sides: what holds before and behind a literal ===== -/
/-- where the class writes in a condition -/
def insC (c k P0 a i : Nat) : Prop := a = 20 ∨ a = 19 ∨ (a = 15 ∧ (i = 5 ∨ i = 6 ∨ i = 7 ∨ i = 8 ∨ i = 10 ∨ i = 11)) ∨ (a = c ∧ i = 13) ∨ (a = c + 10 ∧ i = k) ∨ (a = c + 11 ∧ P0 ≤ i)
/-- where the reference writes in a condition -/
def insR (S q0 l0 a i : Nat) : Prop := (a = 64 ∧ (i = 11 ∨ i = 12 ∨ i = 13 ∨ i = 14 ∨ i = 15 ∨ i = 16 ∨ i = 39 ∨ i = 43)) ∨ a = 93 ∨ (a = 85 ∧ i = S) ∨ (86 ≤ a ∧ a ≤ 90 ∧ 600 * S + l0 ≤ i ∧ i < 600 * S + 600) ∨ (91 ≤ a ∧ a ≤ 92 ∧ 700 * S + q0 ≤ i ∧ i < 700 * S + 700)
theorem insX_C {c k P0 p0 : Nat} (h : P0 ≤ p0) : ∀ a i, insX c k p0 a i → insC c k P0 a i := by
  intro a i hi
  unfold insX at hi
  unfold insC
  omega
theorem insE_R {S q0 q1 l0 : Nat} (h : q0 ≤ q1) : ∀ a i, insE S q1 a i → insR S q0 l0 a i := by
  intro a i hi
  unfold insE at hi
  unfold insR
  omega
theorem insR_64 {S q0 l0 i : Nat} (h : i = 11 ∨ i = 12 ∨ i = 13 ∨ i = 14 ∨ i = 15 ∨ i = 16 ∨ i = 39 ∨ i = 43) : insR S q0 l0 64 i := Or.inl ⟨rfl, h⟩
def oRf (H : mG) : Nat → Bool := fun l => decide (¬ H 90 l = 0)
def lRf (H : mG) (va : Nat → Int) (mk : Int) : Nat → Bool := litY (H 86) (H 87) (H 88) (H 89) (H 91) (H 92) va mk
/-- blames only grow, and come no later -/
def bmn (s0 s : mG) : Prop := (s 15 10 = 0 → s0 15 10 = 0) ∧ (¬ s0 15 10 = 0 → s 15 11 ≤ s0 15 11)
theorem bmn_rf {s : mG} : bmn s s := ⟨fun h => h, fun _ => Int.le_refl _⟩
theorem bmn_eq {s s' : mG} (h1 : s' 15 10 = s 15 10) (h2 : s' 15 11 = s 15 11) : bmn s s' := ⟨fun h => by rw [← h1]; exact h, fun _ => by rw [h2]; exact Int.le_refl _⟩
theorem bmn_tr {s0 s s' : mG} (h1 : bmn s0 s) (h2 : bmn s s') : bmn s0 s' := by
  refine ⟨fun h => h1.1 (h2.1 h), fun h => ?_⟩
  have a := h1.2 h
  have b := h2.2 (fun q => h (h1.1 q))
  omega
/-- a literal of the reference that may be weighed -/
def LOK (S q0 qq : Nat) (H : mG) (l : Nat) : Prop := (((700 * S + q0 : Nat) : Int) ≤ H 87 l ∧ H 87 l ≤ H 88 l ∧ H 88 l ≤ H 89 l ∧ H 89 l ≤ ((700 * S + qq : Nat) : Int)) ∧ (H 86 l = 4 → H 87 l < H 89 l) ∧ (¬ H 86 l = 4 → (∀ va, rnR (H 91) (H 92) va (H 87 l).toNat (H 88 l - H 87 l).toNat = some [rV (H 91) (H 92) va (H 87 l).toNat (H 88 l - H 87 l).toNat]) ∧ (∀ va, rnR (H 91) (H 92) va (H 88 l).toNat (H 89 l - H 88 l).toNat = some [rV (H 91) (H 92) va (H 88 l).toNat (H 89 l - H 88 l).toNat]))
section LKS
variable {S q0 qq qq' l0 l : Nat} {H H' : mG} {va : Nat → Int} {mk : Int}
theorem LOK_to (h : LOK S q0 qq H l) (hq : qq ≤ qq') (hr : ∀ a, 86 ≤ a → a ≤ 89 → H' a l = H a l) (hc : ∀ i, i < 700 * S + qq → H' 91 i = H 91 i ∧ H' 92 i = H 92 i) : LOK S q0 qq' H' l := by
  obtain ⟨⟨h1, h2, h3, h4⟩, h5, h6⟩ := h
  unfold LOK
  rw [hr 86 (by decide) (by decide), hr 87 (by decide) (by decide), hr 88 (by decide) (by decide), hr 89 (by decide) (by decide)]
  refine ⟨⟨h1, h2, h3, by omega⟩, h5, fun hn => ?_⟩
  obtain ⟨a, b⟩ := h6 hn
  refine ⟨fun va => ?_, fun va => ?_⟩
  · have e : rnR (H' 91) (H' 92) va (H 87 l).toNat (H 88 l - H 87 l).toNat = rnR (H 91) (H 92) va (H 87 l).toNat (H 88 l - H 87 l).toNat := rnR_congr (fun i hi => hc _ (by omega))
    unfold rV
    rw [e]
    exact a va
  · have e : rnR (H' 91) (H' 92) va (H 88 l).toNat (H 89 l - H 88 l).toNat = rnR (H 91) (H 92) va (H 88 l).toNat (H 89 l - H 88 l).toNat := rnR_congr (fun i hi => hc _ (by omega))
    unfold rV
    rw [e]
    exact b va
theorem lRf_to (h : LOK S q0 qq H l) (hr : ∀ a, 86 ≤ a → a ≤ 89 → H' a l = H a l) (hc : ∀ i, i < 700 * S + qq → H' 91 i = H 91 i ∧ H' 92 i = H 92 i) : lRf H' va mk l = lRf H va mk l := by
  obtain ⟨⟨h1, h2, h3, h4⟩, h5, _⟩ := h
  exact litY_congr (hr 86 (by decide) (by decide)) (hr 87 (by decide) (by decide)) (hr 88 (by decide) (by decide)) (hr 89 (by decide) (by decide)) ⟨by omega, h2, h3, h5⟩ (fun i _ hi => hc i (by omega))
theorem hR_to (h : ∀ j, l0 ≤ j → j < l → LOK S q0 qq H (600 * S + j)) (hl : l0 ≤ l) (hr : ∀ a i, 86 ≤ a → a ≤ 90 → i < 600 * S + l → H' a i = H a i) (hc : ∀ i, i < 700 * S + qq → H' 91 i = H 91 i ∧ H' 92 i = H 92 i) : hR (oRf H') (lRf H' va mk) (600 * S + l0) (l - l0) = hR (oRf H) (lRf H va mk) (600 * S + l0) (l - l0) := by
  refine hR_congr (fun i hi => ⟨?_, ?_⟩)
  · unfold oRf
    rw [hr 90 _ (by decide) (by decide) (by omega)]
  · exact lRf_to (by rw [Nat.add_assoc]; exact h (l0 + i) (by omega) (by omega)) (fun a h1 h2 => hr a _ h1 (by omega) (by omega)) hc
end LKS
/-- both before a literal -/
def CI (c : Nat) (L : Int) (r : Nat → Int) (F : mG) (K S k P0 q0 l0 : Nat) (s0 H0 : mG) (t sh P qq l : Nat) (s H : mG) : Prop := (SM c L r F K t 17 s H) ∧ (shB sh (s 19)) ∧ (CS0 c k P0 P (shW sh) s) ∧ (s 15 6 = 0) ∧ (s 15 7 = 0) ∧ (P + shW sh ≤ t) ∧ (H 64 39 = ((700 * S + qq : Nat) : Int)) ∧ (q0 ≤ qq ∧ qq ≤ t) ∧ (H 64 12 = 0) ∧ (H 85 S = (l : Int)) ∧ (l0 ≤ l ∧ l ≤ t) ∧ (frm (insC c k P0) s0 s) ∧ (frm (insR S q0 l0) H0 H) ∧ (bq (s 15 10) (s 15 11) (H 64 15) (H 64 16)) ∧ (bmn s0 s) ∧ (sh = 0 → l = l0) ∧ (∀ j, l0 ≤ j → j < l → LOK S q0 qq H (600 * S + j)) ∧ (s 15 10 = 0 → ∀ (E va : Nat → Int) (mk : Int), cpE E va mk → rnC E (s (c + 11)) P0 (P - P0) = stk sh (hR (oRf H) (lRf H va mk) (600 * S + l0) (l - l0)) ∧ (sh = 2 → (hR (oRf H) (lRf H va mk) (600 * S + l0) (l - l0)).1 = false))
theorem CI.sm {c : Nat} {L : Int} {r : Nat → Int} {F : mG} {K S k P0 q0 l0 : Nat} {s0 H0 : mG} {t sh P qq l : Nat} {s H : mG} (h : CI c L r F K S k P0 q0 l0 s0 H0 t sh P qq l s H) : SM c L r F K t 17 s H := h.1
theorem CI.sb {c : Nat} {L : Int} {r : Nat → Int} {F : mG} {K S k P0 q0 l0 : Nat} {s0 H0 : mG} {t sh P qq l : Nat} {s H : mG} (h : CI c L r F K S k P0 q0 l0 s0 H0 t sh P qq l s H) : shB sh (s 19) := h.2.1
theorem CI.cs0 {c : Nat} {L : Int} {r : Nat → Int} {F : mG} {K S k P0 q0 l0 : Nat} {s0 H0 : mG} {t sh P qq l : Nat} {s H : mG} (h : CI c L r F K S k P0 q0 l0 s0 H0 t sh P qq l s H) : CS0 c k P0 P (shW sh) s := h.2.2.1
theorem CI.d0 {c : Nat} {L : Int} {r : Nat → Int} {F : mG} {K S k P0 q0 l0 : Nat} {s0 H0 : mG} {t sh P qq l : Nat} {s H : mG} (h : CI c L r F K S k P0 q0 l0 s0 H0 t sh P qq l s H) : s 15 6 = 0 := h.2.2.2.1
theorem CI.rs {c : Nat} {L : Int} {r : Nat → Int} {F : mG} {K S k P0 q0 l0 : Nat} {s0 H0 : mG} {t sh P qq l : Nat} {s H : mG} (h : CI c L r F K S k P0 q0 l0 s0 H0 t sh P qq l s H) : s 15 7 = 0 := h.2.2.2.2.1
theorem CI.hp {c : Nat} {L : Int} {r : Nat → Int} {F : mG} {K S k P0 q0 l0 : Nat} {s0 H0 : mG} {t sh P qq l : Nat} {s H : mG} (h : CI c L r F K S k P0 q0 l0 s0 H0 t sh P qq l s H) : P + shW sh ≤ t := h.2.2.2.2.2.1
theorem CI.r39 {c : Nat} {L : Int} {r : Nat → Int} {F : mG} {K S k P0 q0 l0 : Nat} {s0 H0 : mG} {t sh P qq l : Nat} {s H : mG} (h : CI c L r F K S k P0 q0 l0 s0 H0 t sh P qq l s H) : H 64 39 = ((700 * S + qq : Nat) : Int) := h.2.2.2.2.2.2.1
theorem CI.hq {c : Nat} {L : Int} {r : Nat → Int} {F : mG} {K S k P0 q0 l0 : Nat} {s0 H0 : mG} {t sh P qq l : Nat} {s H : mG} (h : CI c L r F K S k P0 q0 l0 s0 H0 t sh P qq l s H) : q0 ≤ qq ∧ qq ≤ t := h.2.2.2.2.2.2.2.1
theorem CI.ro {c : Nat} {L : Int} {r : Nat → Int} {F : mG} {K S k P0 q0 l0 : Nat} {s0 H0 : mG} {t sh P qq l : Nat} {s H : mG} (h : CI c L r F K S k P0 q0 l0 s0 H0 t sh P qq l s H) : H 64 12 = 0 := h.2.2.2.2.2.2.2.2.1
theorem CI.r85 {c : Nat} {L : Int} {r : Nat → Int} {F : mG} {K S k P0 q0 l0 : Nat} {s0 H0 : mG} {t sh P qq l : Nat} {s H : mG} (h : CI c L r F K S k P0 q0 l0 s0 H0 t sh P qq l s H) : H 85 S = (l : Int) := h.2.2.2.2.2.2.2.2.2.1
theorem CI.hl {c : Nat} {L : Int} {r : Nat → Int} {F : mG} {K S k P0 q0 l0 : Nat} {s0 H0 : mG} {t sh P qq l : Nat} {s H : mG} (h : CI c L r F K S k P0 q0 l0 s0 H0 t sh P qq l s H) : l0 ≤ l ∧ l ≤ t := h.2.2.2.2.2.2.2.2.2.2.1
theorem CI.fs {c : Nat} {L : Int} {r : Nat → Int} {F : mG} {K S k P0 q0 l0 : Nat} {s0 H0 : mG} {t sh P qq l : Nat} {s H : mG} (h : CI c L r F K S k P0 q0 l0 s0 H0 t sh P qq l s H) : frm (insC c k P0) s0 s := h.2.2.2.2.2.2.2.2.2.2.2.1
theorem CI.fh {c : Nat} {L : Int} {r : Nat → Int} {F : mG} {K S k P0 q0 l0 : Nat} {s0 H0 : mG} {t sh P qq l : Nat} {s H : mG} (h : CI c L r F K S k P0 q0 l0 s0 H0 t sh P qq l s H) : frm (insR S q0 l0) H0 H := h.2.2.2.2.2.2.2.2.2.2.2.2.1
theorem CI.bqq {c : Nat} {L : Int} {r : Nat → Int} {F : mG} {K S k P0 q0 l0 : Nat} {s0 H0 : mG} {t sh P qq l : Nat} {s H : mG} (h : CI c L r F K S k P0 q0 l0 s0 H0 t sh P qq l s H) : bq (s 15 10) (s 15 11) (H 64 15) (H 64 16) := h.2.2.2.2.2.2.2.2.2.2.2.2.2.1
theorem CI.bm {c : Nat} {L : Int} {r : Nat → Int} {F : mG} {K S k P0 q0 l0 : Nat} {s0 H0 : mG} {t sh P qq l : Nat} {s H : mG} (h : CI c L r F K S k P0 q0 l0 s0 H0 t sh P qq l s H) : bmn s0 s := h.2.2.2.2.2.2.2.2.2.2.2.2.2.2.1
theorem CI.e0 {c : Nat} {L : Int} {r : Nat → Int} {F : mG} {K S k P0 q0 l0 : Nat} {s0 H0 : mG} {t sh P qq l : Nat} {s H : mG} (h : CI c L r F K S k P0 q0 l0 s0 H0 t sh P qq l s H) : sh = 0 → l = l0 := h.2.2.2.2.2.2.2.2.2.2.2.2.2.2.2.1
theorem CI.lw {c : Nat} {L : Int} {r : Nat → Int} {F : mG} {K S k P0 q0 l0 : Nat} {s0 H0 : mG} {t sh P qq l : Nat} {s H : mG} (h : CI c L r F K S k P0 q0 l0 s0 H0 t sh P qq l s H) : ∀ j, l0 ≤ j → j < l → LOK S q0 qq H (600 * S + j) := h.2.2.2.2.2.2.2.2.2.2.2.2.2.2.2.2.1
theorem CI.sem {c : Nat} {L : Int} {r : Nat → Int} {F : mG} {K S k P0 q0 l0 : Nat} {s0 H0 : mG} {t sh P qq l : Nat} {s H : mG} (h : CI c L r F K S k P0 q0 l0 s0 H0 t sh P qq l s H) : s 15 10 = 0 → ∀ (E va : Nat → Int) (mk : Int), cpE E va mk → rnC E (s (c + 11)) P0 (P - P0) = stk sh (hR (oRf H) (lRf H va mk) (600 * S + l0) (l - l0)) ∧ (sh = 2 → (hR (oRf H) (lRf H va mk) (600 * S + l0) (l - l0)).1 = false) := h.2.2.2.2.2.2.2.2.2.2.2.2.2.2.2.2.2
/-- whatever is released, it comes to the signs below the literal first -/
def LE (c k P0 w0 pm : Nat) (s : mG) (V : (Nat → Int) → Int → List Int) : Prop :=
  ∀ A : mG, (∀ k, k ≠ 20 → A k = s k) → ∀ x : Int, 1 ≤ x → x ≤ 2 → ∃ (s1 : mG) (P : Nat), e_X7_release c A x = rl c x w0 s1 ∧ CS0 c k P0 P w0 s1 ∧ P + w0 ≤ pm ∧ (∀ i, i < w0 → s1 19 i = s 19 i) ∧ frm (insX c k P0) s s1 ∧ s1 15 6 = s 15 6 ∧ (s 15 10 = 0 → ∀ (E va : Nat → Int) (mk : Int), cpE E va mk → rnC E (s1 (c + 11)) P0 (P - P0) = V va mk)
/-- both behind a literal -/
def LI (c : Nat) (L : Int) (r : Nat → Int) (F : mG) (K S k P0 q0 l0 : Nat) (s0 H0 : mG) (t sh qq l : Nat) (X : Int) (s H : mG) : Prop := (SM c L r F K t X s H) ∧ (X = 19 ∨ (X = 21 ∧ ¬ s 15 7 = 0)) ∧ (X = 21 → ¬ (tkK (tb L r) (tkQ (tb L r) t) = 8 ∨ tkK (tb L r) (tkQ (tb L r) t) = 9 ∨ tkK (tb L r) (tkQ (tb L r) t) = 10)) ∧ (LE c k P0 (shW sh) t s (fun va mk => b01 (lRf H va mk (600 * S + l)) :: stk sh (hR (oRf H) (lRf H va mk) (600 * S + l0) (l - l0)))) ∧ (shB sh (s 19)) ∧ (s 15 6 = 0) ∧ (H 64 39 = ((700 * S + qq : Nat) : Int)) ∧ (q0 ≤ qq ∧ qq ≤ t) ∧ (H 64 12 = 0) ∧ (H 85 S = ((l + 1 : Nat) : Int)) ∧ (l0 ≤ l ∧ l + 1 ≤ t) ∧ (oRf H (600 * S + l) = shO sh) ∧ (frm (insC c k P0) s0 s) ∧ (frm (insR S q0 l0) H0 H) ∧ (bq (s 15 10) (s 15 11) (H 64 15) (H 64 16)) ∧ (bmn s0 s) ∧ (sh = 0 → l = l0) ∧ (∀ j, l0 ≤ j → j < l + 1 → LOK S q0 qq H (600 * S + j)) ∧ (s 15 10 = 0 → ∀ (va : Nat → Int) (mk : Int), (0 ≤ mk ∧ mk ≤ 255) → sh = 2 → (hR (oRf H) (lRf H va mk) (600 * S + l0) (l - l0)).1 = false)
theorem LI.sm {c : Nat} {L : Int} {r : Nat → Int} {F : mG} {K S k P0 q0 l0 : Nat} {s0 H0 : mG} {t sh qq l : Nat} {X : Int} {s H : mG} (h : LI c L r F K S k P0 q0 l0 s0 H0 t sh qq l X s H) : SM c L r F K t X s H := h.1
theorem LI.hX {c : Nat} {L : Int} {r : Nat → Int} {F : mG} {K S k P0 q0 l0 : Nat} {s0 H0 : mG} {t sh qq l : Nat} {X : Int} {s H : mG} (h : LI c L r F K S k P0 q0 l0 s0 H0 t sh qq l X s H) : X = 19 ∨ (X = 21 ∧ ¬ s 15 7 = 0) := h.2.1
theorem LI.nop {c : Nat} {L : Int} {r : Nat → Int} {F : mG} {K S k P0 q0 l0 : Nat} {s0 H0 : mG} {t sh qq l : Nat} {X : Int} {s H : mG} (h : LI c L r F K S k P0 q0 l0 s0 H0 t sh qq l X s H) : X = 21 → ¬ (tkK (tb L r) (tkQ (tb L r) t) = 8 ∨ tkK (tb L r) (tkQ (tb L r) t) = 9 ∨ tkK (tb L r) (tkQ (tb L r) t) = 10) := h.2.2.1
theorem LI.le {c : Nat} {L : Int} {r : Nat → Int} {F : mG} {K S k P0 q0 l0 : Nat} {s0 H0 : mG} {t sh qq l : Nat} {X : Int} {s H : mG} (h : LI c L r F K S k P0 q0 l0 s0 H0 t sh qq l X s H) : LE c k P0 (shW sh) t s (fun va mk => b01 (lRf H va mk (600 * S + l)) :: stk sh (hR (oRf H) (lRf H va mk) (600 * S + l0) (l - l0))) := h.2.2.2.1
theorem LI.sb {c : Nat} {L : Int} {r : Nat → Int} {F : mG} {K S k P0 q0 l0 : Nat} {s0 H0 : mG} {t sh qq l : Nat} {X : Int} {s H : mG} (h : LI c L r F K S k P0 q0 l0 s0 H0 t sh qq l X s H) : shB sh (s 19) := h.2.2.2.2.1
theorem LI.d0 {c : Nat} {L : Int} {r : Nat → Int} {F : mG} {K S k P0 q0 l0 : Nat} {s0 H0 : mG} {t sh qq l : Nat} {X : Int} {s H : mG} (h : LI c L r F K S k P0 q0 l0 s0 H0 t sh qq l X s H) : s 15 6 = 0 := h.2.2.2.2.2.1
theorem LI.r39 {c : Nat} {L : Int} {r : Nat → Int} {F : mG} {K S k P0 q0 l0 : Nat} {s0 H0 : mG} {t sh qq l : Nat} {X : Int} {s H : mG} (h : LI c L r F K S k P0 q0 l0 s0 H0 t sh qq l X s H) : H 64 39 = ((700 * S + qq : Nat) : Int) := h.2.2.2.2.2.2.1
theorem LI.hq {c : Nat} {L : Int} {r : Nat → Int} {F : mG} {K S k P0 q0 l0 : Nat} {s0 H0 : mG} {t sh qq l : Nat} {X : Int} {s H : mG} (h : LI c L r F K S k P0 q0 l0 s0 H0 t sh qq l X s H) : q0 ≤ qq ∧ qq ≤ t := h.2.2.2.2.2.2.2.1
theorem LI.ro {c : Nat} {L : Int} {r : Nat → Int} {F : mG} {K S k P0 q0 l0 : Nat} {s0 H0 : mG} {t sh qq l : Nat} {X : Int} {s H : mG} (h : LI c L r F K S k P0 q0 l0 s0 H0 t sh qq l X s H) : H 64 12 = 0 := h.2.2.2.2.2.2.2.2.1
theorem LI.r85 {c : Nat} {L : Int} {r : Nat → Int} {F : mG} {K S k P0 q0 l0 : Nat} {s0 H0 : mG} {t sh qq l : Nat} {X : Int} {s H : mG} (h : LI c L r F K S k P0 q0 l0 s0 H0 t sh qq l X s H) : H 85 S = ((l + 1 : Nat) : Int) := h.2.2.2.2.2.2.2.2.2.1
theorem LI.hl {c : Nat} {L : Int} {r : Nat → Int} {F : mG} {K S k P0 q0 l0 : Nat} {s0 H0 : mG} {t sh qq l : Nat} {X : Int} {s H : mG} (h : LI c L r F K S k P0 q0 l0 s0 H0 t sh qq l X s H) : l0 ≤ l ∧ l + 1 ≤ t := h.2.2.2.2.2.2.2.2.2.2.1
theorem LI.oo {c : Nat} {L : Int} {r : Nat → Int} {F : mG} {K S k P0 q0 l0 : Nat} {s0 H0 : mG} {t sh qq l : Nat} {X : Int} {s H : mG} (h : LI c L r F K S k P0 q0 l0 s0 H0 t sh qq l X s H) : oRf H (600 * S + l) = shO sh := h.2.2.2.2.2.2.2.2.2.2.2.1
theorem LI.fs {c : Nat} {L : Int} {r : Nat → Int} {F : mG} {K S k P0 q0 l0 : Nat} {s0 H0 : mG} {t sh qq l : Nat} {X : Int} {s H : mG} (h : LI c L r F K S k P0 q0 l0 s0 H0 t sh qq l X s H) : frm (insC c k P0) s0 s := h.2.2.2.2.2.2.2.2.2.2.2.2.1
theorem LI.fh {c : Nat} {L : Int} {r : Nat → Int} {F : mG} {K S k P0 q0 l0 : Nat} {s0 H0 : mG} {t sh qq l : Nat} {X : Int} {s H : mG} (h : LI c L r F K S k P0 q0 l0 s0 H0 t sh qq l X s H) : frm (insR S q0 l0) H0 H := h.2.2.2.2.2.2.2.2.2.2.2.2.2.1
theorem LI.bqq {c : Nat} {L : Int} {r : Nat → Int} {F : mG} {K S k P0 q0 l0 : Nat} {s0 H0 : mG} {t sh qq l : Nat} {X : Int} {s H : mG} (h : LI c L r F K S k P0 q0 l0 s0 H0 t sh qq l X s H) : bq (s 15 10) (s 15 11) (H 64 15) (H 64 16) := h.2.2.2.2.2.2.2.2.2.2.2.2.2.2.1
theorem LI.bm {c : Nat} {L : Int} {r : Nat → Int} {F : mG} {K S k P0 q0 l0 : Nat} {s0 H0 : mG} {t sh qq l : Nat} {X : Int} {s H : mG} (h : LI c L r F K S k P0 q0 l0 s0 H0 t sh qq l X s H) : bmn s0 s := h.2.2.2.2.2.2.2.2.2.2.2.2.2.2.2.1
theorem LI.e0 {c : Nat} {L : Int} {r : Nat → Int} {F : mG} {K S k P0 q0 l0 : Nat} {s0 H0 : mG} {t sh qq l : Nat} {X : Int} {s H : mG} (h : LI c L r F K S k P0 q0 l0 s0 H0 t sh qq l X s H) : sh = 0 → l = l0 := h.2.2.2.2.2.2.2.2.2.2.2.2.2.2.2.2.1
theorem LI.lw {c : Nat} {L : Int} {r : Nat → Int} {F : mG} {K S k P0 q0 l0 : Nat} {s0 H0 : mG} {t sh qq l : Nat} {X : Int} {s H : mG} (h : LI c L r F K S k P0 q0 l0 s0 H0 t sh qq l X s H) : ∀ j, l0 ≤ j → j < l + 1 → LOK S q0 qq H (600 * S + j) := h.2.2.2.2.2.2.2.2.2.2.2.2.2.2.2.2.2.1
theorem LI.sem {c : Nat} {L : Int} {r : Nat → Int} {F : mG} {K S k P0 q0 l0 : Nat} {s0 H0 : mG} {t sh qq l : Nat} {X : Int} {s H : mG} (h : LI c L r F K S k P0 q0 l0 s0 H0 t sh qq l X s H) : s 15 10 = 0 → ∀ (va : Nat → Int) (mk : Int), (0 ≤ mk ∧ mk ≤ 255) → sh = 2 → (hR (oRf H) (lRf H va mk) (600 * S + l0) (l - l0)).1 = false := h.2.2.2.2.2.2.2.2.2.2.2.2.2.2.2.2.2.2
/-- both stopped in a condition -/
def BdR (F : mG) (S q0 l0 : Nat) (H0 H : mG) : Prop := Bad F H ∧ frm (insR S q0 l0) H0 H ∧ 0 ≤ H 64 11 ∧ H 64 11 ≤ 600
section CDN
variable {c : Nat} {L : Int} {r : Nat → Int} {F : mG} {K S k P0 q0 l0 : Nat} {s0 H0 : mG} {t sh P qq l : Nat} {s H A : mG} {X x : Int}
theorem behind_ao (hx : x = 25 ∨ x = 26) (h6 : (e_X7_hold (e_X7_release c A (crk x)) x) 15 6 = 0) : e_X7_noteBehind c A x = gs (e_X7_hold (e_X7_release c A (crk x)) x) 15 7 0 := by
  unfold e_X7_noteBehind
  rw [crk_eq]
  rcases hx with e | e <;> subst e
  · rw [show mMax (crk 25) 1 = crk 25 from by decide, if_pos (by decide), if_neg (by decide), if_neg (by decide), if_neg (fun q => q h6), if_neg (by decide), if_pos (by decide)]
  · rw [show mMax (crk 26) 1 = crk 26 from by decide, if_pos (by decide), if_neg (by decide), if_neg (by decide), if_neg (fun q => q h6), if_neg (by decide), if_pos (by decide)]
theorem behind_semi (h6 : (e_X7_release c A 1) 15 6 = 0) : e_X7_noteBehind c A 4 = gs (e_X7_release c A 1) 15 7 0 := by
  unfold e_X7_noteBehind
  rw [crk_eq, show mMax (crk 4) 1 = 1 from by decide, if_pos (by decide), if_pos (by decide), if_neg (by decide), if_neg (fun q => q h6), if_neg (by decide), if_pos (by decide)]
theorem behind_cmp (hx : 10 ≤ x ∧ x ≤ 13) (h6 : (e_X7_hold (e_X7_release c A 3) x) 15 6 = 0) : e_X7_noteBehind c A x = gs (e_X7_hold (e_X7_release c A 3) x) 15 7 1 := by
  have hc : crk x = 3 := by rw [crk_v, if_neg (by omega), if_neg (by omega), if_pos hx]
  unfold e_X7_noteBehind
  rw [crk_eq, hc, show mMax 3 1 = 3 from by decide, if_pos (by omega), if_neg (by decide), if_neg (by decide), if_neg (fun q => q h6), if_neg (by omega), if_neg (fun q => q rfl)]
theorem li_note (h : LI c L r F K S k P0 q0 l0 s0 H0 t sh qq l X s H) (hA : A 15 8 = X) : e_X7_note c A x = e_X7_noteBehind c A x := by
  rcases h.hX with e | ⟨e, _⟩
  · rw [e] at hA; exact note_19 hA
  · rw [e] at hA; exact note_21 hA
theorem li_fol (h : LI c L r F K S k P0 q0 l0 s0 H0 t sh qq l X s H) (hA : ∀ k, k ≠ 20 → A k = s k) (hx : X = 21 → ¬ (x = 7 ∨ x = 8 ∨ x = 9)) : f_X7_follow A x = if x = 25 ∨ x = 26 then 17 else if x = 4 then 8 else -1 := by
  have h8 : A 15 8 = X := by rw [hA 15 (by decide)]; exact h.sm.2.2.1
  rcases h.hX with e | ⟨e, e7⟩
  · rw [e] at h8
    rw [fol_19 h8, fL]
  · rw [e] at h8
    have h6 := h.d0
    have hx := hx e
    have hcr : ¬ 4 ≤ crk x := by
      rw [crk_v, if_neg (by omega), if_neg (by omega)]
      by_cases y1 : 10 ≤ x ∧ x ≤ 13
      · rw [if_pos y1]; decide
      · rw [if_neg y1]
        by_cases y2 : x = 25
        · rw [if_pos y2]; decide
        · rw [if_neg y2]
          by_cases y3 : x = 26
          · rw [if_pos y3]; decide
          · rw [if_neg y3]; decide
    rw [be_fol h8, if_neg hcr, if_neg (by rw [hA 15 (by decide)]; omega), if_neg (by rw [hA 15 (by decide)]; exact e7), fL]
theorem cne (hc : c = 40 ∨ c = 52) (j : Nat) (_ : j < 12) : c + j ≠ 15 ∧ c + j ≠ 19 := by omega
theorem nx15 (hc : c = 40 ∨ c = 52) {i : Nat} (h : ¬ (i = 5 ∨ i = 6 ∨ i = 8)) : ¬ insX c k P0 15 i := by
  unfold insX
  omega
theorem BdR_fail {e : Int} (he : 0 < e) (h1 : Sto (tb L r) F t e) (h2 : rT (tb L r) K t H) (h3 : H 64 13 = 0) (hf : frm (insR S q0 l0) H0 H) : BdR F S q0 l0 H0 (e_X12_fail H e) := by
  obtain ⟨u1, u2, u3, u4⟩ := BadF_fail (S := S) (G := H) he h1 h2 h3 Fr_rf
  refine ⟨u1, ?_, u3, u4⟩
  unfold e_X12_fail
  exact ite_P (P := fun x : mG => frm (insR S q0 l0) H0 x) (frm_gs (frm_gs hf (insR_64 (by decide))) (insR_64 (by decide))) hf
/-- the signs below come out: for an and -/
theorem op_n2 {w : Nat → Int} {T : List Int} (h : shB sh w) : (opz 2 w (shW sh) T).1 = shW (shA sh) - 1 := by
  rw [opz_n _ T (b01 false :: stk sh (false, false)), (opz_and (p := (false, false)) (v := false) h (fun _ => rfl) (fun _ => rfl)).1]
theorem op_n1 {w : Nat → Int} {T : List Int} (h : shB sh w) : (opz 1 w (shW sh) T).1 = 0 := by
  rw [opz_n _ T (b01 false :: stk sh (false, false)), opz_or (p := (false, false)) (v := false) h (fun _ => rfl) (fun _ => rfl)]
theorem shB_to {w w' : Nat → Int} (h : shB sh w) (e : ∀ i, i < shW sh → w' i = w i) : shB sh w' := by
  unfold shW at e
  rcases h with y | ⟨y, e2⟩ | ⟨y, e2⟩ | ⟨y, e2, e3⟩ <;> subst y
  · exact Or.inl rfl
  · exact Or.inr (Or.inl ⟨rfl, by rw [e 0 (by decide)]; exact e2⟩)
  · exact Or.inr (Or.inr (Or.inl ⟨rfl, by rw [e 0 (by decide)]; exact e2⟩))
  · exact Or.inr (Or.inr (Or.inr ⟨rfl, by rw [e 0 (by decide)]; exact e2, by rw [e 1 (by decide)]; exact e3⟩))
theorem shB_and {w w' : Nat → Int} (h : shB sh w) (e : ∀ i, i < shW (shA sh) - 1 → w' i = w i) (e2 : w' (shW (shA sh) - 1) = 26) (hw : shW (shA sh) - 1 ≤ shW sh) : shB (shA sh) w' ∧ shW (shA sh) - 1 + 1 = shW (shA sh) := by
  rcases h with y | ⟨y, q⟩ | ⟨y, q⟩ | ⟨y, q, q2⟩ <;> subst y
  · exact ⟨Or.inr (Or.inr (Or.inl ⟨rfl, e2⟩)), rfl⟩
  · exact ⟨Or.inr (Or.inr (Or.inr ⟨rfl, by rw [e 0 (by decide)]; exact q, e2⟩)), rfl⟩
  · exact ⟨Or.inr (Or.inr (Or.inl ⟨rfl, e2⟩)), rfl⟩
  · exact ⟨Or.inr (Or.inr (Or.inr ⟨rfl, by rw [e 0 (by decide)]; exact q, e2⟩)), rfl⟩
/-- the class's release behind a literal -/
theorem li_rel (hc : c = 40 ∨ c = 52) (hk : k < 40) (h : LI c L r F K S k P0 q0 l0 s0 H0 t sh qq l X s H) (ht : t ≤ 600) (hA : ∀ k, k ≠ 20 → A k = s k) (hx : x = 1 ∨ x = 2) :
    ∃ (s2 : mG) (P' w' : Nat), e_X7_release c A x = s2 ∧ CS0 c k P0 P' w' s2 ∧ P' + w' ≤ t ∧ w' ≤ 2 ∧ (∀ i, i < shW sh → s2 19 i = s 19 i) ∧ frm (insX c k P0) s s2 ∧ s2 15 6 = 0 ∧ (x = 1 → w' = 0) ∧ (x = 2 → w' = shW (shA sh) - 1) ∧ (s 15 10 = 0 → ∀ (E va : Nat → Int) (mk : Int), cpE E va mk → (x = 1 → rnC E (s2 (c + 11)) P0 (P' - P0) = stk 1 (hR (oRf H) (lRf H va mk) (600 * S + l0) (l + 1 - l0))) ∧ (x = 2 → rnC E (s2 (c + 11)) P0 (P' - P0) = stk (shA sh) (hR (oRf H) (lRf H va mk) (600 * S + l0) (l + 1 - l0)) ∧ (shA sh = 2 → (hR (oRf H) (lRf H va mk) (600 * S + l0) (l + 1 - l0)).1 = false))) := by
  obtain ⟨s1, P, i1, i2, i3, i4, i5, i6, i7⟩ := h.le A hA x (by omega) (by omega)
  have hwr := shB_r h.sb
  have hwl := shW_le (sh := sh)
  obtain ⟨s2, P', w', j1, j2, j3, j4, j5, j6, j7, j8⟩ := rl_opz (x := x) hc hk (by omega) (shW sh) P s1 i2 (by omega) (fun i hi => by rw [i4 i hi]; have := hwr i hi; omega)
  have hsb : shB sh (s1 19) := shB_to h.sb i4
  have hl := h.hl
  have w1 : x = 1 → w' = 0 := by
    intro e
    have q := j8 (fun _ => 0)
    rw [e] at q
    have q2 := congrArg Prod.fst q
    rw [op_n1 hsb] at q2
    exact q2
  have w2 : x = 2 → w' = shW (shA sh) - 1 := by
    intro e
    have q := j8 (fun _ => 0)
    rw [e] at q
    have q2 := congrArg Prod.fst q
    rw [op_n2 hsb] at q2
    exact q2
  refine ⟨s2, P', w', by rw [i1, j1], j2, by omega, by omega, fun i hi => by rw [j5]; exact i4 i hi, frm_tr i5 j6, by rw [j7, i6]; exact h.d0, w1, w2, fun h0 E va mk hE => ?_⟩
  have e1 := i7 h0 E va mk hE
  have e2 := j8 E
  rw [e1] at e2
  have eh : hR (oRf H) (lRf H va mk) (600 * S + l0) (l + 1 - l0) = nxP sh (hR (oRf H) (lRf H va mk) (600 * S + l0) (l - l0)) (lRf H va mk (600 * S + l)) := by
    rw [show l + 1 - l0 = (l - l0) + 1 from by omega, hR_nx (sh := sh) (by rw [show 600 * S + l0 + (l - l0) = 600 * S + l from by omega]; exact h.oo), show 600 * S + l0 + (l - l0) = 600 * S + l from by omega]
  have z0 : sh = 0 → hR (oRf H) (lRf H va mk) (600 * S + l0) (l - l0) = (false, false) := by
    intro e
    rw [h.e0 e, Nat.sub_self]
    rfl
  have z2 := h.sem h0 va mk hE.1
  rw [eh]
  refine ⟨fun e => ?_, fun e => ?_⟩
  · rw [e, opz_or hsb z0 z2] at e2
    exact congrArg Prod.snd e2
  · obtain ⟨o1, o2⟩ := opz_and (v := lRf H va mk (600 * S + l)) hsb z0 z2
    rw [e, o1] at e2
    exact ⟨congrArg Prod.snd e2, o2⟩
end CDN
