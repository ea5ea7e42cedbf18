/-! ===== wip/whole/gen86c.py: a clause with a condition ===== -/
/-- both before the condition of clause m -/
def OCC (c : Nat) (L : Int) (r : Nat → Int) (F : mG) (K S n m p l qq t1 : Nat) (s H s1 H1 : mG) : Prop := (SM c L r F K t1 17 s1 H1) ∧ (s1 (c + 5) m = (n : Int) - 1) ∧ (s1 (c + 9) m = (p : Int)) ∧ (s1 (c + 10) m = (p : Int)) ∧ (s1 c 11 = (n : Int)) ∧ (s1 c 12 = ((m + 1 : Nat) : Int)) ∧ (s1 c 13 = (p : Int)) ∧ (s1 15 5 = 0) ∧ (s1 15 6 = 0) ∧ (s1 15 7 = 0) ∧ (frm (insK c m p) s s1) ∧ (bmn s s1) ∧ (bq (s1 15 10) (s1 15 11) (H1 64 15) (H1 64 16)) ∧ (H1 78 (40 * S + m) = (n : Int) - 1) ∧ (H1 82 (40 * S + m) = (l : Int)) ∧ (frm (insQ S m l qq) H H1) ∧ (H1 64 39 = H 64 39) ∧ (H1 64 12 = H 64 12) ∧ (H1 85 S = H 85 S) ∧ (H1 76 S = H 76 S) ∧ ((H1 77 (40 * S + m) = 1 ∧ s1 (c + 4) m = 21 ∧ s1 (c + 6) m = 0) ∨ (H1 77 (40 * S + m) = 3 ∧ s1 (c + 4) m = 23 ∧ H1 79 (40 * S + m) = s1 (c + 6) m ∧ 0 ≤ s1 (c + 6) m ∧ (s1 15 10 = 0 → s1 (c + 6) m ≤ 100)))
theorem OCC.sm {c : Nat} {L : Int} {r : Nat → Int} {F : mG} {K S n m p l qq t1 : Nat} {s H s1 H1 : mG} (h : OCC c L r F K S n m p l qq t1 s H s1 H1) : SM c L r F K t1 17 s1 H1 := h.1
theorem OCC.k5 {c : Nat} {L : Int} {r : Nat → Int} {F : mG} {K S n m p l qq t1 : Nat} {s H s1 H1 : mG} (h : OCC c L r F K S n m p l qq t1 s H s1 H1) : s1 (c + 5) m = (n : Int) - 1 := h.2.1
theorem OCC.k9 {c : Nat} {L : Int} {r : Nat → Int} {F : mG} {K S n m p l qq t1 : Nat} {s H s1 H1 : mG} (h : OCC c L r F K S n m p l qq t1 s H s1 H1) : s1 (c + 9) m = (p : Int) := h.2.2.1
theorem OCC.k10 {c : Nat} {L : Int} {r : Nat → Int} {F : mG} {K S n m p l qq t1 : Nat} {s H s1 H1 : mG} (h : OCC c L r F K S n m p l qq t1 s H s1 H1) : s1 (c + 10) m = (p : Int) := h.2.2.2.1
theorem OCC.c11 {c : Nat} {L : Int} {r : Nat → Int} {F : mG} {K S n m p l qq t1 : Nat} {s H s1 H1 : mG} (h : OCC c L r F K S n m p l qq t1 s H s1 H1) : s1 c 11 = (n : Int) := h.2.2.2.2.1
theorem OCC.c12 {c : Nat} {L : Int} {r : Nat → Int} {F : mG} {K S n m p l qq t1 : Nat} {s H s1 H1 : mG} (h : OCC c L r F K S n m p l qq t1 s H s1 H1) : s1 c 12 = ((m + 1 : Nat) : Int) := h.2.2.2.2.2.1
theorem OCC.c13 {c : Nat} {L : Int} {r : Nat → Int} {F : mG} {K S n m p l qq t1 : Nat} {s H s1 H1 : mG} (h : OCC c L r F K S n m p l qq t1 s H s1 H1) : s1 c 13 = (p : Int) := h.2.2.2.2.2.2.1
theorem OCC.w5 {c : Nat} {L : Int} {r : Nat → Int} {F : mG} {K S n m p l qq t1 : Nat} {s H s1 H1 : mG} (h : OCC c L r F K S n m p l qq t1 s H s1 H1) : s1 15 5 = 0 := h.2.2.2.2.2.2.2.1
theorem OCC.w6 {c : Nat} {L : Int} {r : Nat → Int} {F : mG} {K S n m p l qq t1 : Nat} {s H s1 H1 : mG} (h : OCC c L r F K S n m p l qq t1 s H s1 H1) : s1 15 6 = 0 := h.2.2.2.2.2.2.2.2.1
theorem OCC.w7 {c : Nat} {L : Int} {r : Nat → Int} {F : mG} {K S n m p l qq t1 : Nat} {s H s1 H1 : mG} (h : OCC c L r F K S n m p l qq t1 s H s1 H1) : s1 15 7 = 0 := h.2.2.2.2.2.2.2.2.2.1
theorem OCC.fs {c : Nat} {L : Int} {r : Nat → Int} {F : mG} {K S n m p l qq t1 : Nat} {s H s1 H1 : mG} (h : OCC c L r F K S n m p l qq t1 s H s1 H1) : frm (insK c m p) s s1 := h.2.2.2.2.2.2.2.2.2.2.1
theorem OCC.bm {c : Nat} {L : Int} {r : Nat → Int} {F : mG} {K S n m p l qq t1 : Nat} {s H s1 H1 : mG} (h : OCC c L r F K S n m p l qq t1 s H s1 H1) : bmn s s1 := h.2.2.2.2.2.2.2.2.2.2.2.1
theorem OCC.bqq {c : Nat} {L : Int} {r : Nat → Int} {F : mG} {K S n m p l qq t1 : Nat} {s H s1 H1 : mG} (h : OCC c L r F K S n m p l qq t1 s H s1 H1) : bq (s1 15 10) (s1 15 11) (H1 64 15) (H1 64 16) := h.2.2.2.2.2.2.2.2.2.2.2.2.1
theorem OCC.r78 {c : Nat} {L : Int} {r : Nat → Int} {F : mG} {K S n m p l qq t1 : Nat} {s H s1 H1 : mG} (h : OCC c L r F K S n m p l qq t1 s H s1 H1) : H1 78 (40 * S + m) = (n : Int) - 1 := h.2.2.2.2.2.2.2.2.2.2.2.2.2.1
theorem OCC.r82 {c : Nat} {L : Int} {r : Nat → Int} {F : mG} {K S n m p l qq t1 : Nat} {s H s1 H1 : mG} (h : OCC c L r F K S n m p l qq t1 s H s1 H1) : H1 82 (40 * S + m) = (l : Int) := h.2.2.2.2.2.2.2.2.2.2.2.2.2.2.1
theorem OCC.fh {c : Nat} {L : Int} {r : Nat → Int} {F : mG} {K S n m p l qq t1 : Nat} {s H s1 H1 : mG} (h : OCC c L r F K S n m p l qq t1 s H s1 H1) : frm (insQ S m l qq) H H1 := h.2.2.2.2.2.2.2.2.2.2.2.2.2.2.2.1
theorem OCC.r39 {c : Nat} {L : Int} {r : Nat → Int} {F : mG} {K S n m p l qq t1 : Nat} {s H s1 H1 : mG} (h : OCC c L r F K S n m p l qq t1 s H s1 H1) : H1 64 39 = H 64 39 := h.2.2.2.2.2.2.2.2.2.2.2.2.2.2.2.2.1
theorem OCC.r12 {c : Nat} {L : Int} {r : Nat → Int} {F : mG} {K S n m p l qq t1 : Nat} {s H s1 H1 : mG} (h : OCC c L r F K S n m p l qq t1 s H s1 H1) : H1 64 12 = H 64 12 := h.2.2.2.2.2.2.2.2.2.2.2.2.2.2.2.2.2.1
theorem OCC.r85 {c : Nat} {L : Int} {r : Nat → Int} {F : mG} {K S n m p l qq t1 : Nat} {s H s1 H1 : mG} (h : OCC c L r F K S n m p l qq t1 s H s1 H1) : H1 85 S = H 85 S := h.2.2.2.2.2.2.2.2.2.2.2.2.2.2.2.2.2.2.1
theorem OCC.r76 {c : Nat} {L : Int} {r : Nat → Int} {F : mG} {K S n m p l qq t1 : Nat} {s H s1 H1 : mG} (h : OCC c L r F K S n m p l qq t1 s H s1 H1) : H1 76 S = H 76 S := h.2.2.2.2.2.2.2.2.2.2.2.2.2.2.2.2.2.2.2.1
theorem OCC.srt {c : Nat} {L : Int} {r : Nat → Int} {F : mG} {K S n m p l qq t1 : Nat} {s H s1 H1 : mG} (h : OCC c L r F K S n m p l qq t1 s H s1 H1) : (H1 77 (40 * S + m) = 1 ∧ s1 (c + 4) m = 21 ∧ s1 (c + 6) m = 0) ∨ (H1 77 (40 * S + m) = 3 ∧ s1 (c + 4) m = 23 ∧ H1 79 (40 * S + m) = s1 (c + 6) m ∧ 0 ≤ s1 (c + 6) m ∧ (s1 15 10 = 0 → s1 (c + 6) m ≤ 100)) := h.2.2.2.2.2.2.2.2.2.2.2.2.2.2.2.2.2.2.2.2
section CLC
variable {c : Nat} {L : Int} {r : Nat → Int} {F : mG} {K S : Nat} {G0 : mG} {t t1 n m p l qq q : Nat} {s H s1 H1 : mG} {Q : Option mV → mG → Prop} {cp : Int}
theorem LOK_0 {q0 a : Nat} (h : LOK S q0 qq H a) : LOK S 0 qq H a := ⟨⟨by have := h.1.1; omega, h.1.2⟩, h.2⟩
theorem occ_ci (h : J8 8 c L r F K S G0 t n m p l qq s H) (ho : OCC c L r F K S n m p l qq t1 s H s1 H1) (ht : t < t1) : CI c L r F K S m p qq l s1 H1 t1 0 p qq l s1 H1 := by
  have hj := h.jb
  have hp := hj.hp
  refine ⟨ho.sm, Or.inl rfl, ⟨ho.c12, ho.c13, ho.k10, ho.w5, Nat.le_refl p⟩, ho.w6, ho.w7, ?_, ?_, ⟨Nat.le_refl _, by omega⟩, ?_, ?_, ⟨Nat.le_refl _, by omega⟩, frm_rf, frm_rf, ho.bqq, bmn_rf, fun _ => rfl, fun j j1 j2 => absurd j2 (by omega), fun _ E va mk _ => ?_⟩
  · show p + 0 ≤ t1
    omega
  · rw [ho.r39]; exact hj.r39
  · rw [ho.r12]; exact hj.ro
  · rw [ho.r85]; exact hj.r85
  · rw [Nat.sub_self, Nat.sub_self]
    exact ⟨rfl, fun q => absurd q (by decide)⟩
theorem occ_bad (hm : m < 40) (h : J8 8 c L r F K S G0 t n m p l qq s H) (ho : OCC c L r F K S n m p l qq t1 s H s1 H1) {H' : mG} (hb : BdR F S qq l H1 H') : BadF F S G0 H' :=
  ⟨hb.1, Fr_q hm h.fr (frm_tr ho.fh (frm_mono hb.2.1 insR_Q)), hb.2.2.1, hb.2.2.2⟩
set_option maxHeartbeats 8000000 in
/-- the clause's end -/
theorem occ_end (hc : c = 40 ∨ c = 52) (hS : S ≤ 1) (hm : m < 40) (hn1 : 1 ≤ n) (h : J8 8 c L r F K S G0 t n m p l qq s H) (ho : OCC c L r F K S n m p l qq t1 s H s1 H1) (ht : t < t1) {t2 sh qq' l2 : Nat} {X : Int} {s2 H2 : mG} (ht2 : t1 < t2) (hL : LI c L r F K S m p qq l s1 H1 t2 sh qq' l2 X s2 H2) {s3 : mG} {P' : Nat} (hs : SM c L r F K (t2 + 1) 8 s3 (gs H2 64 11 ((t2 + 1 : Nat) : Int))) (h0 : CS0 c m p P' 0 s3) (hP : P' ≤ t2) (h6 : s3 15 6 = 0) (hfs : frm (insC c m p) s1 s3) (e10 : s3 15 10 = s2 15 10) (e11 : s3 15 11 = s2 15 11) (hsem : s2 15 10 = 0 → ∀ (E va : Nat → Int) (mk : Int), cpE E va mk → hC E (s3 (c + 11)) p (P' - p) = hRs (oRf H2) (lRf H2 va mk) (600 * S + l) (l2 + 1 - l)) :
    J8 8 c L r F K S G0 (t2 + 1) n (m + 1) P' (l2 + 1) qq' s3 (gs (gs (gs H2 64 11 ((t2 + 1 : Nat) : Int)) 83 (40 * S + m) ((l2 + 1 : Nat) : Int)) 76 S ((m + 1 : Nat) : Int)) := by
  have hj := h.jb
  obtain ⟨c1, c2, c3, c4, c5⟩ := h0
  have hq := hL.hq
  have hl := hL.hl
  have hp := hj.hp
  have hn8 := hj.hn
  have hcne : ∀ a, 4 ≤ a → a ≤ 9 → ¬ insC c m p (c + a) m := fun a h1 h2 => by unfold insC; omega
  have f4 : s3 (c + 4) m = s1 (c + 4) m := hfs _ _ (hcne 4 (by decide) (by decide))
  have f5 : s3 (c + 5) m = (n : Int) - 1 := by rw [hfs _ _ (hcne 5 (by decide) (by decide))]; exact ho.k5
  have f6 : s3 (c + 6) m = s1 (c + 6) m := hfs _ _ (hcne 6 (by decide) (by decide))
  have f9 : s3 (c + 9) m = (p : Int) := by rw [hfs _ _ (hcne 9 (by decide) (by decide))]; exact ho.k9
  have f11 : s3 c 11 = (n : Int) := by rw [hfs c 11 (by unfold insC; omega)]; exact ho.c11
  have fR : ∀ a i, ¬ insR S qq l a i → H2 a i = H1 a i := hL.fh
  have rne : ∀ a, 77 ≤ a → a ≤ 84 → H2 a (40 * S + m) = H1 a (40 * S + m) := fun a h1 h2 => fR _ _ (by unfold insR; omega)
  have bm3 : bmn s1 s3 := bmn_tr hL.bm (bmn_eq e10 e11)
  -- the reference's heap at the end
  have g64 : ∀ i, i ≠ 11 → (gs (gs (gs H2 64 11 ((t2 + 1 : Nat) : Int)) 83 (40 * S + m) ((l2 + 1 : Nat) : Int)) 76 S ((m + 1 : Nat) : Int)) 64 i = H2 64 i := fun i hi => by rw [gs_ne (by decide), gs_ne (by decide), gs_at_ne hi]
  have g83 : (gs (gs (gs H2 64 11 ((t2 + 1 : Nat) : Int)) 83 (40 * S + m) ((l2 + 1 : Nat) : Int)) 76 S ((m + 1 : Nat) : Int)) 83 (40 * S + m) = ((l2 + 1 : Nat) : Int) := by rw [gs_ne (by decide), gs_at]
  have gne : ∀ a, a ≠ 64 → a ≠ 83 → a ≠ 76 → (gs (gs (gs H2 64 11 ((t2 + 1 : Nat) : Int)) 83 (40 * S + m) ((l2 + 1 : Nat) : Int)) 76 S ((m + 1 : Nat) : Int)) a = H2 a := fun a h1 h2 h3 => by rw [gs_ne h3, gs_ne h2, gs_ne h1]
  have gsm : SM c L r F K (t2 + 1) 8 s3 (gs (gs (gs H2 64 11 ((t2 + 1 : Nat) : Int)) 83 (40 * S + m) ((l2 + 1 : Nat) : Int)) 76 S ((m + 1 : Nat) : Int)) := SM_to hs (fun k _ _ => by rw [gs_ne (by omega), gs_ne (by omega)]) (by rw [gs_ne (by decide), gs_ne (by decide)]) (by rw [gs_ne (by decide), gs_ne (by decide)])
  have gfh : frm (insQ S m l qq) H (gs (gs (gs H2 64 11 ((t2 + 1 : Nat) : Int)) 83 (40 * S + m) ((l2 + 1 : Nat) : Int)) 76 S ((m + 1 : Nat) : Int)) := by
    refine frm_gs (frm_gs (frm_gs (frm_tr ho.fh (frm_mono hL.fh insR_Q)) (insQ_64 (by decide))) ?_) ?_
    · unfold insQ; omega
    · unfold insQ; omega
  have g76 : (gs (gs (gs H2 64 11 ((t2 + 1 : Nat) : Int)) 83 (40 * S + m) ((l2 + 1 : Nat) : Int)) 76 S ((m + 1 : Nat) : Int)) 76 S = ((m + 1 : Nat) : Int) := gs_at _ _ _ _
  have g72 : (gs (gs (gs H2 64 11 ((t2 + 1 : Nat) : Int)) 83 (40 * S + m) ((l2 + 1 : Nat) : Int)) 76 S ((m + 1 : Nat) : Int)) 72 S = (n : Int) := by
    rw [gne 72 (by decide) (by decide) (by decide), fR 72 S (by unfold insR; omega), ho.fh 72 S (by unfold insQ; omega)]; exact h.r72
  generalize (gs (gs (gs H2 64 11 ((t2 + 1 : Nat) : Int)) 83 (40 * S + m) ((l2 + 1 : Nat) : Int)) 76 S ((m + 1 : Nat) : Int)) = H3 at *
  have eo : oRf H3 = oRf H2 := by unfold oRf; rw [gne 90 (by decide) (by decide) (by decide)]
  have el : ∀ va mk, lRf H3 va mk = lRf H2 va mk := fun va mk => by unfold lRf; rw [gne 86 (by decide) (by decide) (by decide), gne 87 (by decide) (by decide) (by decide), gne 88 (by decide) (by decide) (by decide), gne 89 (by decide) (by decide) (by decide), gne 91 (by decide) (by decide) (by decide), gne 92 (by decide) (by decide) (by decide)]
  have k78 : H3 78 (40 * S + m) = (n : Int) - 1 := by rw [gne 78 (by decide) (by decide) (by decide), rne 78 (by decide) (by decide)]; exact ho.r78
  have k82 : H3 82 (40 * S + m) = (l : Int) := by rw [gne 82 (by decide) (by decide) (by decide), rne 82 (by decide) (by decide)]; exact ho.r82
  refine ⟨gsm, ?_, f11, c1, g72, g76, Fr_q hm h.fr gfh, h.r19⟩
  refine JB_step hc hj hm (by omega) ⟨c5, by omega⟩ ⟨by omega, by omega⟩ ⟨hq.1, by omega⟩ (frm_tr ho.fs (frm_mono hfs insC_K)) gfh (bmn_tr ho.bm bm3) ?_ c2 ?_ ?_ c4 h6 ?_ ?_ ?_ ?_
  · rw [e10, e11, g64 15 (by decide), g64 16 (by decide)]; exact hL.bqq
  · rw [g64 39 (by decide)]; exact hL.r39
  · rw [gne 85 (by decide) (by decide) (by decide)]; exact hL.r85
  · rw [g64 12 (by decide)]; exact hL.ro
  · refine ⟨?_, ?_, ?_, fun _ => ?_⟩
    · rw [k78, f5]; omega
    · rw [f9, c3, k82, g83]; omega
    · rw [gne 77 (by decide) (by decide) (by decide), gne 79 (by decide) (by decide) (by decide), rne 77 (by decide) (by decide), rne 79 (by decide) (by decide), f4, f6]
      rcases ho.srt with q | ⟨q1, q2, q3, q4, q5⟩
      · exact Or.inr (Or.inl q)
      · exact Or.inr (Or.inr (Or.inr ⟨q1, q2, q3, q4, fun z => q5 (bm3.1 z)⟩))
    · rw [f9, c3, k82, g83, st_nat, st_nat, show ((((P' : Nat) : Int)) - ((p : Nat) : Int)).toNat = P' - p from by omega, show ((((l2 + 1 : Nat) : Int)) - ((l : Nat) : Int)).toNat = l2 + 1 - l from by omega, eo]
      refine ⟨fun j j1 j2 => LOK_0 (LOK_to (hL.lw j (by omega) (by omega)) (Nat.le_refl _) (fun a q1 q2 => by rw [gne a (by omega) (by omega) (by omega)]) (fun i _ => by rw [gne 91 (by decide) (by decide) (by decide), gne 92 (by decide) (by decide) (by decide)]; exact ⟨rfl, rfl⟩)), fun z E va mk hE => ?_⟩
      rw [el]
      exact hsem (by rw [← e10]; exact z) E va mk hE
  · intro _ q
    rw [f4] at q
    rcases ho.srt with ⟨_, y, _⟩ | ⟨_, y, _⟩ <;> omega
  · intro q
    rw [f4] at q
    rcases ho.srt with ⟨_, y, _⟩ | ⟨_, y, _⟩ <;> omega
/-- from the condition to the clause's end, walked -/
theorem occ_494 (hc : c = 40 ∨ c = 52) (hS : S ≤ 1) (hm : m < 40) (hn1 : 1 ≤ n) (h : J8 8 c L r F K S G0 t n m p l qq s H) (ho : OCC c L r F K S n m p l qq t1 s H s1 H1) (ht : t < t1) (hB : ∀ H', BadF F S G0 H' → Q none H') (hQ : ∀ (t' p' l' qq' : Nat) (s' H' : mG), t < t' → J8 8 c L r F K S G0 t' n (m + 1) p' l' qq' s' H' → Q none H') {H2 : mG} (hR : BdR F S qq l H1 H2 ∨ ∃ (t2 sh qq' l2 : Nat) (X : Int) (s2 : mG), t1 < t2 ∧ LI c L r F K S m p qq l s1 H1 t2 sh qq' l2 X s2 H2 ∧ ¬ (tkK (tb L r) (tkQ (tb L r) t2) = 31 ∨ tkK (tb L r) (tkQ (tb L r) t2) = 32)) : W2 o_X12 M_X12_tellClause (inN [64, 72, 73, 74, 75, 76, 77, 78, 79, 80, 81, 82, 83, 84, 85, 86, 87, 88, 89, 90, 91, 92, 93]) (q + 12) Q 494 [some (mR 69), some (mI cp), none, some (mI ((40 * S + m : Nat) : Int)), none, none, none, none] [] H2 := by
  have hbad : ∀ M : mG, BdR F S qq l H1 M → W2 o_X12 M_X12_tellClause (inN [64, 72, 73, 74, 75, 76, 77, 78, 79, 80, 81, 82, 83, 84, 85, 86, 87, 88, 89, 90, 91, 92, 93]) (q + 12) Q 499 [some (mR 69), some (mI cp), none, some (mI ((40 * S + m : Nat) : Int)), none, none, none, none] [] M := by
    intro M hM
    have hf := Fr_64 (occ_bad hm h ho hM).2.1 (i := 19) (by decide)
    rw [h.r19] at hf
    exact tl_499 (by omega) (by omega) (fun _ => hB M (occ_bad hm h ho hM)) (fun q => absurd hM.1.1 (by omega))
  rcases hR with hb | ⟨t2, sh, qq', l2, X, s2, ht2, hL, hno⟩
  · refine tl_494 hb.2.2 ?_
    rw [must_bad hb.1]
    exact hbad H2 hb
  · have hT := hL.sm.2.2.2.1
    have h11 := hT.2.1
    have h600 := hT.2.2.2.1
    refine tl_494 (by omega) ?_
    rcases li_semi hc hm hL hno with hb | ⟨s3, P', e, ht6, hs, h0, hP, h6, hfs, e10, e11, hsem⟩
    · exact hbad _ hb
    · rw [e]
      have hJ := occ_end hc hS hm hn1 h ho ht ht2 hL hs h0 hP h6 hfs e10 e11 hsem
      have z19 : (gs H2 64 11 ((t2 + 1 : Nat) : Int)) 64 19 = (S : Int) := by
        rw [gs_at_ne (by decide), hL.fh 64 19 (by unfold insR; omega), ho.fh 64 19 (by unfold insQ; omega), Fr_64 h.fr (by decide)]; exact h.r19
      have z85 : (gs H2 64 11 ((t2 + 1 : Nat) : Int)) 85 S = ((l2 + 1 : Nat) : Int) := by rw [gs_ne (by decide)]; exact hL.r85
      have z76 : (gs H2 64 11 ((t2 + 1 : Nat) : Int)) 76 S = (m : Int) := by
        rw [gs_ne (by decide), hL.fh 76 S (by unfold insR; omega), ho.r76]; exact h.r76
      have z13 := hs.2.2.2.2
      refine tl_499 (by omega) (by omega) (fun y => absurd y (by omega)) (fun _ => ?_)
      rw [z19, st_nat, st_nat, z85, z76, w32_nat (by omega)]
      exact hQ _ _ _ _ _ _ (by omega) hJ
/-- the condition itself -/
theorem occ_cond (hc : c = 40 ∨ c = 52) (hS : S ≤ 1) (hm : m < 40) (h : J8 8 c L r F K S G0 t n m p l qq s H) (ho : OCC c L r F K S n m p l qq t1 s H s1 H1) (ht : t < t1) : ∀ Q' : Option mV → mG → Prop, (∀ H2, (BdR F S qq l H1 H2 ∨ ∃ (t2 sh qq' l2 : Nat) (X : Int) (s2 : mG), t1 < t2 ∧ LI c L r F K S m p qq l s1 H1 t2 sh qq' l2 X s2 H2 ∧ ¬ (tkK (tb L r) (tkQ (tb L r) t2) = 31 ∨ tkK (tb L r) (tkQ (tb L r) t2) = 32)) → Q' none H2) → P2 (inN [64, 72, 73, 74, 75, 76, 77, 78, 79, 80, 81, 82, 83, 84, 85, 86, 87, 88, 89, 90, 91, 92, 93]) (q + 11) M_X12_condition [mR 69] H1 Q' := by
  intro Q' hQ'
  have z19 : H1 64 19 = (S : Int) := by rw [ho.fh 64 19 (by unfold insQ; omega), Fr_64 h.fr (by decide)]; exact h.r19
  exact sp_cond (q := q + 2) (fun _ hk => hk) hc hm hS z19 (occ_ci h ho ht) (fun H' hb => hQ' H' (Or.inl hb)) (fun t' sh qq' l2 X s' H' ht2 hL hno => hQ' H' (Or.inr ⟨t', sh, qq', l2, X, s', ht2, hL, hno⟩))
end CLC
