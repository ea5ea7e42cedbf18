/-! ===== wip/whole/gen86d.py: a clause without a condition ends; beside; bar ===== -/
/-- both before the semicolon of clause m -/
def OD (c : Nat) (L : Int) (r : Nat → Int) (F : mG) (K S n m p l qq t1 : Nat) (s H s1 H1 : mG) : Prop := (SM c L r F K t1 7 s1 H1) ∧ (s1 (c + 5) m = (n : Int) - 1) ∧ (s1 (c + 9) m = (p : Int)) ∧ (s1 (c + 10) m = (p : Int)) ∧ (s1 c 11 = (n : Int)) ∧ (s1 c 12 = ((m + 1 : Nat) : Int)) ∧ (s1 c 13 = (p : Int)) ∧ (s1 15 5 = 0) ∧ (s1 15 6 = 0) ∧ (frm (insK c m p) s s1) ∧ (bmn s s1) ∧ (bq (s1 15 10) (s1 15 11) (H1 64 15) (H1 64 16)) ∧ (H1 78 (40 * S + m) = (n : Int) - 1) ∧ (H1 82 (40 * S + m) = (l : Int)) ∧ (frm (insQ S m l qq) H H1) ∧ (H1 64 39 = H 64 39) ∧ (H1 64 12 = H 64 12) ∧ (H1 85 S = H 85 S) ∧ (H1 76 S = H 76 S) ∧ ((H1 77 (40 * S + m) = 0 ∧ s1 (c + 4) m = 18 ∧ H1 79 (40 * S + m) = s1 (c + 6) m ∧ H1 80 (40 * S + m) = s1 (c + 7) m ∧ H1 81 (40 * S + m) = s1 (c + 8) m ∧ 0 ≤ s1 (c + 6) m ∧ 0 ≤ s1 (c + 7) m ∧ 0 ≤ s1 (c + 8) m ∧ s1 (c + 8) m ≤ 9999 ∧ (s1 15 10 = 0 → 1 ≤ s1 (c + 6) m ∧ s1 (c + 6) m ≤ 9 ∧ s1 (c + 7) m ≤ 5)) ∨ (H1 77 (40 * S + m) = 2 ∧ s1 (c + 4) m = 22 ∧ s1 (c + 6) m = 0 ∧ 0 ≤ H1 84 (40 * S + m) ∧ H1 84 (40 * S + m) ≤ 600 ∧ s1 17 m = H1 70 (H1 84 (40 * S + m)).toNat ∧ s1 18 m = H1 68 (H1 84 (40 * S + m)).toNat)) ∧ (s1 15 10 = 0 → s1 (c + 4) m = 18 → ∀ k, k < m → s (c + 4) k = 18 → s (c + 5) k = s1 (c + 5) m → s (c + 7) k = s1 (c + 7) m → False) ∧ (s1 (c + 4) m = 22 → (∃ i : Nat, (i : Int) < s1 (c + 5) m ∧ s 16 i = s 16 (s1 (c + 5) m).toNat) → ¬ s1 15 10 = 0 ∧ s1 15 11 < s1 18 m)
theorem OD.sm {c : Nat} {L : Int} {r : Nat → Int} {F : mG} {K S n m p l qq t1 : Nat} {s H s1 H1 : mG} (h : OD c L r F K S n m p l qq t1 s H s1 H1) : SM c L r F K t1 7 s1 H1 := h.1
theorem OD.k5 {c : Nat} {L : Int} {r : Nat → Int} {F : mG} {K S n m p l qq t1 : Nat} {s H s1 H1 : mG} (h : OD c L r F K S n m p l qq t1 s H s1 H1) : s1 (c + 5) m = (n : Int) - 1 := h.2.1
theorem OD.k9 {c : Nat} {L : Int} {r : Nat → Int} {F : mG} {K S n m p l qq t1 : Nat} {s H s1 H1 : mG} (h : OD c L r F K S n m p l qq t1 s H s1 H1) : s1 (c + 9) m = (p : Int) := h.2.2.1
theorem OD.k10 {c : Nat} {L : Int} {r : Nat → Int} {F : mG} {K S n m p l qq t1 : Nat} {s H s1 H1 : mG} (h : OD c L r F K S n m p l qq t1 s H s1 H1) : s1 (c + 10) m = (p : Int) := h.2.2.2.1
theorem OD.c11 {c : Nat} {L : Int} {r : Nat → Int} {F : mG} {K S n m p l qq t1 : Nat} {s H s1 H1 : mG} (h : OD c L r F K S n m p l qq t1 s H s1 H1) : s1 c 11 = (n : Int) := h.2.2.2.2.1
theorem OD.c12 {c : Nat} {L : Int} {r : Nat → Int} {F : mG} {K S n m p l qq t1 : Nat} {s H s1 H1 : mG} (h : OD c L r F K S n m p l qq t1 s H s1 H1) : s1 c 12 = ((m + 1 : Nat) : Int) := h.2.2.2.2.2.1
theorem OD.c13 {c : Nat} {L : Int} {r : Nat → Int} {F : mG} {K S n m p l qq t1 : Nat} {s H s1 H1 : mG} (h : OD c L r F K S n m p l qq t1 s H s1 H1) : s1 c 13 = (p : Int) := h.2.2.2.2.2.2.1
theorem OD.w5 {c : Nat} {L : Int} {r : Nat → Int} {F : mG} {K S n m p l qq t1 : Nat} {s H s1 H1 : mG} (h : OD c L r F K S n m p l qq t1 s H s1 H1) : s1 15 5 = 0 := h.2.2.2.2.2.2.2.1
theorem OD.w6 {c : Nat} {L : Int} {r : Nat → Int} {F : mG} {K S n m p l qq t1 : Nat} {s H s1 H1 : mG} (h : OD c L r F K S n m p l qq t1 s H s1 H1) : s1 15 6 = 0 := h.2.2.2.2.2.2.2.2.1
theorem OD.fs {c : Nat} {L : Int} {r : Nat → Int} {F : mG} {K S n m p l qq t1 : Nat} {s H s1 H1 : mG} (h : OD c L r F K S n m p l qq t1 s H s1 H1) : frm (insK c m p) s s1 := h.2.2.2.2.2.2.2.2.2.1
theorem OD.bm {c : Nat} {L : Int} {r : Nat → Int} {F : mG} {K S n m p l qq t1 : Nat} {s H s1 H1 : mG} (h : OD c L r F K S n m p l qq t1 s H s1 H1) : bmn s s1 := h.2.2.2.2.2.2.2.2.2.2.1
theorem OD.bqq {c : Nat} {L : Int} {r : Nat → Int} {F : mG} {K S n m p l qq t1 : Nat} {s H s1 H1 : mG} (h : OD c L r F K S n m p l qq t1 s H s1 H1) : bq (s1 15 10) (s1 15 11) (H1 64 15) (H1 64 16) := h.2.2.2.2.2.2.2.2.2.2.2.1
theorem OD.r78 {c : Nat} {L : Int} {r : Nat → Int} {F : mG} {K S n m p l qq t1 : Nat} {s H s1 H1 : mG} (h : OD c L r F K S n m p l qq t1 s H s1 H1) : H1 78 (40 * S + m) = (n : Int) - 1 := h.2.2.2.2.2.2.2.2.2.2.2.2.1
theorem OD.r82 {c : Nat} {L : Int} {r : Nat → Int} {F : mG} {K S n m p l qq t1 : Nat} {s H s1 H1 : mG} (h : OD c L r F K S n m p l qq t1 s H s1 H1) : H1 82 (40 * S + m) = (l : Int) := h.2.2.2.2.2.2.2.2.2.2.2.2.2.1
theorem OD.fh {c : Nat} {L : Int} {r : Nat → Int} {F : mG} {K S n m p l qq t1 : Nat} {s H s1 H1 : mG} (h : OD c L r F K S n m p l qq t1 s H s1 H1) : frm (insQ S m l qq) H H1 := h.2.2.2.2.2.2.2.2.2.2.2.2.2.2.1
theorem OD.r39 {c : Nat} {L : Int} {r : Nat → Int} {F : mG} {K S n m p l qq t1 : Nat} {s H s1 H1 : mG} (h : OD c L r F K S n m p l qq t1 s H s1 H1) : H1 64 39 = H 64 39 := h.2.2.2.2.2.2.2.2.2.2.2.2.2.2.2.1
theorem OD.r12 {c : Nat} {L : Int} {r : Nat → Int} {F : mG} {K S n m p l qq t1 : Nat} {s H s1 H1 : mG} (h : OD c L r F K S n m p l qq t1 s H s1 H1) : H1 64 12 = H 64 12 := h.2.2.2.2.2.2.2.2.2.2.2.2.2.2.2.2.1
theorem OD.r85 {c : Nat} {L : Int} {r : Nat → Int} {F : mG} {K S n m p l qq t1 : Nat} {s H s1 H1 : mG} (h : OD c L r F K S n m p l qq t1 s H s1 H1) : H1 85 S = H 85 S := h.2.2.2.2.2.2.2.2.2.2.2.2.2.2.2.2.2.1
theorem OD.r76 {c : Nat} {L : Int} {r : Nat → Int} {F : mG} {K S n m p l qq t1 : Nat} {s H s1 H1 : mG} (h : OD c L r F K S n m p l qq t1 s H s1 H1) : H1 76 S = H 76 S := h.2.2.2.2.2.2.2.2.2.2.2.2.2.2.2.2.2.2.1
theorem OD.srt {c : Nat} {L : Int} {r : Nat → Int} {F : mG} {K S n m p l qq t1 : Nat} {s H s1 H1 : mG} (h : OD c L r F K S n m p l qq t1 s H s1 H1) : (H1 77 (40 * S + m) = 0 ∧ s1 (c + 4) m = 18 ∧ H1 79 (40 * S + m) = s1 (c + 6) m ∧ H1 80 (40 * S + m) = s1 (c + 7) m ∧ H1 81 (40 * S + m) = s1 (c + 8) m ∧ 0 ≤ s1 (c + 6) m ∧ 0 ≤ s1 (c + 7) m ∧ 0 ≤ s1 (c + 8) m ∧ s1 (c + 8) m ≤ 9999 ∧ (s1 15 10 = 0 → 1 ≤ s1 (c + 6) m ∧ s1 (c + 6) m ≤ 9 ∧ s1 (c + 7) m ≤ 5)) ∨ (H1 77 (40 * S + m) = 2 ∧ s1 (c + 4) m = 22 ∧ s1 (c + 6) m = 0 ∧ 0 ≤ H1 84 (40 * S + m) ∧ H1 84 (40 * S + m) ≤ 600 ∧ s1 17 m = H1 70 (H1 84 (40 * S + m)).toNat ∧ s1 18 m = H1 68 (H1 84 (40 * S + m)).toNat) := h.2.2.2.2.2.2.2.2.2.2.2.2.2.2.2.2.2.2.2.1
theorem OD.hun {c : Nat} {L : Int} {r : Nat → Int} {F : mG} {K S n m p l qq t1 : Nat} {s H s1 H1 : mG} (h : OD c L r F K S n m p l qq t1 s H s1 H1) : s1 15 10 = 0 → s1 (c + 4) m = 18 → ∀ k, k < m → s (c + 4) k = 18 → s (c + 5) k = s1 (c + 5) m → s (c + 7) k = s1 (c + 7) m → False := h.2.2.2.2.2.2.2.2.2.2.2.2.2.2.2.2.2.2.2.2.1
theorem OD.hdc {c : Nat} {L : Int} {r : Nat → Int} {F : mG} {K S n m p l qq t1 : Nat} {s H s1 H1 : mG} (h : OD c L r F K S n m p l qq t1 s H s1 H1) : s1 (c + 4) m = 22 → (∃ i : Nat, (i : Int) < s1 (c + 5) m ∧ s 16 i = s 16 (s1 (c + 5) m).toNat) → ¬ s1 15 10 = 0 ∧ s1 15 11 < s1 18 m := h.2.2.2.2.2.2.2.2.2.2.2.2.2.2.2.2.2.2.2.2.2
section CLD
variable {c : Nat} {L : Int} {r : Nat → Int} {F : mG} {K S : Nat} {G0 : mG} {t t1 n m p l qq q : Nat} {s H s1 H1 : mG} {Q : Option mV → mG → Prop} {cp : Int}
theorem bad_494 (hs : G0 64 19 = (S : Int)) (hS : S ≤ 1) (hm : m < 40) (hB : ∀ H', BadF F S G0 H' → Q none H') {M : mG} (hM : BadF F S G0 M) : W2 o_X12 M_X12_tellClause (inN [64, 72, 73, 74, 75, 76, 77, 78, 79, 80, 81, 82, 83, 84, 85, 86, 87, 88, 89, 90, 91, 92, 93]) (q + 12) Q 494 [some (mR 69), some (mI cp), none, some (mI ((40 * S + m : Nat) : Int)), none, none, none, none] [] M := by
  have hf := Fr_64 hM.2.1 (i := 19) (by decide)
  rw [hs] at hf
  refine tl_494 hM.2.2 ?_
  rw [must_bad hM.1]
  exact tl_499 (by omega) (by omega) (fun _ => hB M hM) (fun q => absurd hM.1.1 (by omega))
set_option maxHeartbeats 8000000 in
theorem od_end (hc : c = 40 ∨ c = 52) (hS : S ≤ 1) (hm : m < 40) (hn1 : 1 ≤ n) (h : J8 8 c L r F K S G0 t n m p l qq s H) (ho : OD c L r F K S n m p l qq t1 s H s1 H1) (ht : t < t1) (ht6 : t1 < 600) {A : mG} (hA : ∀ k, k ≠ 20 → A k = s1 k) (hs : SM c L r F K (t1 + 1) 8 (gs A 15 8 8) (gs H1 64 11 ((t1 + 1 : Nat) : Int))) :
    J8 8 c L r F K S G0 (t1 + 1) n (m + 1) p l qq (gs A 15 8 8) (gs (gs (gs H1 64 11 ((t1 + 1 : Nat) : Int)) 83 (40 * S + m) ((l : Nat) : Int)) 76 S ((m + 1 : Nat) : Int)) := by
  have hj := h.jb
  have hp := hj.hp
  have e15 : ∀ i, i ≠ 8 → (gs A 15 8 8) 15 i = s1 15 i := fun i hi => by rw [gs_at_ne hi, hA 15 (by decide)]
  have ea : ∀ a, a ≠ 15 → a ≠ 20 → (gs A 15 8 8) a = s1 a := fun a h1 h2 => by rw [gs_ne h1, hA a h2]
  have hc1 : ∀ j, j < 12 → c + j ≠ 15 ∧ c + j ≠ 20 := fun j _ => by omega
  have ec : ∀ j, j < 12 → (gs A 15 8 8) (c + j) = s1 (c + j) := fun j hj => ea _ (hc1 j hj).1 (hc1 j hj).2
  have e0 : (gs A 15 8 8) c = s1 c := ec 0 (by decide)
  have g64 : ∀ i, i ≠ 11 → (gs (gs (gs H1 64 11 ((t1 + 1 : Nat) : Int)) 83 (40 * S + m) ((l : Nat) : Int)) 76 S ((m + 1 : Nat) : Int)) 64 i = H1 64 i := fun i hi => by rw [gs_ne (by decide), gs_ne (by decide), gs_at_ne hi]
  have g83 : (gs (gs (gs H1 64 11 ((t1 + 1 : Nat) : Int)) 83 (40 * S + m) ((l : Nat) : Int)) 76 S ((m + 1 : Nat) : Int)) 83 (40 * S + m) = ((l : Nat) : Int) := by rw [gs_ne (by decide), gs_at]
  have gne : ∀ a, a ≠ 64 → a ≠ 83 → a ≠ 76 → (gs (gs (gs H1 64 11 ((t1 + 1 : Nat) : Int)) 83 (40 * S + m) ((l : Nat) : Int)) 76 S ((m + 1 : Nat) : Int)) a = H1 a := fun a h1 h2 h3 => by rw [gs_ne h3, gs_ne h2, gs_ne h1]
  have gsm : SM c L r F K (t1 + 1) 8 (gs A 15 8 8) (gs (gs (gs H1 64 11 ((t1 + 1 : Nat) : Int)) 83 (40 * S + m) ((l : Nat) : Int)) 76 S ((m + 1 : Nat) : Int)) := SM_to hs (fun k _ _ => by rw [gs_ne (by omega), gs_ne (by omega)]) (by rw [gs_ne (by decide), gs_ne (by decide)]) (by rw [gs_ne (by decide), gs_ne (by decide)])
  have gfh : frm (insQ S m l qq) H (gs (gs (gs H1 64 11 ((t1 + 1 : Nat) : Int)) 83 (40 * S + m) ((l : Nat) : Int)) 76 S ((m + 1 : Nat) : Int)) := by
    refine frm_gs (frm_gs (frm_gs ho.fh (insQ_64 (by decide))) ?_) ?_
    · unfold insQ; omega
    · unfold insQ; omega
  have g76 : (gs (gs (gs H1 64 11 ((t1 + 1 : Nat) : Int)) 83 (40 * S + m) ((l : Nat) : Int)) 76 S ((m + 1 : Nat) : Int)) 76 S = ((m + 1 : Nat) : Int) := gs_at _ _ _ _
  have g72 : (gs (gs (gs H1 64 11 ((t1 + 1 : Nat) : Int)) 83 (40 * S + m) ((l : Nat) : Int)) 76 S ((m + 1 : Nat) : Int)) 72 S = (n : Int) := by
    rw [gne 72 (by decide) (by decide) (by decide), ho.fh 72 S (by unfold insQ; omega)]; exact h.r72
  have gfs : frm (insK c m p) s (gs A 15 8 8) := frm_gs (frm_tr ho.fs (frm_row hA (fun _ => Or.inl rfl))) (Or.inr (Or.inr (Or.inl ⟨rfl, by decide⟩)))
  generalize (gs (gs (gs H1 64 11 ((t1 + 1 : Nat) : Int)) 83 (40 * S + m) ((l : Nat) : Int)) 76 S ((m + 1 : Nat) : Int)) = H3 at *
  generalize gs A 15 8 8 = s3 at *
  have b10 := e15 10 (by decide)
  have b11 := e15 11 (by decide)
  have e17 : s3 17 = s1 17 := ea 17 (by decide) (by decide)
  have e18 : s3 18 = s1 18 := ea 18 (by decide) (by decide)
  have bm3 : bmn s1 s3 := bmn_eq b10 b11
  refine ⟨gsm, ?_, by rw [e0]; exact ho.c11, by rw [e0]; exact ho.c12, g72, g76, Fr_q hm h.fr gfh, h.r19⟩
  refine JB_step hc hj hm (by omega) ⟨Nat.le_refl p, by omega⟩ ⟨Nat.le_refl l, by omega⟩ ⟨Nat.le_refl qq, by omega⟩ gfs gfh (bmn_tr ho.bm bm3) ?_ (by rw [e0]; exact ho.c13) ?_ ?_ (by rw [e15 5 (by decide)]; exact ho.w5) (by rw [e15 6 (by decide)]; exact ho.w6) ?_ ?_ ?_ ?_
  · rw [b10, b11, g64 15 (by decide), g64 16 (by decide)]; exact ho.bqq
  · rw [g64 39 (by decide), ho.r39]; exact hj.r39
  · rw [gne 85 (by decide) (by decide) (by decide), ho.r85]; exact hj.r85
  · rw [g64 12 (by decide), ho.r12]; exact hj.ro
  · refine ⟨?_, ?_, ?_, fun q => ?_⟩
    · rw [gne 78 (by decide) (by decide) (by decide), ho.r78, ec 5 (by decide), ho.k5]; omega
    · rw [ec 9 (by decide), ec 10 (by decide), ho.k9, ho.k10, gne 82 (by decide) (by decide) (by decide), ho.r82, g83]; omega
    · rw [gne 77 (by decide) (by decide) (by decide), gne 79 (by decide) (by decide) (by decide), gne 80 (by decide) (by decide) (by decide), gne 81 (by decide) (by decide) (by decide), gne 84 (by decide) (by decide) (by decide), gne 70 (by decide) (by decide) (by decide), gne 68 (by decide) (by decide) (by decide), ec 4 (by decide), ec 6 (by decide), ec 7 (by decide), ec 8 (by decide), e17, e18, b10]
      rcases ho.srt with q | q
      · exact Or.inl q
      · exact Or.inr (Or.inr (Or.inl q))
    · rw [ec 4 (by decide)] at q
      rcases ho.srt with ⟨_, y, _⟩ | ⟨_, y, _⟩ <;> omega
  · rw [b10, ec 4 (by decide), ec 5 (by decide), ec 7 (by decide)]; exact ho.hun
  · rw [b10, b11, ec 4 (by decide), ec 5 (by decide), e18]; exact ho.hdc
/-- the semicolon, walked -/
theorem od_494 (hc : c = 40 ∨ c = 52) (hS : S ≤ 1) (hm : m < 40) (hn1 : 1 ≤ n) (h : J8 8 c L r F K S G0 t n m p l qq s H) (ho : OD c L r F K S n m p l qq t1 s H s1 H1) (ht : t < t1) (hB : ∀ H', BadF F S G0 H' → Q none H') (hQ : ∀ (t' p' l' qq' : Nat) (s' H' : mG), t < t' → J8 8 c L r F K S G0 t' n (m + 1) p' l' qq' s' H' → Q none H') : W2 o_X12 M_X12_tellClause (inN [64, 72, 73, 74, 75, 76, 77, 78, 79, 80, 81, 82, 83, 84, 85, 86, 87, 88, 89, 90, 91, 92, 93]) (q + 12) Q 494 [some (mR 69), some (mI cp), none, some (mI ((40 * S + m : Nat) : Int)), none, none, none, none] [] H1 := by
  have hT := ho.sm.2.2.2.1
  have h11 := hT.2.1
  have h600 := hT.2.2.2.1
  have hfr := Fr_q hm h.fr ho.fh
  refine tl_494 (by omega) ?_
  rcases turn_must (k := 4) (X' := 8) hc ho.sm hfr (by decide) (by decide) (fun A kd hA => by rw [fol_7 hA, show km 4 = 4 from by decide]) (fun A hA => by rw [rom_c (by omega) (by omega), if_neg (fun q => absurd q.1 (by decide))]) (by decide) with hb | ⟨e0, e1, e2, e3, e4, A, a1, a2, a3, a4, a5⟩
  · have hf := Fr_64 hb.2.1 (i := 19) (by decide)
    rw [h.r19] at hf
    exact tl_499 (by omega) (by omega) (fun _ => hB _ hb) (fun q => absurd hb.1.1 (by omega))
  · rw [e1]
    have hA8 : A 15 8 = 7 := by rw [a1 15 (by decide)]; exact ho.sm.2.2.1
    rw [note_7 hA8] at a5
    have hJ := od_end hc hS hm hn1 h ho ht e4 a1 a5
    have z19 : (gs H1 64 11 ((t1 + 1 : Nat) : Int)) 64 19 = (S : Int) := by rw [gs_at_ne (by decide), Fr_64 hfr (by decide)]; exact h.r19
    have z85 : (gs H1 64 11 ((t1 + 1 : Nat) : Int)) 85 S = (l : Int) := by rw [gs_ne (by decide), ho.r85]; exact h.jb.r85
    have z76 : (gs H1 64 11 ((t1 + 1 : Nat) : Int)) 76 S = (m : Int) := by rw [gs_ne (by decide), ho.r76]; exact h.r76
    have z13 := a5.2.2.2.2
    refine tl_499 (by omega) (by omega) (fun y => absurd y (by omega)) (fun _ => ?_)
    rw [z19, st_nat, st_nat, z85, z76, w32_nat (by omega)]
    exact hQ _ _ _ _ _ _ (by omega) hJ
/-- bar -/
theorem oc_bar (h : J8 8 c L r F K S G0 t n m p l qq s H) (ho : OC c n m p 21 17 s s1) (hh : OH S n m l qq 1 H H1) (hs : SM c L r F K t1 17 s1 H1) : OCC c L r F K S n m p l qq t1 s H s1 H1 :=
  ⟨hs, ho.k5, ho.k9, ho.k10, ho.c11, ho.c12, ho.c13, ho.w5, ho.w6, ho.w7, ho.fs, bmn_eq ho.b10.1 ho.b10.2, by rw [ho.b10.1, ho.b10.2, hh.b15.1, hh.b15.2]; exact h.jb.bqq, hh.r78, hh.r82, hh.fh, hh.r39, hh.r12, hh.r85, hh.r76, Or.inl ⟨hh.r77, ho.k4, ho.k6⟩⟩
/-- beside -/
theorem cl_beside (hc : c = 40 ∨ c = 52) (hS : S ≤ 1) (hm : m < 40) (hn1 : 1 ≤ n) (h : J8 8 c L r F K S G0 t n m p l qq s H) (ho : OC c n m p 22 14 s s1) (hh : OH S n m l qq 2 H H1) (hs : SM c L r F K (t + 1) 14 s1 H1) (hB : ∀ H', BadF F S G0 H' → Q none H') (hQ : ∀ (t' p' l' qq' : Nat) (s' H' : mG), t < t' → J8 8 c L r F K S G0 t' n (m + 1) p' l' qq' s' H' → Q none H') : W2 o_X12 M_X12_tellClause (inN [64, 72, 73, 74, 75, 76, 77, 78, 79, 80, 81, 82, 83, 84, 85, 86, 87, 88, 89, 90, 91, 92, 93]) (q + 12) Q 416 [some (mR 69), some (mI cp), none, some (mI ((40 * S + m : Nat) : Int)), none, none, none, none] [] H1 := by
  have hT := hs.2.2.2.1
  have h11 := hT.2.1
  have h600 := hT.2.2.2.1
  have hj := h.jb
  refine tl_416 (by omega) (by omega) ?_
  rw [h11]
  have hf2 : frm (insQ S m l qq) H (gs H1 84 (40 * S + m) ((t + 1 : Nat) : Int)) := frm_gs hh.fh (by unfold insQ; omega)
  have hs2 : SM c L r F K (t + 1) 14 s1 (gs H1 84 (40 * S + m) ((t + 1 : Nat) : Int)) := SM_to hs (fun k _ _ => gs_ne (by omega)) (by rw [gs_ne (by decide)]) (by rw [gs_ne (by decide)])
  rcases turn_must (k := 1) (X' := 7) hc hs2 (Fr_q hm h.fr hf2) (by decide) (by decide) (fun A kd hA => by rw [fol_14 hA, show km 1 = 2 from by decide]) (fun A hA => by rw [rom_c (by omega) (by omega), if_neg (fun q => absurd q.1 (by decide))]) (by decide) with hb | ⟨e0, e1, e2, e3, e4, A, a1, a2, a3, a4, a5⟩
  · exact bad_494 h.r19 hS hm hB hb
  · rw [e1]
    have hA8 : A 15 8 = 14 := by rw [a1 15 (by decide)]; exact hs.2.2.1
    have hc20 : c ≠ 20 := by omega
    have a12 : A c 12 = ((m + 1 : Nat) : Int) := by rw [a1 c hc20]; exact ho.c12
    have hnm := a4 rfl
    rw [note_14 hA8, riv_eq a12 hm] at a5
    unfold f_X10_name f_X10_start at a5
    rw [hnm, a2] at a5
    have hT2 := hs2.2.2.2.1
    have rk := rT_k hT2
    rw [hT2.2.1, st_nat] at rk
    have hcc := cne hc
    have hc1 : ∀ j, j < 12 → c + j ≠ 15 ∧ c + j ≠ 20 ∧ c + j ≠ 17 ∧ c + j ≠ 18 := fun j _ => by omega
    have ec : ∀ j, j < 12 → (gs (gs (gs A 17 m (tkN (tb L r) (tkQ (tb L r) (t + 1)))) 18 m ((tkQ (tb L r) (t + 1) : Nat) : Int)) 15 8 7) (c + j) = s1 (c + j) := fun j hj => by rw [gs_ne (hc1 j hj).1, gs_ne (hc1 j hj).2.2.2, gs_ne (hc1 j hj).2.2.1, a1 _ (hc1 j hj).2.1]
    have e0' := ec 0 (by decide)
    have e15 : ∀ i, i ≠ 8 → (gs (gs (gs A 17 m (tkN (tb L r) (tkQ (tb L r) (t + 1)))) 18 m ((tkQ (tb L r) (t + 1) : Nat) : Int)) 15 8 7) 15 i = s1 15 i := fun i hi => by rw [gs_at_ne hi, gs_ne (by decide), gs_ne (by decide), a1 15 (by decide)]
    have z17 : (gs (gs (gs A 17 m (tkN (tb L r) (tkQ (tb L r) (t + 1)))) 18 m ((tkQ (tb L r) (t + 1) : Nat) : Int)) 15 8 7) 17 m = tkN (tb L r) (tkQ (tb L r) (t + 1)) := by rw [gs_ne (by decide), gs_ne (by decide), gs_at]
    have z18 : (gs (gs (gs A 17 m (tkN (tb L r) (tkQ (tb L r) (t + 1)))) 18 m ((tkQ (tb L r) (t + 1) : Nat) : Int)) 15 8 7) 18 m = ((tkQ (tb L r) (t + 1) : Nat) : Int) := by rw [gs_ne (by decide), gs_at]
    have gfs : frm (insK c m p) s (gs (gs (gs A 17 m (tkN (tb L r) (tkQ (tb L r) (t + 1)))) 18 m ((tkQ (tb L r) (t + 1) : Nat) : Int)) 15 8 7) := by
      refine frm_gs (frm_gs (frm_gs (frm_tr ho.fs (frm_row a1 (fun _ => Or.inl rfl))) ?_) ?_) ?_
      · unfold insK; omega
      · unfold insK; omega
      · exact Or.inr (Or.inr (Or.inl ⟨rfl, by decide⟩))
    generalize (gs (gs (gs A 17 m (tkN (tb L r) (tkQ (tb L r) (t + 1)))) 18 m ((tkQ (tb L r) (t + 1) : Nat) : Int)) 15 8 7) = s2 at *
    have e0c : s2 c = s1 c := e0'
    have b10 : s2 15 10 = s 15 10 := by rw [e15 10 (by decide)]; exact ho.b10.1
    have b11 : s2 15 11 = s 15 11 := by rw [e15 11 (by decide)]; exact ho.b10.2
    have g64 : ∀ i, i ≠ 11 → (gs (gs H1 84 (40 * S + m) ((t + 1 : Nat) : Int)) 64 11 ((t + 1 + 1 : Nat) : Int)) 64 i = H1 64 i := fun i hi => by rw [gs_at_ne hi, gs_ne (by decide)]
    have gne : ∀ a, a ≠ 64 → a ≠ 84 → (gs (gs H1 84 (40 * S + m) ((t + 1 : Nat) : Int)) 64 11 ((t + 1 + 1 : Nat) : Int)) a = H1 a := fun a h1 h2 => by rw [gs_ne h1, gs_ne h2]
    have g84 : (gs (gs H1 84 (40 * S + m) ((t + 1 : Nat) : Int)) 64 11 ((t + 1 + 1 : Nat) : Int)) 84 (40 * S + m) = ((t + 1 : Nat) : Int) := by rw [gs_ne (by decide), gs_at]
    refine od_494 (s1 := s2) (t1 := t + 1 + 1) hc hS hm hn1 h ⟨a5, ?_, ?_, ?_, by rw [e0c]; exact ho.c11, by rw [e0c]; exact ho.c12, by rw [e0c]; exact ho.c13, by rw [e15 5 (by decide)]; exact ho.w5, by rw [e15 6 (by decide)]; exact ho.w6, gfs, bmn_eq b10 b11, ?_, ?_, ?_, frm_gs hf2 (insQ_64 (by decide)), ?_, ?_, ?_, ?_, Or.inr ⟨?_, ?_, ?_, ?_, ?_, ?_, ?_⟩, ?_, ?_⟩ (by omega) hB hQ
    · rw [ec 5 (by decide)]; exact ho.k5
    · rw [ec 9 (by decide)]; exact ho.k9
    · rw [ec 10 (by decide)]; exact ho.k10
    · rw [b10, b11, g64 15 (by decide), g64 16 (by decide), hh.b15.1, hh.b15.2]; exact hj.bqq
    · rw [gne 78 (by decide) (by decide)]; exact hh.r78
    · rw [gne 82 (by decide) (by decide)]; exact hh.r82
    · rw [g64 39 (by decide)]; exact hh.r39
    · rw [g64 12 (by decide)]; exact hh.r12
    · rw [gne 85 (by decide) (by decide)]; exact hh.r85
    · rw [gne 76 (by decide) (by decide)]; exact hh.r76
    · rw [gne 77 (by decide) (by decide)]; exact hh.r77
    · rw [ec 4 (by decide)]; exact ho.k4
    · rw [ec 6 (by decide)]; exact ho.k6
    · rw [g84]; omega
    · rw [g84]; omega
    · rw [g84, st_nat, z17, gne 70 (by decide) (by decide), ← gs_ne (G := H1) (k := 84) (j := 40 * S + m) (a := 70) (x := ((t + 1 : Nat) : Int)) (by decide)]; exact (rk.2.2.2 e0).symm
    · rw [g84, st_nat, z18, gne 68 (by decide) (by decide), ← gs_ne (G := H1) (k := 84) (j := 40 * S + m) (a := 68) (x := ((t + 1 : Nat) : Int)) (by decide)]; exact rk.2.1.symm
    · intro _ q
      rw [ec 4 (by decide), ho.k4] at q
      exact absurd q (by decide)
    · intro _ he
      rw [ec 5 (by decide), ho.k5] at he
      obtain ⟨i, i1, i2⟩ := he
      have hnt : ((n : Int) - 1).toNat = n - 1 := by omega
      rw [hnt] at i2
      obtain ⟨d1, d2⟩ := hj.dup (n - 1) (by omega) ⟨i, by omega, i2⟩
      have q1 := tkQ_ge (tb L r) (t + 1)
      have q2 := tkP_mono (L := L) (r := r) (show t ≤ t + 1 by omega)
      rw [b10, b11, z18]
      exact ⟨d1, by omega⟩
end CLD
