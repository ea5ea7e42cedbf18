/-! ===== wip/whole/gen86b.py: a clause begins, a clause ends ===== -/
/-- both between two clauses (state 8) or two campaigns (state 1) -/
def J8 (X : Int) (c : Nat) (L : Int) (r : Nat → Int) (F : mG) (K S : Nat) (G0 : mG) (t n m p l qq : Nat) (s H : mG) : Prop := (SM c L r F K t X s H) ∧ (JB c S (tb L r) n m p l qq t s H) ∧ (s c 11 = (n : Int)) ∧ (s c 12 = (m : Int)) ∧ (H 72 S = (n : Int)) ∧ (H 76 S = (m : Int)) ∧ (Fr S G0 H) ∧ (G0 64 19 = (S : Int))
theorem J8.sm {X : Int} {c : Nat} {L : Int} {r : Nat → Int} {F : mG} {K S : Nat} {G0 : mG} {t n m p l qq : Nat} {s H : mG} (h : J8 X c L r F K S G0 t n m p l qq s H) : SM c L r F K t X s H := h.1
theorem J8.jb {X : Int} {c : Nat} {L : Int} {r : Nat → Int} {F : mG} {K S : Nat} {G0 : mG} {t n m p l qq : Nat} {s H : mG} (h : J8 X c L r F K S G0 t n m p l qq s H) : JB c S (tb L r) n m p l qq t s H := h.2.1
theorem J8.c11 {X : Int} {c : Nat} {L : Int} {r : Nat → Int} {F : mG} {K S : Nat} {G0 : mG} {t n m p l qq : Nat} {s H : mG} (h : J8 X c L r F K S G0 t n m p l qq s H) : s c 11 = (n : Int) := h.2.2.1
theorem J8.c12 {X : Int} {c : Nat} {L : Int} {r : Nat → Int} {F : mG} {K S : Nat} {G0 : mG} {t n m p l qq : Nat} {s H : mG} (h : J8 X c L r F K S G0 t n m p l qq s H) : s c 12 = (m : Int) := h.2.2.2.1
theorem J8.r72 {X : Int} {c : Nat} {L : Int} {r : Nat → Int} {F : mG} {K S : Nat} {G0 : mG} {t n m p l qq : Nat} {s H : mG} (h : J8 X c L r F K S G0 t n m p l qq s H) : H 72 S = (n : Int) := h.2.2.2.2.1
theorem J8.r76 {X : Int} {c : Nat} {L : Int} {r : Nat → Int} {F : mG} {K S : Nat} {G0 : mG} {t n m p l qq : Nat} {s H : mG} (h : J8 X c L r F K S G0 t n m p l qq s H) : H 76 S = (m : Int) := h.2.2.2.2.2.1
theorem J8.fr {X : Int} {c : Nat} {L : Int} {r : Nat → Int} {F : mG} {K S : Nat} {G0 : mG} {t n m p l qq : Nat} {s H : mG} (h : J8 X c L r F K S G0 t n m p l qq s H) : Fr S G0 H := h.2.2.2.2.2.2.1
theorem J8.r19 {X : Int} {c : Nat} {L : Int} {r : Nat → Int} {F : mG} {K S : Nat} {G0 : mG} {t n m p l qq : Nat} {s H : mG} (h : J8 X c L r F K S G0 t n m p l qq s H) : G0 64 19 = (S : Int) := h.2.2.2.2.2.2.2
/-- the class in clause m, just begun -/
def OC (c n m p : Nat) (x X : Int) (s s1 : mG) : Prop := (s1 (c + 4) m = x) ∧ (s1 (c + 5) m = (n : Int) - 1) ∧ (s1 (c + 6) m = 0) ∧ (s1 (c + 7) m = -1) ∧ (s1 (c + 9) m = (p : Int)) ∧ (s1 (c + 10) m = (p : Int)) ∧ (s1 c 11 = (n : Int)) ∧ (s1 c 12 = ((m + 1 : Nat) : Int)) ∧ (s1 c 13 = (p : Int)) ∧ (s1 15 5 = 0) ∧ (s1 15 6 = 0) ∧ (s1 15 7 = 0) ∧ (s1 15 8 = X) ∧ (s1 15 10 = s 15 10 ∧ s1 15 11 = s 15 11) ∧ (frm (insK c m p) s s1)
theorem OC.k4 {c n m p : Nat} {x X : Int} {s s1 : mG} (h : OC c n m p x X s s1) : s1 (c + 4) m = x := h.1
theorem OC.k5 {c n m p : Nat} {x X : Int} {s s1 : mG} (h : OC c n m p x X s s1) : s1 (c + 5) m = (n : Int) - 1 := h.2.1
theorem OC.k6 {c n m p : Nat} {x X : Int} {s s1 : mG} (h : OC c n m p x X s s1) : s1 (c + 6) m = 0 := h.2.2.1
theorem OC.k7 {c n m p : Nat} {x X : Int} {s s1 : mG} (h : OC c n m p x X s s1) : s1 (c + 7) m = -1 := h.2.2.2.1
theorem OC.k9 {c n m p : Nat} {x X : Int} {s s1 : mG} (h : OC c n m p x X s s1) : s1 (c + 9) m = (p : Int) := h.2.2.2.2.1
theorem OC.k10 {c n m p : Nat} {x X : Int} {s s1 : mG} (h : OC c n m p x X s s1) : s1 (c + 10) m = (p : Int) := h.2.2.2.2.2.1
theorem OC.c11 {c n m p : Nat} {x X : Int} {s s1 : mG} (h : OC c n m p x X s s1) : s1 c 11 = (n : Int) := h.2.2.2.2.2.2.1
theorem OC.c12 {c n m p : Nat} {x X : Int} {s s1 : mG} (h : OC c n m p x X s s1) : s1 c 12 = ((m + 1 : Nat) : Int) := h.2.2.2.2.2.2.2.1
theorem OC.c13 {c n m p : Nat} {x X : Int} {s s1 : mG} (h : OC c n m p x X s s1) : s1 c 13 = (p : Int) := h.2.2.2.2.2.2.2.2.1
theorem OC.w5 {c n m p : Nat} {x X : Int} {s s1 : mG} (h : OC c n m p x X s s1) : s1 15 5 = 0 := h.2.2.2.2.2.2.2.2.2.1
theorem OC.w6 {c n m p : Nat} {x X : Int} {s s1 : mG} (h : OC c n m p x X s s1) : s1 15 6 = 0 := h.2.2.2.2.2.2.2.2.2.2.1
theorem OC.w7 {c n m p : Nat} {x X : Int} {s s1 : mG} (h : OC c n m p x X s s1) : s1 15 7 = 0 := h.2.2.2.2.2.2.2.2.2.2.2.1
theorem OC.w8 {c n m p : Nat} {x X : Int} {s s1 : mG} (h : OC c n m p x X s s1) : s1 15 8 = X := h.2.2.2.2.2.2.2.2.2.2.2.2.1
theorem OC.b10 {c n m p : Nat} {x X : Int} {s s1 : mG} (h : OC c n m p x X s s1) : s1 15 10 = s 15 10 ∧ s1 15 11 = s 15 11 := h.2.2.2.2.2.2.2.2.2.2.2.2.2.1
theorem OC.fs {c n m p : Nat} {x X : Int} {s s1 : mG} (h : OC c n m p x X s s1) : frm (insK c m p) s s1 := h.2.2.2.2.2.2.2.2.2.2.2.2.2.2
/-- the reference in clause m, just begun -/
def OH (S n m l qq : Nat) (so : Int) (H H1 : mG) : Prop := (H1 77 (40 * S + m) = so) ∧ (H1 78 (40 * S + m) = (n : Int) - 1) ∧ (H1 82 (40 * S + m) = (l : Int)) ∧ (frm (insQ S m l qq) H H1) ∧ (H1 64 15 = H 64 15 ∧ H1 64 16 = H 64 16) ∧ (H1 64 39 = H 64 39) ∧ (H1 64 12 = H 64 12) ∧ (H1 85 S = H 85 S) ∧ (H1 76 S = H 76 S)
theorem OH.r77 {S n m l qq : Nat} {so : Int} {H H1 : mG} (h : OH S n m l qq so H H1) : H1 77 (40 * S + m) = so := h.1
theorem OH.r78 {S n m l qq : Nat} {so : Int} {H H1 : mG} (h : OH S n m l qq so H H1) : H1 78 (40 * S + m) = (n : Int) - 1 := h.2.1
theorem OH.r82 {S n m l qq : Nat} {so : Int} {H H1 : mG} (h : OH S n m l qq so H H1) : H1 82 (40 * S + m) = (l : Int) := h.2.2.1
theorem OH.fh {S n m l qq : Nat} {so : Int} {H H1 : mG} (h : OH S n m l qq so H H1) : frm (insQ S m l qq) H H1 := h.2.2.2.1
theorem OH.b15 {S n m l qq : Nat} {so : Int} {H H1 : mG} (h : OH S n m l qq so H H1) : H1 64 15 = H 64 15 ∧ H1 64 16 = H 64 16 := h.2.2.2.2.1
theorem OH.r39 {S n m l qq : Nat} {so : Int} {H H1 : mG} (h : OH S n m l qq so H H1) : H1 64 39 = H 64 39 := h.2.2.2.2.2.1
theorem OH.r12 {S n m l qq : Nat} {so : Int} {H H1 : mG} (h : OH S n m l qq so H H1) : H1 64 12 = H 64 12 := h.2.2.2.2.2.2.1
theorem OH.r85 {S n m l qq : Nat} {so : Int} {H H1 : mG} (h : OH S n m l qq so H H1) : H1 85 S = H 85 S := h.2.2.2.2.2.2.2.1
theorem OH.r76 {S n m l qq : Nat} {so : Int} {H H1 : mG} (h : OH S n m l qq so H H1) : H1 76 S = H 76 S := h.2.2.2.2.2.2.2.2
section CBG
variable {c : Nat} {L : Int} {r : Nat → Int} {F : mG} {K S : Nat} {G0 : mG} {t n m p l qq q : Nat} {s H : mG} {Q : Option mV → mG → Prop} {kd so X' cp : Int}
theorem Fr_q (hm : m < 40) {H1 : mG} (h : Fr S G0 H) (hf : frm (insQ S m l qq) H H1) : Fr S G0 H1 := fun a i hi => (hf a i (fun q => hi (insQ_in hm a i q))).trans (h a i hi)
theorem cl_begin (hc : c = 40 ∨ c = 52) (h : J8 8 c L r F K S G0 t n m p l qq s H) (hkd : tkK (tb L r) (tkQ (tb L r) t) = kd) (hX : (kd = 24 ∧ X' = 9) ∨ (kd = 27 ∧ X' = 17) ∨ (kd = 28 ∧ X' = 14) ∨ (kd = 29 ∧ X' = 15)) :
    (m = 40 → Sto (tb L r) F t 2) ∧ (t = 600 → Sto (tb L r) F t 2) ∧ (m < 40 → t < 600 → ∃ s1 : mG, OC c n m p (km kd) X' s s1 ∧ cs c L r (t + 1) s1 ∧ pfin c (601 - (t + 1)) (t + 1) s1 = F) := by
  obtain ⟨hcs, hF, hX8, hT, h13⟩ := h.sm
  have hj := h.jb
  have hA8 : ∀ A : mG, (∀ k, k ≠ 20 → A k = s k) → A 15 8 = 8 := fun A hA => by rw [hA 15 (by decide)]; exact hX8
  have hc20 : c ≠ 20 := by omega
  have hAc : ∀ A : mG, (∀ k, k ≠ 20 → A k = s k) → A c = s c := fun A hA => hA c hc20
  have hkm : km kd = kd - 6 := by rw [km_v, if_pos (by omega)]
  have hkn : (kd = 24 ∨ kd = 27 ∨ kd = 28 ∨ kd = 29) ∧ 0 < X' := by omega
  have hfo : ∀ A : mG, (∀ k, k ≠ 20 → A k = s k) → f_X7_follow A (km kd) = X' := by
    intro A hA
    rw [fol_8 (hA8 A hA), fC]
    rcases hX with ⟨e1, e2⟩ | ⟨e1, e2⟩ | ⟨e1, e2⟩ | ⟨e1, e2⟩ <;> subst e1 <;> subst e2
    · rw [show km 24 = 18 from by decide]; rfl
    · rw [show km 27 = 21 from by decide]; rfl
    · rw [show km 28 = 22 from by decide]; rfl
    · rw [show km 29 = 23 from by decide]; rfl
  obtain ⟨t1, t2, t3, t4, _⟩ := turn (fo := X') hc ⟨hcs, hF, hX8, hT, h13⟩ (by decide) hkd hfo
  have hx17 : ¬ km kd = 17 := by omega
  refine ⟨fun e => ?_, fun e => t2 (by omega) (by omega) e, fun hm ht => ?_⟩
  · refine t3 (by omega) (by omega) (fun A hA => ?_)
    rw [rom_8 (hA8 A hA), if_neg hx17, hAc A hA, h.c12, if_neg (by omega)]
    decide
  · obtain ⟨A, b1, b2, b3, b4, b5, b6⟩ := t4 hkn.2 (by omega) ht (fun A hA => by rw [rom_8 (hA8 A hA), if_neg hx17, hAc A hA, h.c12, if_pos (by omega)])
    have a12 : A c 12 = (m : Int) := by rw [hAc A b1]; exact h.c12
    have en : e_X7_note c A (km kd) = gs (adC c m (km kd) A) 15 7 0 := by
      rw [note_8 (hA8 A b1)]
      unfold e_X7_noteClause
      rw [if_neg hx17, adC_eq a12 hm]
    rw [en] at b5 b6
    obtain ⟨g4, g5, g6, g7, g8, g9, g10, g12, gf⟩ := adC_f (c := c) (m := m) (x := km kd) (s := A)
    have hcc := cne hc
    have hc0 : c ≠ 15 := (cne hc 0 (by decide)).1
    have z15 : ∀ i, (adC c m (km kd) A) 15 i = s 15 i := fun i => by rw [gf 15 i (by omega) (by omega), b1 15 (by decide)]
    have n8 := hj.hn
    refine ⟨_, ⟨?_, ?_, ?_, ?_, ?_, ?_, ?_, ?_, ?_, ?_, ?_, ?_, gs_at _ _ _ _, ⟨?_, ?_⟩, ?_⟩, b5, b6⟩
    · rw [gs_ne (hcc 4 (by decide)).1, gs_ne (hcc 4 (by decide)).1]; exact g4
    · rw [gs_ne (hcc 5 (by decide)).1, gs_ne (hcc 5 (by decide)).1, g5, hAc A b1, h.c11, w32_i (by omega) (by omega)]
    · rw [gs_ne (hcc 6 (by decide)).1, gs_ne (hcc 6 (by decide)).1]; exact g6
    · rw [gs_ne (hcc 7 (by decide)).1, gs_ne (hcc 7 (by decide)).1]; exact g7
    · rw [gs_ne (hcc 9 (by decide)).1, gs_ne (hcc 9 (by decide)).1, g9, hAc A b1]; exact hj.c13
    · rw [gs_ne (hcc 10 (by decide)).1, gs_ne (hcc 10 (by decide)).1, g10, hAc A b1]; exact hj.c13
    · rw [gs_ne hc0, gs_ne hc0, gf c 11 (by omega) (by omega), hAc A b1]; exact h.c11
    · rw [gs_ne hc0, gs_ne hc0]; exact g12
    · rw [gs_ne hc0, gs_ne hc0, gf c 13 (by omega) (by omega), hAc A b1]; exact hj.c13
    · rw [gs_at_ne (by decide), gs_at_ne (by decide), z15]; exact hj.w5
    · rw [gs_at_ne (by decide), gs_at_ne (by decide), z15]; exact hj.d0
    · rw [gs_at_ne (by decide), gs_at]
    · rw [gs_at_ne (by decide), gs_at_ne (by decide), z15]
    · rw [gs_at_ne (by decide), gs_at_ne (by decide), z15]
    · refine frm_gs (frm_gs ?_ ?_) ?_
      · intro a i hi
        unfold insK at hi
        rw [gf a i (by omega) (by omega), b1 a (by omega)]
      · exact Or.inr (Or.inr (Or.inl ⟨rfl, by decide⟩))
      · exact Or.inr (Or.inr (Or.inl ⟨rfl, by decide⟩))
/-- the reference's first writes -/
theorem oh_begin (hS : S ≤ 1) (h : J8 8 c L r F K S G0 t n m p l qq s H) : OH S n m l qq so H (gs (gs (gs H 78 (40 * S + m) ((n : Int) - 1)) 82 (40 * S + m) ((l : Nat) : Int)) 77 (40 * S + m) so) := by
  refine ⟨gs_at _ _ _ _, ?_, ?_, ?_, ⟨?_, ?_⟩, ?_, ?_, ?_, ?_⟩
  · rw [gs_ne (by decide), gs_ne (by decide), gs_at]
  · rw [gs_ne (by decide), gs_at]
  · refine frm_gs (frm_gs (frm_gs frm_rf ?_) ?_) ?_
    all_goals (unfold insQ; omega)
  all_goals rw [gs_ne (by decide), gs_ne (by decide), gs_ne (by decide)]
theorem OH_11 {H1 : mG} {v : Int} (h : OH S n m l qq so H H1) : OH S n m l qq so H (gs H1 64 11 v) := by
  obtain ⟨h1, h2, h3, h4, ⟨h5, h6⟩, h7, h8, h9, h10⟩ := h
  refine ⟨?_, ?_, ?_, frm_gs h4 (insQ_64 (by decide)), ⟨?_, ?_⟩, ?_, ?_, ?_, ?_⟩
  · rw [gs_ne (by decide)]; exact h1
  · rw [gs_ne (by decide)]; exact h2
  · rw [gs_ne (by decide)]; exact h3
  · rw [gs_at_ne (by decide)]; exact h5
  · rw [gs_at_ne (by decide)]; exact h6
  · rw [gs_at_ne (by decide)]; exact h7
  · rw [gs_at_ne (by decide)]; exact h8
  · rw [gs_ne (by decide)]; exact h9
  · rw [gs_ne (by decide)]; exact h10
end CBG
