/-! ===== and, or: on to the next literal ===== -/
section CDM
variable {c : Nat} {L : Int} {r : Nat → Int} {F : mG} {K S k P0 q0 l0 : Nat} {s0 H0 : mG} {t sh P qq l : Nat} {s H A : mG} {X x : Int}
set_option maxHeartbeats 8000000 in
/-- and, or: the next literal -/
theorem li_next (hc : c = 40 ∨ c = 52) (hk : k < 40) (h : LI c L r F K S k P0 q0 l0 s0 H0 t sh qq l X s H) {kd : Int} (hkd : tkK (tb L r) (tkQ (tb L r) t) = kd) (hao : kd = 31 ∨ kd = 32) :
    BdR F S q0 l0 H0 (e_X12_next H) ∨ ∃ (s' : mG) (P sh' : Nat), shO sh' = decide (kd = 31) ∧ CI c L r F K S k P0 q0 l0 s0 H0 (t + 1) sh' P qq (l + 1) s' (e_X12_next H) := by
  have hSM := h.sm
  obtain ⟨hcs, hF, hX8, hT, h13⟩ := hSM
  have h600 := hT.2.2.2.1
  have hXX : 0 < X ∧ ¬ X = 1 ∧ ¬ X = 8 := by rcases h.hX with e | ⟨e, _⟩ <;> omega
  have hkm : (kd = 31 ∧ km kd = 25 ∧ crk (km kd) = 1) ∨ (kd = 32 ∧ km kd = 26 ∧ crk (km kd) = 2) := by
    rcases hao with e | e
    · exact Or.inl ⟨e, by rw [e]; decide, by rw [e]; decide⟩
    · exact Or.inr ⟨e, by rw [e]; decide, by rw [e]; decide⟩
  have hA8 : ∀ A : mG, (∀ k, k ≠ 20 → A k = s k) → A 15 8 = X := fun A hA => by rw [hA 15 (by decide)]; exact hX8
  obtain ⟨t1, t2, t3, t4, _⟩ := turn (fo := 17) hc ⟨hcs, hF, hX8, hT, h13⟩ hXX.1 hkd (fun A hA => by rw [li_fol h hA (fun _ => by omega), if_pos (by omega)])
  by_cases z6 : t = 600
  · rw [nx_end hT.2.1 z6]
    exact Or.inl (BdR_fail (by decide) (t2 (by decide) (by decide) z6) hT h13 h.fh)
  · rw [nx_go hT.2.1 (by omega)]
    obtain ⟨A, b1, b2, b3, b4, b5, b6⟩ := t4 (by decide) (by omega) (by omega) (fun A hA => by rw [rom_c (by rw [hA8 A hA]; exact hXX.2.1) (by rw [hA8 A hA]; exact hXX.2.2), if_neg (fun q => absurd q.1 (by omega))])
    obtain ⟨s2, P', w', r1, r2, r3, r4, r5, r6, r7, r8, r9, r10⟩ := li_rel (x := crk (km kd)) hc hk h h600 b1 (by omega)
    obtain ⟨c1, c2, c3, c4, c5⟩ := r2
    have en : gs (e_X7_note c A (km kd)) 15 8 17 = gs (gs (gs (gs s2 19 w' (km kd)) 15 5 ((w' + 1 : Nat) : Int)) 15 7 0) 15 8 17 := by
      have eh := hold_eq (x := km kd) c4 (show w' < 35 by omega)
      rw [li_note h (hA8 A b1), behind_ao (by omega) (by rw [r1, eh, gs_at_ne (by decide), gs_ne (by decide)]; exact r7), r1, eh]
    rw [en] at b5 b6
    obtain ⟨sh', g1, g2, g3, g4⟩ : ∃ sh' : Nat, shO sh' = decide (kd = 31) ∧ w' + 1 = shW sh' ∧ shB sh' ((gs (gs (gs (gs s2 19 w' (km kd)) 15 5 ((w' + 1 : Nat) : Int)) 15 7 0) 15 8 17) 19) ∧ (¬ sh' = 0 ∧ (s 15 10 = 0 → ∀ (E va : Nat → Int) (mk : Int), cpE E va mk → rnC E (s2 (c + 11)) P0 (P' - P0) = stk sh' (hR (oRf H) (lRf H va mk) (600 * S + l0) (l + 1 - l0)) ∧ (sh' = 2 → (hR (oRf H) (lRf H va mk) (600 * S + l0) (l + 1 - l0)).1 = false))) := by
      have e19 : ∀ i, (gs (gs (gs (gs s2 19 w' (km kd)) 15 5 ((w' + 1 : Nat) : Int)) 15 7 0) 15 8 17) 19 i = if i = w' then km kd else s2 19 i := by
        intro i
        rw [gs_ne (by decide), gs_ne (by decide), gs_ne (by decide)]
        by_cases z : i = w'
        · rw [z, gs_at, if_pos rfl]
        · rw [gs_at_ne z, if_neg z]
      rcases hkm with ⟨y1, y2, y3⟩ | ⟨y1, y2, y3⟩
      · have w0 := r8 y3
        subst w0
        refine ⟨1, by rw [y1]; decide, rfl, Or.inr (Or.inl ⟨rfl, ?_⟩), by decide, fun h0 E va mk hE => ⟨(r10 h0 E va mk hE).1 y3, fun q => absurd q (by decide)⟩⟩
        rw [e19, if_pos rfl, y2]
      · have w0 := r9 y3
        have hle : shW (shA sh) - 1 ≤ shW sh := by rcases h.sb with y | ⟨y, _⟩ | ⟨y, _⟩ | ⟨y, _⟩ <;> subst y <;> decide
        obtain ⟨q1, q2⟩ := shB_and (w' := (gs (gs (gs (gs s2 19 w' (km kd)) 15 5 ((w' + 1 : Nat) : Int)) 15 7 0) 15 8 17) 19) h.sb (fun i hi => by rw [e19, if_neg (by omega)]; exact r5 i (by omega)) (by rw [e19, if_pos w0.symm, y2]) hle
        refine ⟨shA sh, ?_, by omega, q1, ?_, fun h0 E va mk hE => (r10 h0 E va mk hE).2 y3⟩
        · rw [y1]
          rcases h.sb with y | ⟨y, _⟩ | ⟨y, _⟩ | ⟨y, _⟩ <;> subst y <;> decide
        · rcases h.sb with y | ⟨y, _⟩ | ⟨y, _⟩ | ⟨y, _⟩ <;> subst y <;> decide
    have h10 : (gs (gs (gs (gs s2 19 w' (km kd)) 15 5 ((w' + 1 : Nat) : Int)) 15 7 0) 15 8 17) 15 10 = s 15 10 := by
      rw [gs_at_ne (by decide), gs_at_ne (by decide), gs_at_ne (by decide), gs_ne (by decide)]
      exact r6 15 10 (nx15 hc (by decide))
    have h11 : (gs (gs (gs (gs s2 19 w' (km kd)) 15 5 ((w' + 1 : Nat) : Int)) 15 7 0) 15 8 17) 15 11 = s 15 11 := by
      rw [gs_at_ne (by decide), gs_at_ne (by decide), gs_at_ne (by decide), gs_ne (by decide)]
      exact r6 15 11 (nx15 hc (by decide))
    have hl := h.hl
    have hq := h.hq
    have hcc := cne hc
    have hc0 : c ≠ 15 ∧ c ≠ 19 := cne hc 0 (by decide)
    have k0 : ¬ tkK (tb L r) (tkQ (tb L r) t) = 0 := by omega
    have h6 : t < 600 := by omega
    have hp' : P' + shW sh' ≤ t + 1 := by omega
    have hql : qq ≤ t + 1 := by omega
    have hll : l0 ≤ l + 1 ∧ l + 1 ≤ t + 1 := by omega
    clear hkm hao r8 r9 r10 t1 t2 t3 t4
    refine Or.inr ⟨_, P', sh', g1, ⟨b5, b6, gs_at _ _ _ _, rT_nx hT k0 h6 (fun k _ _ => gs_ne (by omega)) (gs_at _ _ _ _), by rw [gs_at_ne (by decide)]; exact h13⟩, g3, ?_, ?_, ?_, hp', ?_, ⟨hq.1, hql⟩, ?_, ?_, hll, ?_, frm_gs h.fh (insR_64 (by decide)), ?_, ?_, fun q => absurd q g4.1, fun j j1 j2 => ?_, fun h0 E va mk hE => ?_⟩
    · refine ⟨?_, ?_, ?_, ?_, c5⟩
      · rw [gs_ne hc0.1, gs_ne hc0.1, gs_ne hc0.1, gs_ne hc0.2]; exact c1
      · rw [gs_ne hc0.1, gs_ne hc0.1, gs_ne hc0.1, gs_ne hc0.2]; exact c2
      · rw [gs_ne (hcc 10 (by decide)).1, gs_ne (hcc 10 (by decide)).1, gs_ne (hcc 10 (by decide)).1, gs_ne (hcc 10 (by decide)).2]; exact c3
      · rw [gs_at_ne (by decide), gs_at_ne (by decide), gs_at, g2]
    · rw [gs_at_ne (by decide), gs_at_ne (by decide), gs_at_ne (by decide), gs_ne (by decide)]; exact r7
    · rw [gs_at_ne (by decide), gs_at]
    · rw [gs_at_ne (by decide)]; exact h.r39
    · rw [gs_at_ne (by decide)]; exact h.ro
    · rw [gs_ne (by decide)]; exact h.r85
    · refine frm_tr h.fs (frm_gs (frm_gs (frm_gs (frm_gs (frm_mono r6 (insX_C (Nat.le_refl P0))) ?_) ?_) ?_) ?_)
      · exact Or.inr (Or.inl rfl)
      · exact Or.inr (Or.inr (Or.inl ⟨rfl, by decide⟩))
      · exact Or.inr (Or.inr (Or.inl ⟨rfl, by decide⟩))
      · exact Or.inr (Or.inr (Or.inl ⟨rfl, by decide⟩))
    · rw [h10, h11, gs_at_ne (by decide), gs_at_ne (by decide)]; exact h.bqq
    · exact bmn_tr h.bm (bmn_eq h10 h11)
    · exact LOK_to (h.lw j j1 j2) (Nat.le_refl qq) (fun a _ _ => by rw [gs_ne (by omega)]) (fun i _ => by rw [gs_ne (by decide), gs_ne (by decide)]; exact ⟨rfl, rfl⟩)
    · rw [h10] at h0
      have q := g4.2 h0 E va mk hE
      have e11 : (gs (gs (gs (gs s2 19 w' (km kd)) 15 5 ((w' + 1 : Nat) : Int)) 15 7 0) 15 8 17) (c + 11) = s2 (c + 11) := by rw [gs_ne (hcc 11 (by decide)).1, gs_ne (hcc 11 (by decide)).1, gs_ne (hcc 11 (by decide)).1, gs_ne (hcc 11 (by decide)).2]
      have eo : oRf (gs H 64 11 ((t + 1 : Nat) : Int)) = oRf H := by unfold oRf; rw [gs_ne (by decide)]
      have el : lRf (gs H 64 11 ((t + 1 : Nat) : Int)) va mk = lRf H va mk := by unfold lRf; rw [gs_ne (by decide), gs_ne (by decide), gs_ne (by decide), gs_ne (by decide), gs_ne (by decide), gs_ne (by decide)]
      rw [e11, eo, el]
      exact q
end CDM
