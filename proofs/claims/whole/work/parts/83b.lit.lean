/-! ===== near, and a comparison: a literal's words and its weight ===== -/
section NEA
variable {c : Nat} {L : Int} {r : Nat → Int} {F : mG} {K S k P0 q0 l0 : Nat} {s0 H0 : mG} {t sh P qq l : Nat} {s H : mG}
theorem near_end (hc : c = 40 ∨ c = 52) (hk : k < 40) (hS : S ≤ 1) (h : CI c L r F K S k P0 q0 l0 s0 H0 t sh P qq l s H) {B Hw : mG} {v o : Int} (ht : t + 2 ≤ 600) (hB : ∀ a, a ≠ 15 → a ≠ 20 → B a = s a) (hB15 : ∀ i, i ≠ 8 → i ≠ 10 → i ≠ 11 → B 15 i = s 15 i) (hbm : bmn s B) (hv : 0 ≤ v ∧ v ≤ 9999) (hv7 : B 15 10 = 0 → v ≤ 7) (hsm : SM c L r F K (t + 2) 19 (gs (e_X1_addCode c B 27 v) 15 8 19) Hw) (hW : ∀ a, a ≠ 64 → Hw a = H a) (hW64 : ∀ i, i ≠ 11 → i ≠ 15 → i ≠ 16 → Hw 64 i = H 64 i) (hbq : bq (B 15 10) (B 15 11) (Hw 64 15) (Hw 64 16)) (ho : o = if shO sh = true then 1 else 0) :
    LI c L r F K S k P0 q0 l0 s0 H0 (t + 2) sh (qq + 1) l 19 (gs (e_X1_addCode c B 27 v) 15 8 19) (stL (e_X12_emit Hw 0 v) 4 (H 64 39) (H 64 39) o S l) := by
  obtain ⟨k1, k2, k3, k4, k5⟩ := h.cs0
  have hp := h.hp
  have hq := h.hq
  have hl := h.hl
  have hcc := cne hc
  have hc0 : c ≠ 15 ∧ c ≠ 20 := by omega
  have hc20 : c + 10 ≠ 20 ∧ c + 11 ≠ 20 := by omega
  have r39 := h.r39
  have b12 : B c 12 = ((k + 1 : Nat) : Int) := by rw [hB c hc0.1 hc0.2]; exact k1
  have b13 : B c 13 = (P : Int) := by rw [hB c hc0.1 hc0.2]; exact k2
  have b11 : B (c + 11) = s (c + 11) := hB _ (hcc 11 (by decide)).1 hc20.2
  have w39 : Hw 64 39 = ((700 * S + qq : Nat) : Int) := by rw [hW64 39 (by decide) (by decide) (by decide)]; exact r39
  obtain ⟨g1, g2, g3, g4, g5, g6, g7⟩ := code_f (x := 27) (y := v) b13 (show P < 600 by omega) b12 hk
  obtain ⟨f1, f2, f3, f4, f5, f6⟩ := emit_f (x := 0) (y := v) w39 (by omega)
  have fsx := code_frm (x := 27) (y := v) (frm_rf (P := insX c k P0) (G := B)) b13 (show P < 600 by omega) b12 hk k5
  have g3b : (e_X1_addCode c B 27 v) (c + 11) P = 270000 + v := by rw [g3, show w32 (27 * 10000) = 270000 from by decide, w32_i (by omega) (by omega)]
  generalize e_X1_addCode c B 27 v = s1 at *
  generalize e_X12_emit Hw 0 v = Hx at *
  have e15 : s1 15 = B 15 := g7 15 (ne15 hc).1 (ne15 hc).2.1 (ne15 hc).2.2
  have e19 : s1 19 = s 19 := by rw [g7 19 (ne19 hc).1 (ne19 hc).2.1 (ne19 hc).2.2, hB 19 (by decide) (by decide)]
  have x15 : ∀ i, i ≠ 8 → (gs s1 15 8 19) 15 i = B 15 i := fun i hi => by rw [gs_at_ne hi, e15]
  have xc : ∀ a, a ≠ 15 → (gs s1 15 8 19) a = s1 a := fun a ha => gs_ne ha
  refine mk_LI (t' := t + 2) (qq' := qq + 1) (vf := fun va mk => decide (mAnd (mShr mk v) 1 = 1)) hS h (by omega) ht (SM_to hsm (fun a _ _ => f6 a (by omega) (by omega) (by omega)) (f5 11 (by decide)) (f5 13 (by decide))) (Or.inl rfl) (fun q => absurd q (by decide)) ?_ ?_ ?_ f1 ⟨by omega, by omega⟩ ?_ ?_ ?_ ?_ ?_ ?_ ?_ ho ?_ ?_
  · intro A hA x h1 h2
    have a15 : ∀ i, i ≠ 8 → A 15 i = B 15 i := fun i hi => by rw [hA 15 (by decide)]; exact x15 i hi
    have a5 : A 15 5 = ((shW sh : Nat) : Int) := by rw [a15 5 (by decide), hB15 5 (by decide) (by decide) (by decide)]; exact k4
    have hwl := shW_le (sh := sh)
    refine ⟨A, P + 1, release_rl a5 (by omega), ⟨?_, ?_, ?_, a5, by omega⟩, by omega, fun i _ => by rw [hA 19 (by decide)], frm_row hA (fun _ => Or.inl rfl), by rw [hA 15 (by decide)], fun h0 E va mk hE => ?_⟩
    · rw [hA c hc0.2, xc c hc0.1, g5 12 (by decide)]; exact b12
    · rw [hA c hc0.2, xc c hc0.1]; exact g1
    · rw [hA _ hc20.1, xc _ (hcc 10 (by decide)).1]; exact g2
    · rw [x15 10 (by decide)] at h0
      have hv8 := hv7 h0
      have hse := (h.sem (hbm.1 h0) E va mk hE).1
      rw [hA _ hc20.2, xc _ (hcc 11 (by decide)).1, show P + 1 - P0 = (P - P0) + 1 from by omega]
      show stC E (s1 (c + 11)) (P0 + (P - P0)) (rnC E (s1 (c + 11)) P0 (P - P0)) = _
      rw [rnC_congr (fun i hi => by rw [g4 (P0 + i) (by omega), b11]), hse, show P0 + (P - P0) = P from by omega]
      unfold stC ckd cnm
      obtain ⟨d1, d2⟩ := dv (x := s1 (c + 11) P) (by rw [g3b]; omega)
      rw [d1, d2, g3b, show (270000 + v) / 10000 = 27 from by omega, show (270000 + v) % 10000 = v from by omega, st1_push (crk_0 (by decide)) (by have := stk_len (sh := sh) (p := hR (oRf H) (lRf H va mk) (600 * S + l0) (l - l0)); omega)]
      have ev : cva E 27 v = mAnd (mUshr (E 4) v) 1 := by unfold cva; rw [if_neg (by decide), if_pos rfl]
      rw [ev, hE.2.2, near_v hE.1 ⟨hv.1, hv8⟩]
  · rw [xc 19 (by decide), e19]; exact h.sb
  · rw [x15 6 (by decide), hB15 6 (by decide) (by decide) (by decide)]; exact h.d0
  · rw [f5 12 (by decide), hW64 12 (by decide) (by decide) (by decide)]; exact h.ro
  · refine frm_gs (frm_tr h.fs (frm_tr (H := B) ?_ (frm_mono fsx (insX_C (Nat.le_refl P0))))) (Or.inr (Or.inr (Or.inl ⟨rfl, by decide⟩)))
    intro a i hi
    by_cases y : a = 20
    · exact absurd (Or.inl y) hi
    · by_cases y2 : a = 15
      · subst y2
        refine hB15 i (fun q => hi ?_) (fun q => hi ?_) (fun q => hi ?_)
        · exact Or.inr (Or.inr (Or.inl ⟨rfl, by omega⟩))
        · exact Or.inr (Or.inr (Or.inl ⟨rfl, by omega⟩))
        · exact Or.inr (Or.inr (Or.inl ⟨rfl, by omega⟩))
      · rw [hB a y2 y]
  · intro a i hi
    have e1 : Hx a i = Hw a i := by
      by_cases y : a = 64
      · subst y
        exact f5 i (fun q => hi (insR_64 (by omega)))
      · by_cases y2 : a = 91 ∨ a = 92
        · by_cases y3 : i = 700 * S + qq
          · exfalso
            refine hi ?_
            unfold insR
            omega
          · rcases y2 with q | q <;> subst q
            · exact (f4 i y3).1
            · exact (f4 i y3).2
        · rw [f6 a y (fun q => y2 (Or.inl q)) (fun q => y2 (Or.inr q))]
    rw [e1]
    by_cases y : a = 64
    · subst y
      rw [hW64 i (fun q => hi (insR_64 (by omega))) (fun q => hi (insR_64 (by omega))) (fun q => hi (insR_64 (by omega)))]
      exact h.fh _ _ hi
    · rw [hW a y]; exact h.fh _ _ hi
  · rw [x15 10 (by decide), x15 11 (by decide), f5 15 (by decide), f5 16 (by decide)]; exact hbq
  · refine ⟨fun h0 => hbm.1 (by rw [← x15 10 (by decide)]; exact h0), fun h0 => ?_⟩
    rw [x15 11 (by decide)]; exact hbm.2 h0
  · intro a i h1 h2 _
    rw [f6 a (by omega) (by omega) (by omega), hW a (by omega)]
  · intro i hi
    obtain ⟨u1, u2⟩ := f4 i (by omega)
    rw [u1, u2, hW 91 (by decide), hW 92 (by decide)]
    exact ⟨rfl, rfl⟩
  · obtain ⟨z1, z2, z3, z4, z5, z6⟩ := stL_at (H := Hx) (so := 4) (a1 := H 64 39) (a2 := H 64 39) (o := o) (S := S) (l := l)
    unfold LOK
    rw [z1, z2, z3, z4, r39, f1]
    exact ⟨⟨by omega, by omega, by omega, by omega⟩, fun _ => by omega, fun q => absurd rfl q⟩
  · intro va mk
    obtain ⟨z1, z2, z3, z4, z5, z6⟩ := stL_at (H := Hx) (so := 4) (a1 := H 64 39) (a2 := H 64 39) (o := o) (S := S) (l := l)
    have c92 : (stL Hx 4 (H 64 39) (H 64 39) o S l) 92 = Hx 92 := stL_cell (by omega)
    unfold lRf litY
    rw [z1, if_pos rfl, z2, c92, r39, st_nat, f3]
end NEA
