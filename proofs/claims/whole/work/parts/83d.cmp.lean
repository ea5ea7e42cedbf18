/-! ===== a comparison's end ===== -/
section CME
variable {c : Nat} {L : Int} {r : Nat → Int} {F : mG} {K S k P0 q0 l0 : Nat} {s0 H0 : mG} {t sh P qq l n1 : Nat} {s H s2 H2 : mG} {x : Int}
theorem cmp_end (hc : c = 40 ∨ c = 52) (hk : k < 40) (hS : S ≤ 1) (h : CI c L r F K S k P0 q0 l0 s0 H0 t sh P qq l s H) {t2 t3 n3 m3 : Nat} {s3 H3 : mG} {kd o : Int} (h11 : 11 ≤ kd ∧ kd ≤ 14) (hm : LM c L r F K S k P0 P qq sh n1 (km kd) s H t2 s2 H2) (ht : t < t2) (ht3 : t2 < t3) (hb : BeU c L r F K S k (P + n1) (qq + n1) (shW sh + 1) s2 H2 t3 s3 H3 n3 m3 0) (nop : ¬ (tkK (tb L r) (tkQ (tb L r) t3) = 8 ∨ tkK (tb L r) (tkQ (tb L r) t3) = 9 ∨ tkK (tb L r) (tkQ (tb L r) t3) = 10)) (ho : o = if shO sh = true then 1 else 0) :
    ∃ qq', LI c L r F K S k P0 q0 l0 s0 H0 t3 sh qq' l 21 s3 (stL (cO 0 m3 H3) (kd - 11) (H 64 39) ((700 * S + qq + n1 : Nat) : Int) o S l) := by
  obtain ⟨hSM, hXI, hb1, hb2, hf1, hf2, hb3⟩ := hb
  obtain ⟨k1, k2, k3, k4, k5⟩ := h.cs0
  have hmm := XI_m hXI
  have hwl := shW_le (sh := sh)
  have h600 := hSM.2.2.2.1.2.2.2.1
  have hkm : km kd = 10 + (kd - 11) := by have := km_d kd; omega
  have hcr : crk (km kd) = 3 := by rw [crk_v, if_neg (by omega), if_neg (by omega), if_pos (by omega)]
  obtain ⟨cf1, cf2⟩ := cO_fr (z := 0) m3 H3
  have hq := h.hq
  have hl := h.hl
  have hcc := cne hc
  have hc0 : c ≠ 15 := (cne hc 0 (by decide)).1
  have r39 := h.r39
  have hb10 : s3 15 10 = s 15 10 := by rw [hf1 15 10 (nx15 hc (by decide))]; exact hm.b10.1
  have hb11 : s3 15 11 = s 15 11 := by rw [hf1 15 11 (nx15 hc (by decide))]; exact hm.b10.2
  -- all out, from any heap like s3
  have key : ∀ A : mG, (∀ k, k ≠ 20 → A k = s3 k) → ∀ x : Int, 1 ≤ x → x ≤ 4 → ∃ z : mG, e_X7_release c A x = rl c x (shW sh + 1) z ∧ XI c S k (P + n1) (qq + n1) (shW sh + 1) (n3 + m3) 0 0 1 z (cO 0 m3 H3) ∧ frm (insX c k (P + n1)) A z ∧ (∀ i, i < shW sh + 1 → z 19 i = s2 19 i) ∧ frm (insE S (qq + n1)) H3 (cO 0 m3 H3) := by
    intro A hA x hx1 hx4
    obtain ⟨n', z, o1, o2, o3, o4, o5, o6⟩ := XI_out (x := x) hc hk hS ⟨hx1, hx4⟩ (XI_A hXI hA hc) (by omega) (by omega) (by omega)
    subst o2
    exact ⟨z, o1, o3, o4, fun i hi => by rw [o6 i hi, hA 19 (by decide)]; exact hb3 i hi, o5⟩
  obtain ⟨z0, _, x0, _, _, fE⟩ := key s3 (fun _ _ => rfl) 1 (by decide) (by decide)
  have fHx : frm (insE S (qq + n1)) H2 (cO 0 m3 H3) := frm_tr hf2 fE
  have fHH : frm (insE S qq) H (cO 0 m3 H3) := frm_tr hm.fh (frm_mono fHx (fun a i hi => by unfold insE at *; omega))
  have hx39 := x0.cr
  generalize hHx : cO 0 m3 H3 = Hx at *
  have row2 : ∀ i, i < 700 * S + (qq + n1) → Hx 91 i = H2 91 i ∧ Hx 92 i = H2 92 i := fun i hi => ⟨fHx 91 i (by unfold insE; omega), fHx 92 i (by unfold insE; omega)⟩
  have rvL : ∀ va, ∃ v, rnR (Hx 91) (Hx 92) va (700 * S + qq) n1 = some [v] := by
    intro va
    rw [rnR_congr (cd := H2 91) (ci := H2 92) (fun i hi => row2 _ (by omega))]
    exact hm.rv va
  have rvR : ∀ va, ∃ v, rnR (Hx 91) (Hx 92) va (700 * S + (qq + n1)) (n3 + m3) = some [v] := by
    intro va
    obtain ⟨T, u1, u2⟩ := x0.rv va
    match T, u1, u2 with
    | [v], u1, _ => exact ⟨v, u1⟩
  have rV_of : ∀ (va : Nat → Int) (q n : Nat), (∃ v, rnR (Hx 91) (Hx 92) va q n = some [v]) → rnR (Hx 91) (Hx 92) va q n = some [rV (Hx 91) (Hx 92) va q n] := by
    intro va q n ⟨v, hv⟩
    unfold rV
    rw [hv]
  refine ⟨qq + n1 + (n3 + m3), mk_LI (t' := t3) (vf := fun va mk => if kd - 11 = 0 then decide (rV (Hx 91) (Hx 92) va (700 * S + qq) n1 = rV (Hx 91) (Hx 92) va (700 * S + (qq + n1)) (n3 + m3)) else if kd - 11 = 1 then decide (¬ rV (Hx 91) (Hx 92) va (700 * S + qq) n1 = rV (Hx 91) (Hx 92) va (700 * S + (qq + n1)) (n3 + m3)) else if kd - 11 = 2 then decide (rV (Hx 91) (Hx 92) va (700 * S + qq) n1 < rV (Hx 91) (Hx 92) va (700 * S + (qq + n1)) (n3 + m3)) else decide (rV (Hx 91) (Hx 92) va (700 * S + qq) n1 ≤ rV (Hx 91) (Hx 92) va (700 * S + (qq + n1)) (n3 + m3))) hS h (by omega) h600 ?_ (Or.inr ⟨rfl, ?_⟩) (fun _ => nop) ?_ ?_ ?_ ?_ ⟨by omega, by omega⟩ ?_ ?_ ?_ ?_ ?_ ?_ ?_ ho ?_ ?_⟩
  · exact SM_to hSM (fun a _ _ => cf1 a (by omega) (by omega) (by omega)) (cf2 11 (by decide) (by decide)) (cf2 13 (by decide) (by decide))
  · rw [hf1 15 7 (nx15 hc (by decide)), hm.rs]; decide
  · intro A hA x hx1 hx2
    obtain ⟨z, o1, o3, o4, o5, _⟩ := key A hA x hx1 (by omega)
    have ztop : z 19 (shW sh) = km kd := by rw [o5 _ (by omega)]; exact hm.top
    obtain ⟨g1, g2, g3, g4, g5, g6, g7⟩ := code_f (x := km kd) (y := 0) o3.cl (show P + n1 + (n3 + m3) < 600 by omega) o3.c12 hk
    have fsx := code_frm (x := km kd) (y := 0) (frm_rf (P := insX c k P0) (G := z)) o3.cl (show P + n1 + (n3 + m3) < 600 by omega) o3.c12 hk (by omega)
    have e15 : (e_X1_addCode c z (km kd) 0) 15 = z 15 := g7 15 (ne15 hc).1 (ne15 hc).2.1 (ne15 hc).2.2
    have e19 : (e_X1_addCode c z (km kd) 0) 19 = z 19 := g7 19 (ne19 hc).1 (ne19 hc).2.1 (ne19 hc).2.2
    have fz : frm (insX c k (P + n1)) s2 z := frm_tr (frX_A hf1 hA) o4
    refine ⟨gs (e_X1_addCode c z (km kd) 0) 15 5 ((shW sh : Nat) : Int), P + n1 + (n3 + m3) + 1, ?_, ⟨?_, ?_, ?_, gs_at _ _ _ _, by omega⟩, by omega, fun i hi => ?_, ?_, ?_, fun h0 E va mk hE => ?_⟩
    · rw [o1, rl_s, ztop, hcr, if_pos (by omega)]
    · rw [gs_ne hc0]; exact (g5 12 (by decide)).trans o3.c12
    · rw [gs_ne hc0]; exact g1
    · rw [gs_ne (hcc 10 (by decide)).1]; exact g2
    · rw [gs_ne (by decide), e19, o5 i (by omega), ← hb3 i (by omega)]
    · refine frm_gs (frm_tr (frm_tr (frm_row hA (fun _ => Or.inl rfl)) (frm_mono o4 (fun a i hi => by unfold insX at *; omega))) fsx) (Or.inr (Or.inr (Or.inl ⟨rfl, Or.inl rfl⟩)))
    · rw [gs_at_ne (by decide), e15, o3.dl, hXI.dl]
    · rw [hb10] at h0
      have hse := (h.sem h0 E va mk hE).1
      have h5 := hE.2.1
      rw [gs_ne (hcc 11 (by decide)).1]
      generalize e_X1_addCode c z (km kd) 0 = s5 at *
      have K0 : ∀ i, i < P → s5 (c + 11) i = s (c + 11) i := by
        intro i hi
        rw [g4 i (by omega), fz (c + 11) i (by unfold insX; omega)]
        exact hm.fs (c + 11) i (by unfold insC; omega)
      have K1 : ∀ i, i < n1 → s5 (c + 11) (P + i) = cmE (Hx 91 (700 * S + qq + i)) (Hx 92 (700 * S + qq + i)) ∧ okE (Hx 91 (700 * S + qq + i)) (Hx 92 (700 * S + qq + i)) := by
        intro i hi
        rw [g4 (P + i) (by omega), fz (c + 11) (P + i) (by unfold insX; omega), (row2 (700 * S + qq + i) (by omega)).1, (row2 (700 * S + qq + i) (by omega)).2]
        exact hm.co i hi
      have K2 : ∀ i, i < n3 + m3 → s5 (c + 11) (P + n1 + i) = cmE (Hx 91 (700 * S + (qq + n1) + i)) (Hx 92 (700 * S + (qq + n1) + i)) ∧ okE (Hx 91 (700 * S + (qq + n1) + i)) (Hx 92 (700 * S + (qq + n1) + i)) := by
        intro i hi
        rw [g4 (P + n1 + i) (by omega)]
        exact o3.co i hi
      have R0 : rnC E (s5 (c + 11)) P0 (P - P0) = stk sh (hR (oRf H) (lRf H va mk) (600 * S + l0) (l - l0)) := by
        rw [rnC_congr (fun i hi => K0 (P0 + i) (by omega))]; exact hse
      have R1 : rnC E (s5 (c + 11)) P0 (P - P0 + n1) = [rV (Hx 91) (Hx 92) va (700 * S + qq) n1] ++ stk sh (hR (oRf H) (lRf H va mk) (600 * S + l0) (l - l0)) := by
        rw [rnC_F, R0, show P0 + (P - P0) = P from by omega]
        refine rnF_seg h5 K1 (fun i hi => ?_) (by have := stk_len (sh := sh) (p := hR (oRf H) (lRf H va mk) (600 * S + l0) (l - l0)); omega) _ (rV_of va _ _ (rvL va))
        rw [rnR_congr (cd := H2 91) (ci := H2 92) (fun j hj => row2 _ (by omega))]
        exact hm.rp va i hi
      have R2 : rnC E (s5 (c + 11)) P0 (P - P0 + n1 + (n3 + m3)) = [rV (Hx 91) (Hx 92) va (700 * S + (qq + n1)) (n3 + m3)] ++ ([rV (Hx 91) (Hx 92) va (700 * S + qq) n1] ++ stk sh (hR (oRf H) (lRf H va mk) (600 * S + l0) (l - l0))) := by
        rw [rnC_F, R1, show P0 + (P - P0 + n1) = P + n1 from by omega]
        refine rnF_seg h5 K2 (fun i hi => o3.rp va i hi) ?_ _ (rV_of va _ _ (rvR va))
        have := stk_len (sh := sh) (p := hR (oRf H) (lRf H va mk) (600 * S + l0) (l - l0))
        simp
        omega
      rw [show P + n1 + (n3 + m3) + 1 - P0 = (P - P0 + n1 + (n3 + m3)) + 1 from by omega]
      show stC E (s5 (c + 11)) (P0 + (P - P0 + n1 + (n3 + m3))) (rnC E (s5 (c + 11)) P0 (P - P0 + n1 + (n3 + m3))) = _
      rw [R2, show P0 + (P - P0 + n1 + (n3 + m3)) = P + n1 + (n3 + m3) from by omega]
      unfold stC ckd cnm
      have e1 : w32 (w32 (km kd * 10000) + 0) = km kd * 10000 := by rw [w32_i (x := km kd * 10000) (by omega) (by omega), w32_i (by omega) (by omega)]; omega
      rw [g3, e1]
      obtain ⟨d1, d2⟩ := dv (x := km kd * 10000) (by omega)
      rw [d1, show km kd * 10000 / 10000 = km kd from by omega]
      show st1C (km kd) _ (rV (Hx 91) (Hx 92) va (700 * S + (qq + n1)) (n3 + m3) :: rV (Hx 91) (Hx 92) va (700 * S + qq) n1 :: stk sh (hR (oRf H) (lRf H va mk) (600 * S + l0) (l - l0))) = _
      rw [st1_op (by rw [hcr]; decide) (by have := stk_len (sh := sh) (p := hR (oRf H) (lRf H va mk) (600 * S + l0) (l - l0)); omega), cmp_v hkm (by omega)]
  · refine shB_to h.sb (fun i hi => ?_)
    rw [hb3 i (by omega)]
    exact hm.bas i hi
  · exact hXI.dl
  · rw [hx39]
    congr 1
    omega
  · rw [cf2 12 (by decide) (by decide)]; exact hXI.dr
  · exact frm_tr h.fs (frm_tr (frm_mono hm.fs (fun a i hi => by unfold insC at *; omega)) (frm_mono hf1 (insX_C (by omega))))
  · exact frm_tr h.fh (frm_mono fHH (insE_R hq.1))
  · rw [hb10, hb11, fHH 64 15 (by unfold insE; omega), fHH 64 16 (by unfold insE; omega)]; exact h.bqq
  · exact bmn_eq hb10 hb11
  · intro a i h1 h2 _
    exact fHH a i (by unfold insE; omega)
  · intro i hi
    exact ⟨fHH 91 i (by unfold insE; omega), fHH 92 i (by unfold insE; omega)⟩
  · obtain ⟨z1, z2, z3, z4, z5, z6⟩ := stL_at (H := Hx) (so := kd - 11) (a1 := H 64 39) (a2 := ((700 * S + qq + n1 : Nat) : Int)) (o := o) (S := S) (l := l)
    have c91 : (stL Hx (kd - 11) (H 64 39) ((700 * S + qq + n1 : Nat) : Int) o S l) 91 = Hx 91 := stL_cell (by omega)
    have c92 : (stL Hx (kd - 11) (H 64 39) ((700 * S + qq + n1 : Nat) : Int) o S l) 92 = Hx 92 := stL_cell (by omega)
    unfold LOK
    rw [z1, z2, z3, z4, c91, c92, r39, hx39, st_nat, st_nat, show (((700 * S + qq + n1 : Nat) : Int) - ((700 * S + qq : Nat) : Int)).toNat = n1 from by omega, show (((700 * S + (qq + n1) + (n3 + m3) : Nat) : Int) - ((700 * S + qq + n1 : Nat) : Int)).toNat = n3 + m3 from by omega, show 700 * S + qq + n1 = 700 * S + (qq + n1) from by omega]
    exact ⟨⟨by omega, by omega, by omega, by omega⟩, fun q => absurd q (by omega), fun _ => ⟨fun va => rV_of va _ _ (rvL va), fun va => rV_of va _ _ (rvR va)⟩⟩
  · intro va mk
    obtain ⟨z1, z2, z3, z4, z5, z6⟩ := stL_at (H := Hx) (so := kd - 11) (a1 := H 64 39) (a2 := ((700 * S + qq + n1 : Nat) : Int)) (o := o) (S := S) (l := l)
    have c91 : (stL Hx (kd - 11) (H 64 39) ((700 * S + qq + n1 : Nat) : Int) o S l) 91 = Hx 91 := stL_cell (by omega)
    have c92 : (stL Hx (kd - 11) (H 64 39) ((700 * S + qq + n1 : Nat) : Int) o S l) 92 = Hx 92 := stL_cell (by omega)
    unfold lRf litY
    rw [z1, z2, z3, z4, c91, c92, r39, hx39, st_nat, st_nat, show (((700 * S + qq + n1 : Nat) : Int) - ((700 * S + qq : Nat) : Int)).toNat = n1 from by omega, show (((700 * S + (qq + n1) + (n3 + m3) : Nat) : Int) - ((700 * S + qq + n1 : Nat) : Int)).toNat = n3 + m3 from by omega, if_neg (by omega), show 700 * S + qq + n1 = 700 * S + (qq + n1) from by omega]
end CME
