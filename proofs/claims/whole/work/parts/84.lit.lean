/-! ===== wip/whole/gen84.py: a literal, walked ===== -/
section LTW
variable {c : Nat} {L : Int} {r : Nat → Int} {F : mG} {K S k P0 q0 l0 q : Nat} {s0 H0 : mG} {t sh P qq l : Nat} {s H : mG} {Q : Option mV → mG → Prop} {o a1 a2 so : Int}
theorem BdR_next (h : BdR F S q0 l0 H0 H) : BdR F S q0 l0 H0 (e_X12_next H) := by
  obtain ⟨h1, h2, h3, h4⟩ := h
  have hp := h1.1
  unfold e_X12_next
  by_cases z : H 64 11 = 600
  · rw [if_neg (fun y => y z), fail_bad hp]; exact ⟨h1, h2, h3, h4⟩
  · rw [if_pos z]
    refine ⟨Bad_to h1 (gs_at_ne (by decide)) (gs_at_ne (by decide)), frm_gs h2 (insR_64 (by decide)), ?_⟩
    rw [gs_at, w32_i (by omega) (by omega)]
    omega
theorem BdR_of {q1 : Nat} {G : mG} (hf : frm (insR S q0 l0) H0 G) (hq : q0 ≤ q1) (h : BdU F S q1 G H) : BdR F S q0 l0 H0 H := ⟨h.1, frm_tr hf (frm_mono h.2.1 (insE_R hq)), h.2.2.1, h.2.2.2⟩
theorem ex_badP {Q' : Option mV → mG → Prop} (h : BdR F S q0 l0 H0 H) (hQ : ∀ H', BdR F S q0 l0 H0 H' → Q' none H') : P2 (inN [64, 72, 73, 74, 75, 76, 77, 78, 79, 80, 81, 82, 83, 84, 85, 86, 87, 88, 89, 90, 91, 92, 93]) (q + 6) M_X12_expression [mR 69] H Q' := by
  refine ex_0 (q := q + 1) (fun _ hk => hk) ?_
  have hp := h.1.1
  refine ex_12b (by rw [gs_at_ne (by decide)]; omega) (hQ _ ⟨Bad_to h.1 (gs_at_ne (by decide)) (gs_at_ne (by decide)), frm_gs h.2.1 (insR_64 (by decide)), ?_⟩)
  rw [gs_at_ne (by decide)]
  exact h.2.2
/-- a fault stays to the literal's end -/
theorem lt_bad140 (h : BdR F S q0 l0 H0 H) (hQ : ∀ H', BdR F S q0 l0 H0 H' → Q none H') : W2 o_X12 M_X12_literal (inN [64, 72, 73, 74, 75, 76, 77, 78, 79, 80, 81, 82, 83, 84, 85, 86, 87, 88, 89, 90, 91, 92, 93]) (q + 7) Q 140 [some (mR 69), some (mI o), some (mI a1), some (mI a2), some (mI so), none] [] H :=
  lt_140 (R := BdR F S q0 l0 H0) (fun Q' hQ' => ex_badP h hQ') (fun H2 h2 => lt_144b h2.1.1 (hQ H2 h2))
/-- no sign of comparison behind the left side -/
theorem cmp_bad (hc : c = 40 ∨ c = 52) (h : CI c L r F K S k P0 q0 l0 s0 H0 t sh P qq l s H) {t1 n m : Nat} {s1 H1 : mG} (hb : BeU c L r F K S k P qq (shW sh) s H t1 s1 H1 n m 0) (nop : ¬ (tkK (tb L r) (tkQ (tb L r) t1) = 8 ∨ tkK (tb L r) (tkQ (tb L r) t1) = 9 ∨ tkK (tb L r) (tkQ (tb L r) t1) = 10)) (h11 : ¬ (11 ≤ tkK (tb L r) (tkQ (tb L r) t1) ∧ tkK (tb L r) (tkQ (tb L r) t1) ≤ 14)) : Sto (tb L r) F t1 1 := by
  obtain ⟨hSM, hXI, hb1, hb2, hf1, hf2, hb3⟩ := hb
  have hX8 := hSM.2.2.1
  have h157 : s1 15 7 = 0 := by
    rw [hf1 15 7 (nx15 hc (by decide))]; exact h.rs
  have hkk := tkK_r (tb L r) (tkQ (tb L r) t1)
  have kk := km_d (tkK (tb L r) (tkQ (tb L r) t1))
  have k78 : ¬ (km (tkK (tb L r) (tkQ (tb L r) t1)) = 7 ∨ km (tkK (tb L r) (tkQ (tb L r) t1)) = 8) := by omega
  have k9 : ¬ km (tkK (tb L r) (tkQ (tb L r) t1)) = 9 := by omega
  have k10 : ¬ (10 ≤ km (tkK (tb L r) (tkQ (tb L r) t1)) ∧ km (tkK (tb L r) (tkQ (tb L r) t1)) ≤ 13) := by omega
  clear kk hkk
  have hcr : crk (km (tkK (tb L r) (tkQ (tb L r) t1))) ≤ 2 := by
    rw [crk_v, if_neg k78, if_neg k9, if_neg k10]
    by_cases y2 : km (tkK (tb L r) (tkQ (tb L r) t1)) = 25
    · rw [if_pos y2]; decide
    · rw [if_neg y2]
      by_cases y3 : km (tkK (tb L r) (tkQ (tb L r) t1)) = 26
      · rw [if_pos y3]; decide
      · rw [if_neg y3]; decide
  obtain ⟨t1', _⟩ := turn (fo := -1) hc hSM (by decide) rfl (fun A hA => by rw [be_fol (by rw [hA 15 (by decide)]; exact hX8), if_neg (by omega), if_neg (by rw [hA 15 (by decide), hXI.dl]; decide), if_pos (by rw [hA 15 (by decide)]; exact h157), if_neg (by omega)])
  exact t1' rfl
/-- near -/
theorem lt_near (hc : c = 40 ∨ c = 52) (hk : k < 40) (hS : S ≤ 1) (h19 : H 64 19 = (S : Int)) (h : CI c L r F K S k P0 q0 l0 s0 H0 t sh P qq l s H) (ho : o = if shO sh = true then 1 else 0) (h33 : tkK (tb L r) (tkQ (tb L r) t) = 33) (hB : ∀ H', BdR F S q0 l0 H0 H' → Q none H') (hQ : ∀ (t' qq' : Nat) (X : Int) (s' H' : mG), t < t' → LI c L r F K S k P0 q0 l0 s0 H0 t' sh qq' l X s' H' → Q none H') : W2 o_X12 M_X12_literal (inN [64, 72, 73, 74, 75, 76, 77, 78, 79, 80, 81, 82, 83, 84, 85, 86, 87, 88, 89, 90, 91, 92, 93]) (q + 7) Q 22 [some (mR 69), some (mI o), some (mI (H 64 39)), some (mI (H 64 39)), some (mI 4), none] [] H := by
  have hSM := h.sm
  obtain ⟨hcs, hF, hX8, hT, h13⟩ := hSM
  have h11 := hT.2.1
  have h600 := hT.2.2.2.1
  have hA8 : ∀ A : mG, (∀ k, k ≠ 20 → A k = s k) → A 15 8 = 17 := fun A hA => by rw [hA 15 (by decide)]; exact hX8
  obtain ⟨t1, t2, t3, t4, _⟩ := turn (fo := 18) hc ⟨hcs, hF, hX8, hT, h13⟩ (by decide) h33 (fun A hA => by rw [show km 33 = 27 from by decide, fol_17 (hA8 A hA), if_neg (fun q => q rfl)])
  have hbad : ∀ (i : Nat) (M : mG), i ≤ 600 → BdR F S q0 l0 H0 M → W2 o_X12 M_X12_literal (inN [64, 72, 73, 74, 75, 76, 77, 78, 79, 80, 81, 82, 83, 84, 85, 86, 87, 88, 89, 90, 91, 92, 93]) (q + 7) Q 37 [some (mR 69), some (mI o), some (mI (H 64 39)), some (mI (H 64 39)), some (mI 4), some (mI ((i : Nat) : Int))] [] M := fun i M hi hM => lt_37 hi (fun _ => hB M hM) (fun q => absurd hM.1.1 (by omega)) (fun q => absurd hM.1.1 (by omega))
  refine lt_22 (by omega) ?_
  by_cases z6 : t = 600
  · have hb := BdR_fail (S := S) (by decide) (t2 (by decide) (by decide) z6) hT h13 h.fh
    rw [nx_end h11 z6, must_bad hb.1, (fx_fail H 2).1, h11]
    exact hbad t _ h600 hb
  · rw [nx_go h11 (by omega), gs_at]
    obtain ⟨A, b1, b2, b3, b4, b5, b6⟩ := t4 (by decide) (by decide) (by omega) (fun A hA => by rw [rom_c (by rw [hA8 A hA]; decide) (by rw [hA8 A hA]; decide), if_neg (fun q => absurd q.1 (by decide))])
    rw [note_17 (hA8 A b1), show km 33 = 27 from by decide, unit_near] at b5 b6
    have hT1 : rT (tb L r) K (t + 1) (gs H 64 11 ((t + 1 : Nat) : Int)) := rT_nx hT (by omega) (by omega) (fun k _ _ => gs_ne (by omega)) (gs_at _ _ _ _)
    have h131 : (gs H 64 11 ((t + 1 : Nat) : Int)) 64 13 = 0 := by rw [gs_at_ne (by decide)]; exact h13
    have hfh : frm (insR S q0 l0) H0 (gs H 64 11 ((t + 1 : Nat) : Int)) := frm_gs h.fh (insR_64 (by decide))
    have hm8 : ∀ M : mG, (∀ k, k ≠ 20 → M k = (gs A 15 8 18) k) → M 15 8 = 18 := fun M hM => by rw [hM 15 (by decide), gs_at]
    have hkk := tkK_r (tb L r) (tkQ (tb L r) (t + 1))
    have fis := fa_X12_is (gs H 64 11 ((t + 1 : Nat) : Int)) 2
    rw [(rT_k hT1).1] at fis
    have hkm3 : km (tkK (tb L r) (tkQ (tb L r) (t + 1))) = 3 ↔ tkK (tb L r) (tkQ (tb L r) (t + 1)) = 2 := by have := km_d (tkK (tb L r) (tkQ (tb L r) (t + 1))); omega
    obtain ⟨u1, u2, u3, u4, _⟩ := turn (fo := if tkK (tb L r) (tkQ (tb L r) (t + 1)) = 2 then 19 else -1) hc ⟨b5, b6, gs_at _ _ _ _, hT1, h131⟩ (by decide) rfl (fun M hM => by
      rw [fol_18 (hm8 M hM), step_eq]
      by_cases y : tkK (tb L r) (tkQ (tb L r) (t + 1)) = 2
      · rw [if_pos (hkm3.mpr y), if_pos y]
      · rw [if_neg (fun q => y (hkm3.mp q)), if_neg y])
    clear t1 t2 t3 t4
    by_cases y2 : tkK (tb L r) (tkQ (tb L r) (t + 1)) = 2
    · rw [if_pos y2] at u1 u2 u3 u4
      have em : e_X12_must (gs H 64 11 ((t + 1 : Nat) : Int)) 2 = e_X12_next (gs H 64 11 ((t + 1 : Nat) : Int)) := by unfold e_X12_must; rw [if_neg (by omega)]
      rw [em]
      by_cases z7 : t + 1 = 600
      · rw [nx_end hT1.2.1 z7]
        exact hbad (t + 1) _ (by omega) (BdR_fail (by decide) (u2 (by decide) (by decide) z7) hT1 h131 hfh)
      · rw [nx_go hT1.2.1 (by omega)]
        obtain ⟨A2, d1, d2, d3, d4, d5, d6⟩ := u4 (by decide) (by omega) (by omega) (fun M hM => by rw [rom_c (by rw [hm8 M hM]; decide) (by rw [hm8 M hM]; decide), if_neg (fun q => absurd q.1 (by omega))])
        have hT2 : rT (tb L r) K (t + 1 + 1) (gs (gs H 64 11 ((t + 1 : Nat) : Int)) 64 11 ((t + 1 + 1 : Nat) : Int)) := rT_nx hT1 (by omega) (by omega) (fun k _ _ => gs_ne (by omega)) (gs_at _ _ _ _)
        have hv := tkV_r (L := L) (r := r) rfl y2
        have hv2 := d3 y2
        have hA2a : ∀ a, a ≠ 15 → a ≠ 20 → A2 a = s a := fun a y z => by rw [d1 a z, gs_ne y, b1 a z]
        have hA2b : ∀ i, i ≠ 8 → A2 15 i = s 15 i := fun i y => by rw [d1 15 (by decide), gs_at_ne y, b1 15 (by decide)]
        have r69 : (gs (gs H 64 11 ((t + 1 : Nat) : Int)) 64 11 ((t + 1 + 1 : Nat) : Int)) 69 (t + 1) = tkV (tb L r) (tkQ (tb L r) (t + 1)) := by
          have e := (rT_k hT1).2.2.1 y2
          rw [hT1.2.1, st_nat] at e
          rw [gs_ne (by decide)]; exact e
        have r68 : (gs (gs H 64 11 ((t + 1 : Nat) : Int)) 64 11 ((t + 1 + 1 : Nat) : Int)) 68 (t + 1) = ((tkQ (tb L r) (t + 1) : Nat) : Int) := by
          have e := (rT_k hT1).2.1
          rw [hT1.2.1, st_nat] at e
          rw [gs_ne (by decide)]; exact e
        rw [note_18 (hm8 A2 d1)] at d5 d6
        have en : f_X10_number A2 = tkV (tb L r) (tkQ (tb L r) (t + 1)) := hv2
        rw [en] at d5 d6
        have c39 : (gs (gs H 64 11 ((t + 1 : Nat) : Int)) 64 11 ((t + 1 + 1 : Nat) : Int)) 64 39 = ((700 * S + qq : Nat) : Int) := by rw [gs_at_ne (by decide), gs_at_ne (by decide)]; exact h.r39
        have hq := h.hq
        have hl := h.hl
        have c132 : (gs (gs H 64 11 ((t + 1 : Nat) : Int)) 64 11 ((t + 1 + 1 : Nat) : Int)) 64 13 = 0 := by rw [gs_at_ne (by decide)]; exact h131
        have hrow : ∀ a, a ≠ 64 → (gs (gs H 64 11 ((t + 1 : Nat) : Int)) 64 11 ((t + 1 + 1 : Nat) : Int)) a = H a := fun a y => by rw [gs_ne y, gs_ne y]
        have h64 : ∀ i, i ≠ 11 → (gs (gs H 64 11 ((t + 1 : Nat) : Int)) 64 11 ((t + 1 + 1 : Nat) : Int)) 64 i = H 64 i := fun i y => by rw [gs_at_ne y, gs_at_ne y]
        generalize (gs (gs H 64 11 ((t + 1 : Nat) : Int)) 64 11 ((t + 1 + 1 : Nat) : Int)) = H2 at *
        -- both ways end alike
        have fin : ∀ (B Hw : mG), (∀ a, a ≠ 15 → a ≠ 20 → B a = s a) → (∀ i, i ≠ 8 → i ≠ 10 → i ≠ 11 → B 15 i = s 15 i) → bmn s B → (B 15 10 = 0 → tkV (tb L r) (tkQ (tb L r) (t + 1)) ≤ 7) → cs c L r (t + 1 + 1) (gs (e_X1_addCode c B 27 (tkV (tb L r) (tkQ (tb L r) (t + 1)))) 15 8 19) → pfin c (601 - (t + 1 + 1)) (t + 1 + 1) (gs (e_X1_addCode c B 27 (tkV (tb L r) (tkQ (tb L r) (t + 1)))) 15 8 19) = F → (∀ a, a ≠ 64 → Hw a = H2 a) → (∀ i, i ≠ 15 → i ≠ 16 → Hw 64 i = H2 64 i) → bq (B 15 10) (B 15 11) (Hw 64 15) (Hw 64 16) → W2 o_X12 M_X12_literal (inN [64, 72, 73, 74, 75, 76, 77, 78, 79, 80, 81, 82, 83, 84, 85, 86, 87, 88, 89, 90, 91, 92, 93]) (q + 7) Q 64 [some (mR 69), some (mI o), some (mI (H 64 39)), some (mI (H 64 39)), some (mI 4), some (mI ((t + 1 : Nat) : Int))] [] Hw := by
          intro B Hw g1 g2 g3 g4 g5 g6 g7 g8 g9
          have w39 : Hw 64 39 = ((700 * S + qq : Nat) : Int) := by rw [g8 39 (by decide) (by decide)]; exact c39
          refine lt_64 (by omega) (by rw [w39]; omega) ?_
          rw [g7 69 (by decide), r69]
          have hLI := near_end (o := o) hc hk hS h (B := B) (Hw := Hw) (v := tkV (tb L r) (tkQ (tb L r) (t + 1))) (by omega) g1 g2 g3 hv g4 ⟨g5, g6, gs_at _ _ _ _, rT_to hT2 (fun a y1 y2 => g7 a (by omega)) (g8 11 (by decide) (by decide)), by rw [g8 13 (by decide) (by decide)]; exact c132⟩ (fun a y => by rw [g7 a y]; exact hrow a y) (fun i y1 y2 y3 => by rw [g8 i y2 y3]; exact h64 i y1) g9 ho
          obtain ⟨f1, f2, f3, f4, f5, f6⟩ := emit_f (x := 0) (y := tkV (tb L r) (tkQ (tb L r) (t + 1))) w39 (by omega)
          have x19 : (e_X12_emit Hw 0 (tkV (tb L r) (tkQ (tb L r) (t + 1)))) 64 19 = (S : Int) := by rw [f5 19 (by decide), g8 19 (by decide) (by decide), h64 19 (by decide)]; exact h19
          have x85 : (e_X12_emit Hw 0 (tkV (tb L r) (tkQ (tb L r) (t + 1)))) 85 S = (l : Int) := by rw [f6 85 (by decide) (by decide) (by decide), g7 85 (by decide), hrow 85 (by decide)]; exact h.r85
          have x13 : (e_X12_emit Hw 0 (tkV (tb L r) (tkQ (tb L r) (t + 1)))) 64 13 = 0 := by rw [f5 13 (by decide), g8 13 (by decide) (by decide)]; exact c132
          generalize e_X12_emit Hw 0 (tkV (tb L r) (tkQ (tb L r) (t + 1))) = Hx at *
          refine lt_144 ?_ (by omega) (by rw [x19, st_nat, x85]; omega) (fun y => absurd y (by omega)) (fun _ => ?_)
          · rw [ho]; cases shO sh <;> decide
          · rw [stL_eq x19 hS x85 (by omega)]
            exact hQ _ _ _ _ _ (by omega) hLI
        refine lt_37 (by omega) (fun y => absurd y (by omega)) (fun _ y => ?_) (fun _ y => ?_)
        · rw [r69] at y
          rw [if_neg (by omega)] at d5 d6
          obtain ⟨p1, p2, p3, p4⟩ := blame_bl (G := A2) (x := 5) (y := ((tkQ (tb L r) (t + 1) : Nat) : Int))
          have eb : e_X7_blameIf A2 1 5 = e_X7_blame A2 5 ((tkQ (tb L r) (t + 1) : Nat) : Int) := by
            unfold e_X7_blameIf
            rw [if_neg (by decide)]
            unfold f_X10_start
            rw [d2]
          rw [eb] at d5 d6
          have hbq := h.bqq
          rw [hA2b 10 (by decide), hA2b 11 (by decide)] at p1 p2
          obtain ⟨v1, v2⟩ := wrong_bl (x := 5) (y := ((t + 1 : Nat) : Int)) c132
          rw [st_nat, r68, h64 15 (by decide), h64 16 (by decide)] at v1 v2
          obtain ⟨w1, w2⟩ := fx_wrong H2 5 ((t + 1 : Nat) : Int)
          have hle := bl_le (f := s 15 10) (p := s 15 11) (x := 5) (y := ((tkQ (tb L r) (t + 1) : Nat) : Int)) hbq.2.2 (by decide)
          refine fin _ _ (fun a y1 y2 => by rw [p3 a y1]; exact hA2a a y1 y2) (fun i y1 y2 y3 => by rw [p4 i y2 y3]; exact hA2b i y1) ⟨fun q => ?_, fun q => ?_⟩ (fun q => ?_) d5 d6 w1 w2 ?_
          · rw [p1] at q; omega
          · rw [p2]; exact hle.2.2 q
          · rw [p1] at q; omega
          · rw [p1, p2, v1, v2]; exact bl_bq hbq (by decide)
        · rw [r69] at y
          rw [if_pos y] at d5 d6
          have eb : e_X7_blameIf A2 0 5 = A2 := by unfold e_X7_blameIf; rw [if_pos rfl]
          rw [eb] at d5 d6
          refine fin A2 H2 hA2a (fun i y1 _ _ => hA2b i y1) (bmn_eq (hA2b 10 (by decide)) (hA2b 11 (by decide))) (fun _ => y) d5 d6 (fun _ _ => rfl) (fun _ _ _ => rfl) ?_
          rw [hA2b 10 (by decide), hA2b 11 (by decide), h64 15 (by decide), h64 16 (by decide)]; exact h.bqq
    · rw [if_neg y2] at u1
      have em : e_X12_must (gs H 64 11 ((t + 1 : Nat) : Int)) 2 = e_X12_fail (gs H 64 11 ((t + 1 : Nat) : Int)) 1 := by unfold e_X12_must; rw [if_pos (by omega)]
      rw [em]
      exact hbad (t + 1) _ (by omega) (BdR_fail (by decide) (u1 rfl) hT1 h131 hfh)
end LTW
