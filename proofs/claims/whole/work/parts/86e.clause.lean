/-! ===== wip/whole/gen86e.py: refund ===== -/
section CLR
variable {c : Nat} {L : Int} {r : Nat → Int} {F : mG} {K S : Nat} {G0 : mG} {t t1 n m p l qq q : Nat} {s H s1 H1 : mG} {Q : Option mV → mG → Prop} {cp : Int}
set_option maxHeartbeats 8000000 in
theorem cl_refund (hc : c = 40 ∨ c = 52) (hS : S ≤ 1) (hm : m < 40) (hn1 : 1 ≤ n) (h : J8 8 c L r F K S G0 t n m p l qq s H) (ho : OC c n m p 23 15 s s1) (hh : OH S n m l qq 3 H H1) (hs : SM c L r F K (t + 1) 15 s1 H1) (hB : ∀ H', BadF F S G0 H' → Q none H') (hQ : ∀ (t' p' l' qq' : Nat) (s' H' : mG), t < t' → J8 8 c L r F K S G0 t' n (m + 1) p' l' qq' s' H' → Q none H') : W2 o_X12 M_X12_tellClause (inN [64, 72, 73, 74, 75, 76, 77, 78, 79, 80, 81, 82, 83, 84, 85, 86, 87, 88, 89, 90, 91, 92, 93]) (q + 12) Q 434 [some (mR 69), some (mI cp), none, some (mI ((40 * S + m : Nat) : Int)), none, none, none, none] [] H1 := by
  have hT := hs.2.2.2.1
  have h11 := hT.2.1
  have h600 := hT.2.2.2.1
  have hj := h.jb
  have hbad : ∀ (M : mG), BadF F S G0 M → W2 o_X12 M_X12_tellClause (inN [64, 72, 73, 74, 75, 76, 77, 78, 79, 80, 81, 82, 83, 84, 85, 86, 87, 88, 89, 90, 91, 92, 93]) (q + 12) Q 451 [some (mR 69), some (mI cp), none, some (mI ((40 * S + m : Nat) : Int)), some (mI ((t + 1 : Nat) : Int)), none, none, none] [] M := fun M hM => tl_451 (by omega) (by omega) (fun _ => hB M hM) (fun q => absurd hM.1.1 (by omega))
  refine tl_434 (by omega) ?_
  rw [h11]
  rcases turn_must (k := 2) (X' := 16) hc hs (Fr_q hm h.fr hh.fh) (by decide) (by decide) (fun A kd hA => by rw [fol_15 hA, show km 2 = 3 from by decide]) (fun A hA => by rw [rom_c (by omega) (by omega), if_neg (fun q => absurd q.1 (by decide))]) (by decide) with hb | ⟨e0, e1, e2, e3, e4, A, a1, a2, a3, a4, a5⟩
  · rw [must_bad hb.1]
    exact hbad _ hb
  · rw [e1]
    rcases turn_must (k := 30) (X' := 17) hc a5 e3 (by decide) (by decide) (fun A kd hA => by rw [fol_16 hA, show km 30 = 24 from by decide]) (fun A hA => by rw [rom_c (by omega) (by omega), if_neg (fun q => absurd q.1 (by decide))]) (by decide) with hb | ⟨f0, f1, f2, f3, f4, A2, d1, d2, d3, d4, d5⟩
    · exact hbad _ hb
    · rw [f1]
      have hA8 : A 15 8 = 15 := by rw [a1 15 (by decide)]; exact hs.2.2.1
      have hA28 : A2 15 8 = 16 := by rw [d1 15 (by decide), gs_at]
      rw [note_16 hA28] at d5
      have hv := tkV_r (L := L) (r := r) rfl e0
      have hc20 : c ≠ 20 := by omega
      have en : f_X10_number A = tkV (tb L r) (tkQ (tb L r) (t + 1)) := a3 rfl
      have rk := rT_k hT
      rw [h11, st_nat] at rk
      have r69 : H1 69 (t + 1) = tkV (tb L r) (tkQ (tb L r) (t + 1)) := rk.2.2.1 e0
      have r68 : H1 68 (t + 1) = ((tkQ (tb L r) (t + 1) : Nat) : Int) := rk.2.1
      rw [note_15 hA8, en] at d1
      have hA15 : ∀ i, A 15 i = s1 15 i := fun i => by rw [a1 15 (by decide)]
      have x13 := d5.2.2.2.2
      have xT := d5.2.2.2.1
      have xfr := f3
      -- the heap where the reference goes on
      have g64 : ∀ i, i ≠ 11 → (gs (gs (gs H1 64 11 ((t + 1 + 1 : Nat) : Int)) 64 11 ((t + 1 + 1 + 1 : Nat) : Int)) 79 (40 * S + m) (tkV (tb L r) (tkQ (tb L r) (t + 1)))) 64 i = H1 64 i := fun i hi => by rw [gs_ne (by decide), gs_at_ne hi, gs_at_ne hi]
      have gne : ∀ a, a ≠ 64 → a ≠ 79 → (gs (gs (gs H1 64 11 ((t + 1 + 1 : Nat) : Int)) 64 11 ((t + 1 + 1 + 1 : Nat) : Int)) 79 (40 * S + m) (tkV (tb L r) (tkQ (tb L r) (t + 1)))) a = H1 a := fun a h1 h2 => by rw [gs_ne h2, gs_ne h1, gs_ne h1]
      have g79 : (gs (gs (gs H1 64 11 ((t + 1 + 1 : Nat) : Int)) 64 11 ((t + 1 + 1 + 1 : Nat) : Int)) 79 (40 * S + m) (tkV (tb L r) (tkQ (tb L r) (t + 1)))) 79 (40 * S + m) = tkV (tb L r) (tkQ (tb L r) (t + 1)) := gs_at _ _ _ _
      have g11 : (gs (gs (gs H1 64 11 ((t + 1 + 1 : Nat) : Int)) 64 11 ((t + 1 + 1 + 1 : Nat) : Int)) 79 (40 * S + m) (tkV (tb L r) (tkQ (tb L r) (t + 1)))) 64 11 = ((t + 1 + 1 + 1 : Nat) : Int) := by rw [gs_ne (by decide), gs_at]
      have gfh : frm (insQ S m l qq) H (gs (gs (gs H1 64 11 ((t + 1 + 1 : Nat) : Int)) 64 11 ((t + 1 + 1 + 1 : Nat) : Int)) 79 (40 * S + m) (tkV (tb L r) (tkQ (tb L r) (t + 1)))) := frm_gs (frm_gs (frm_gs hh.fh (insQ_64 (by decide))) (insQ_64 (by decide))) (by unfold insQ; omega)
      have gsm : SM c L r F K (t + 1 + 1 + 1) 17 (gs A2 15 8 17) (gs (gs (gs H1 64 11 ((t + 1 + 1 : Nat) : Int)) 64 11 ((t + 1 + 1 + 1 : Nat) : Int)) 79 (40 * S + m) (tkV (tb L r) (tkQ (tb L r) (t + 1)))) := SM_to d5 (fun k _ _ => gs_ne (by omega)) (by rw [gs_ne (by decide)]) (by rw [gs_ne (by decide)])
      refine tl_451 (by omega) (by omega) (fun y => absurd y (by omega)) (fun _ => ?_)
      rw [show (gs (gs H1 64 11 ((t + 1 + 1 : Nat) : Int)) 64 11 ((t + 1 + 1 + 1 : Nat) : Int)) 69 (t + 1) = tkV (tb L r) (tkQ (tb L r) (t + 1)) from by rw [gs_ne (by decide), gs_ne (by decide)]; exact r69]
      generalize (gs (gs (gs H1 64 11 ((t + 1 + 1 : Nat) : Int)) 64 11 ((t + 1 + 1 + 1 : Nat) : Int)) 79 (40 * S + m) (tkV (tb L r) (tkQ (tb L r) (t + 1)))) = M3 at *
      have hc1 : ∀ j, j < 12 → c + j ≠ 15 ∧ c + j ≠ 20 := fun j _ => by omega
      -- both ways go on alike
      have fin : ∀ (B Hw : mG), (∀ a, a ≠ 15 → a ≠ 20 → B a = s1 a) → (∀ i, i ≠ 8 → i ≠ 10 → i ≠ 11 → B 15 i = s1 15 i) → bmn s1 B → (B 15 10 = 0 → tkV (tb L r) (tkQ (tb L r) (t + 1)) ≤ 100) → (∀ k, k ≠ 20 → A2 k = (gs (e_X1_setAmount c B (tkV (tb L r) (tkQ (tb L r) (t + 1)))) 15 8 16) k) → (∀ a, a ≠ 64 → Hw a = M3 a) → (∀ i, i ≠ 15 → i ≠ 16 → Hw 64 i = M3 64 i) → bq (B 15 10) (B 15 11) (Hw 64 15) (Hw 64 16) → W2 o_X12 M_X12_tellClause (inN [64, 72, 73, 74, 75, 76, 77, 78, 79, 80, 81, 82, 83, 84, 85, 86, 87, 88, 89, 90, 91, 92, 93]) (q + 12) Q 490 [some (mR 69), some (mI cp), none, some (mI ((40 * S + m : Nat) : Int)), none, none, none, none] [] Hw := by
        intro B Hw q1 q2 q3 q4 q5 q6 q7 q8
        have b12 : B c 12 = ((m + 1 : Nat) : Int) := by rw [q1 c (hc1 0 (by decide)).1 (hc1 0 (by decide)).2]; exact ho.c12
        rw [setA_eq b12 hm] at q5
        have w15 : ∀ i, i ≠ 8 → (gs A2 15 8 17) 15 i = B 15 i := fun i hi => by rw [gs_at_ne hi, q5 15 (by decide), gs_at_ne hi, gs_ne (by omega)]
        have wa : ∀ a, a ≠ 15 → a ≠ 20 → a ≠ c + 6 → (gs A2 15 8 17) a = s1 a := fun a h1 h2 h3 => by rw [gs_ne h1, q5 a h2, gs_ne h1, gs_ne h3, q1 a h1 h2]
        have w6 : ∀ i, (gs A2 15 8 17) (c + 6) i = if i = m then tkV (tb L r) (tkQ (tb L r) (t + 1)) else s1 (c + 6) i := by
          intro i
          rw [gs_ne (hc1 6 (by decide)).1, q5 _ (hc1 6 (by decide)).2, gs_ne (hc1 6 (by decide)).1]
          by_cases z : i = m
          · rw [z, gs_at, if_pos rfl]
          · rw [gs_at_ne z, if_neg z, q1 _ (hc1 6 (by decide)).1 (hc1 6 (by decide)).2]
        have wc : ∀ j, j < 12 → j ≠ 6 → (gs A2 15 8 17) (c + j) = s1 (c + j) := fun j h1 h2 => wa _ (hc1 j h1).1 (hc1 j h1).2 (by omega)
        have wc0 : (gs A2 15 8 17) c = s1 c := wc 0 (by decide) (by decide)
        have wfs : frm (insK c m p) s (gs A2 15 8 17) := by
          refine frm_tr ho.fs (fun a i hi => ?_)
          by_cases y1 : a = 15
          · subst y1
            have hi2 : i ≠ 8 ∧ i ≠ 10 ∧ i ≠ 11 := by unfold insK at hi; omega
            rw [w15 i hi2.1]; exact q2 i hi2.1 hi2.2.1 hi2.2.2
          · by_cases y2 : a = 20
            · exact absurd (Or.inl y2) hi
            · by_cases y3 : a = c + 6
              · subst y3
                rw [w6, if_neg (fun z => hi (by unfold insK; omega))]
              · rw [wa a y1 y2 y3]
        have hOCC : OCC c L r F K S n m p l qq (t + 1 + 1 + 1) s H (gs A2 15 8 17) Hw := by
          refine ⟨SM_to gsm (fun k h1 h2 => q6 k (by omega)) (q7 11 (by decide) (by decide)) (q7 13 (by decide) (by decide)), ?_, ?_, ?_, ?_, ?_, ?_, ?_, ?_, ?_, wfs, ?_, ?_, ?_, ?_, ?_, ?_, ?_, ?_, ?_, Or.inr ⟨?_, ?_, ?_, ?_, fun z => ?_⟩⟩
          · rw [wc 5 (by decide) (by decide)]; exact ho.k5
          · rw [wc 9 (by decide) (by decide)]; exact ho.k9
          · rw [wc 10 (by decide) (by decide)]; exact ho.k10
          · rw [wc0]; exact ho.c11
          · rw [wc0]; exact ho.c12
          · rw [wc0]; exact ho.c13
          · rw [w15 5 (by decide), q2 5 (by decide) (by decide) (by decide)]; exact ho.w5
          · rw [w15 6 (by decide), q2 6 (by decide) (by decide) (by decide)]; exact ho.w6
          · rw [w15 7 (by decide), q2 7 (by decide) (by decide) (by decide)]; exact ho.w7
          · exact bmn_tr (bmn_tr (bmn_eq ho.b10.1 ho.b10.2) q3) (bmn_eq (w15 10 (by decide)) (w15 11 (by decide)))
          · rw [w15 10 (by decide), w15 11 (by decide)]; exact q8
          · rw [q6 78 (by decide), gne 78 (by decide) (by decide)]; exact hh.r78
          · rw [q6 82 (by decide), gne 82 (by decide) (by decide)]; exact hh.r82
          · refine frm_tr gfh (fun a i hi => ?_)
            by_cases y1 : a = 64
            · subst y1
              exact q7 i (fun z => hi (insQ_64 (by omega))) (fun z => hi (insQ_64 (by omega)))
            · rw [q6 a y1]
          · rw [q7 39 (by decide) (by decide), g64 39 (by decide)]; exact hh.r39
          · rw [q7 12 (by decide) (by decide), g64 12 (by decide)]; exact hh.r12
          · rw [q6 85 (by decide), gne 85 (by decide) (by decide)]; exact hh.r85
          · rw [q6 76 (by decide), gne 76 (by decide) (by decide)]; exact hh.r76
          · rw [q6 77 (by decide), gne 77 (by decide) (by decide)]; exact hh.r77
          · rw [wc 4 (by decide) (by decide)]; exact ho.k4
          · rw [q6 79 (by decide), g79, w6, if_pos rfl]
          · rw [w6, if_pos rfl]; exact hv.1
          · rw [w6, if_pos rfl]
            rw [w15 10 (by decide)] at z
            exact q4 z
        refine tl_490 (occ_cond hc hS hm h hOCC (by omega)) (fun H2 hR => ?_)
        exact occ_494 hc hS hm hn1 h hOCC (by omega) hB hQ hR
      have x13' : M3 64 13 = 0 := gsm.2.2.2.2
      refine tl_472 (by omega) (by omega) (fun y => ?_) (fun y => ?_)
      · rw [g79] at y
        rw [if_neg (by omega), blf_1] at d1
        obtain ⟨p1, p2, p3, p4⟩ := blame_bl (G := A) (x := 5) (y := f_X10_start A)
        have est : f_X10_start A = ((tkQ (tb L r) (t + 1) : Nat) : Int) := a2
        rw [est] at d1 p1 p2 p3 p4
        have hbq := hj.bqq
        rw [hA15, hA15, ho.b10.1, ho.b10.2] at p1 p2
        obtain ⟨v1, v2⟩ := wrong_bl (x := 5) (y := ((t + 1 : Nat) : Int)) x13'
        rw [st_nat, gne 68 (by decide) (by decide), r68, g64 15 (by decide), g64 16 (by decide), hh.b15.1, hh.b15.2] at v1 v2
        obtain ⟨w1, w2⟩ := fx_wrong M3 5 ((t + 1 : Nat) : Int)
        have hle := bl_le (f := s 15 10) (p := s 15 11) (x := 5) (y := ((tkQ (tb L r) (t + 1) : Nat) : Int)) hbq.2.2 (by decide)
        refine fin _ _ (fun a y1 y2 => by rw [p3 a y1, a1 a y2]) (fun i y1 y2 y3 => by rw [p4 i y2 y3]; exact hA15 i) ⟨fun z => ?_, fun z => ?_⟩ (fun z => ?_) d1 w1 w2 ?_
        · rw [p1] at z; omega
        · rw [p2, ho.b10.2]; rw [ho.b10.1] at z; exact hle.2.2 z
        · rw [p1] at z; omega
        · rw [p1, p2, v1, v2]; exact bl_bq hbq (by decide)
      · rw [g79] at y
        rw [if_pos y, blf_0] at d1
        refine fin A M3 (fun a y1 y2 => a1 a y2) (fun i _ _ _ => hA15 i) (bmn_eq (hA15 10) (hA15 11)) (fun _ => y) d1 (fun _ _ => rfl) (fun _ _ _ => rfl) ?_
        rw [hA15, hA15, ho.b10.1, ho.b10.2, g64 15 (by decide), g64 16 (by decide), hh.b15.1, hh.b15.2]; exact hj.bqq
end CLR
