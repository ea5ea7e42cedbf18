/-! ===== a campaign, told by both ===== -/
section CMJ
variable {c : Nat} {L : Int} {r : Nat → Int} {F : mG} {K S : Nat} {G0 : mG} {t n m p l qq q : Nat} {s H : mG} {Q : Option mV → mG → Prop}
/-- what is told stays told -/
theorem JB_t {s' H' : mG} {t' : Nat} (hc : c = 40 ∨ c = 52) (h : JB c S (tb L r) n m p l qq t s H) (hs : ∀ a, a ≠ 15 → a ≠ 20 → s' a = s a) (h15 : ∀ i, i ≠ 8 → s' 15 i = s 15 i) (hH : ∀ a, a ≠ 64 → H' a = H a) (h64 : ∀ i, i ≠ 11 → H' 64 i = H 64 i) (ht : t ≤ t') : JB c S (tb L r) n m p l qq t' s' H' := by
  have hc1 : ∀ j, j < 12 → c + j ≠ 15 ∧ c + j ≠ 20 := fun j _ => by omega
  have ec : ∀ j, j < 12 → s' (c + j) = s (c + j) := fun j hj => hs _ (hc1 j hj).1 (hc1 j hj).2
  have e0 : s' c = s c := ec 0 (by decide)
  have e16 : s' 16 = s 16 := hs 16 (by decide) (by decide)
  have b10 := h15 10 (by decide)
  have b11 := h15 11 (by decide)
  have hp := h.hp
  refine ⟨h.hn, ⟨by omega, by omega, by omega⟩, by rw [e0]; exact h.c13, by rw [h64 39 (by decide)]; exact h.r39, by rw [hH 85 (by decide)]; exact h.r85, by rw [h15 5 (by decide)]; exact h.w5, by rw [h15 6 (by decide)]; exact h.d0, by rw [h64 12 (by decide)]; exact h.ro, fun x hx => by rw [hH 73 (by decide), e16]; exact h.nam x hx, fun x hx => by rw [hH 74 (by decide), hH 75 (by decide), ec 1 (by decide), ec 2 (by decide)]; exact h.fro x hx, fun k hk => ?_, fun i hi => by rw [ec 3 (by decide)]; exact h.apa i hi, by rw [b10, b11, h64 15 (by decide), h64 16 (by decide)]; exact h.bqq, ?_, fun o ho he => ?_, fun k hk w1 w2 => ?_⟩
  · exact CK_gr (h.cla k hk) (Nat.le_refl n) (Nat.le_refl p) (Nat.le_refl l) (Nat.le_refl qq) (fun a q1 q2 => by rw [ec a (by omega)]) (by rw [hs 17 (by decide) (by decide)]) (by rw [hs 18 (by decide) (by decide)]) (fun a q1 q2 => by rw [hH a (by omega)]) (fun i _ => by rw [ec 11 (by decide)]) (fun a i q1 q2 _ => by rw [hH a (by omega)]) (fun i _ => ⟨by rw [hH 91 (by decide)], by rw [hH 92 (by decide)]⟩) (hH 68 (by decide)) (hH 70 (by decide)) (fun z => by rw [← b10]; exact z)
  · rw [b10, ec 4 (by decide), ec 5 (by decide), ec 7 (by decide)]; exact h.uni
  · rw [e16] at he
    obtain ⟨d1, d2⟩ := h.dup o ho he
    have := tkP_mono (L := L) (r := r) ht
    rw [b10, b11]
    exact ⟨d1, by omega⟩
  · rw [ec 4 (by decide)] at w1
    rw [ec 5 (by decide), e16] at w2
    rw [b10, b11, hs 18 (by decide) (by decide)]
    exact h.dcl k hk w1 w2
set_option maxHeartbeats 8000000 in
/-- one campaign more on both sides -/
theorem camp_J8 {s' W0 V : mG} {t7 : Nat} {nm v1 v2 q3 : Int} {dd wl : Bool} (hc : c = 40 ∨ c = 52) (hS : S ≤ 1) (hn : n < 8) (h : J8 1 c L r F K S G0 t n m p l qq s H) (ht : t + 1 + 1 ≤ t7) (hk1 : ¬ tkK (tb L r) (tkQ (tb L r) (t + 1)) = 0) (hw : CW c n s s' v1 v2 nm ((n + 1 : Nat) : Int) (blP wl (blP dd (s 15 10, s 15 11) 3 ((tkQ (tb L r) (t + 1) : Nat) : Int)) 5 q3)) (hd : (∃ i : Nat, i < n ∧ s 16 i = nm) → dd = true) (W0r : ∀ a, a ≠ 64 → W0 a = H a) (W064 : ∀ i, i ≠ 11 → W0 64 i = H 64 i) (hr : RC S n W0 V nm v1 v2 (blP wl (blP dd (H 64 15, H 64 16) 3 ((tkQ (tb L r) (t + 1) : Nat) : Int)) 5 q3)) (hs : SM c L r F K t7 8 s' V) : J8 8 c L r F K S G0 t7 (n + 1) m p l qq s' V := by
  obtain ⟨f1, ⟨f2, f3, f4, f5⟩, f6, f7⟩ := hw
  obtain ⟨r1, r2, ⟨r3, r4, r5, r6⟩, r7, r8, r9⟩ := hr
  have hj := h.jb
  have hbq := hj.bqq
  have l1 := blP_le (w := dd) (q := (s 15 10, s 15 11)) (x := 3) (y := ((tkQ (tb L r) (t + 1) : Nat) : Int)) hbq.2.2 (by decide)
  have l2 := blP_le (w := wl) (q := blP dd (s 15 10, s 15 11) 3 ((tkQ (tb L r) (t + 1) : Nat) : Int)) (x := 5) (y := q3) l1.1 (by decide)
  have hbm : bmn s s' := by
    refine ⟨fun z => ?_, fun z => ?_⟩
    · rw [f6] at z
      exact (l1.2.1 (l2.2.1 z).2).2
    · rw [f7]
      exact Int.le_trans (l2.2.2 (fun y => z (l1.2.1 y).2)) (l1.2.2 z)
  have hblm : ¬ s 15 10 = 0 → ¬ s' 15 10 = 0 ∧ s' 15 11 ≤ s 15 11 := fun q => ⟨fun z => q (hbm.1 z), hbm.2 q⟩
  have hdn : dd = true → ¬ s' 15 10 = 0 ∧ s' 15 11 ≤ ((tkQ (tb L r) (t + 1) : Nat) : Int) := by
    intro e
    subst e
    have k1 := bl_le (f := s 15 10) (p := s 15 11) (x := 3) (y := ((tkQ (tb L r) (t + 1) : Nat) : Int)) hbq.2.2 (by decide)
    have k2 : ¬ (blP true (s 15 10, s 15 11) 3 ((tkQ (tb L r) (t + 1) : Nat) : Int)).1 = 0 := by
      show ¬ (bl (s 15 10) (s 15 11) 3 ((tkQ (tb L r) (t + 1) : Nat) : Int)).1 = 0
      omega
    refine ⟨fun z => ?_, ?_⟩
    · rw [f6] at z
      exact k2 (l2.2.1 z).2
    · rw [f7]
      exact Int.le_trans (l2.2.2 k2) k1.2.1
  have hcw : ∀ j i, 3 ≤ j → j ≤ 11 → ¬ insW c n (c + j) i := fun j i q1 q2 => by unfold insW; omega
  have hcw2 : ∀ j i, i ≠ n → j = 1 ∨ j = 2 → ¬ insW c n (c + j) i := fun j i q1 q2 => by unfold insW; omega
  have hcc : ∀ i, i ≠ 11 → ¬ insW c n c i := fun i q1 => by unfold insW; omega
  have ec : ∀ j, 3 ≤ j → j ≤ 11 → s' (c + j) = s (c + j) := fun j q1 q2 => funext (fun i => f1 _ _ (hcw j i q1 q2))
  have e16 : ∀ i, i ≠ n → s' 16 i = s 16 i := fun i hi => f1 16 i (by unfold insW; omega)
  have e15 : ∀ i, i ≠ 8 → i ≠ 10 → i ≠ 11 → s' 15 i = s 15 i := fun i q1 q2 q3 => f1 15 i (by unfold insW; omega)
  have e17 : s' 17 = s 17 := funext (fun i => f1 17 i (by unfold insW; omega))
  have e18 : s' 18 = s 18 := funext (fun i => f1 18 i (by unfold insW; omega))
  have er : ∀ a, a ≠ 64 → a ≠ 72 → a ≠ 73 → a ≠ 74 → a ≠ 75 → V a = H a := fun a q1 q2 q3 q4 q5 => by rw [r1 a q1 q2 q3 q4 q5, W0r a q1]
  have e64 : ∀ i, i ≠ 11 → i ≠ 15 → i ≠ 16 → V 64 i = H 64 i := fun i q1 q2 q3 => by rw [r2 i q2 q3, W064 i q1]
  have eo : ∀ i, i ≠ 8 * S + n → V 73 i = H 73 i ∧ V 74 i = H 74 i ∧ V 75 i = H 75 i := fun i hi => by
    have := r8 i hi
    rw [W0r 73 (by decide), W0r 74 (by decide), W0r 75 (by decide)] at this
    exact this
  have hp := hj.hp
  have hn8 := hj.hn
  refine ⟨hs, ?_, f5, by rw [f1 c 12 (hcc 12 (by decide))]; exact h.c12, r3, by rw [er 76 (by decide) (by decide) (by decide) (by decide) (by decide)]; exact h.r76, ?_, h.r19⟩
  · refine ⟨⟨by omega, hn8.2⟩, ⟨by omega, by omega, by omega⟩, by rw [f1 c 13 (hcc 13 (by decide))]; exact hj.c13, by rw [e64 39 (by decide) (by decide) (by decide)]; exact hj.r39, by rw [er 85 (by decide) (by decide) (by decide) (by decide) (by decide)]; exact hj.r85, by rw [e15 5 (by decide) (by decide) (by decide)]; exact hj.w5, by rw [e15 6 (by decide) (by decide) (by decide)]; exact hj.d0, by rw [e64 12 (by decide) (by decide) (by decide)]; exact hj.ro, fun x hx => ?_, fun x hx => ?_, fun k hk => ?_, fun i hi => by rw [ec 3 (by decide) (by decide)]; exact hj.apa i hi, ?_, ?_, fun o ho he => ?_, fun k hk w1 w2 => ?_⟩
    · by_cases z : x = n
      · subst z; rw [r4, f4]
      · rw [(eo (8 * S + x) (by omega)).1, e16 x z]; exact hj.nam x (by omega)
    · by_cases z : x = n
      · subst z; exact ⟨by rw [r5, f2], by rw [r6, f3]⟩
      · rw [(eo (8 * S + x) (by omega)).2.1, (eo (8 * S + x) (by omega)).2.2, f1 _ _ (hcw2 1 x z (Or.inl rfl)), f1 _ _ (hcw2 2 x z (Or.inr rfl))]; exact hj.fro x (by omega)
    · exact CK_gr (hj.cla k hk) (Nat.le_succ n) (Nat.le_refl p) (Nat.le_refl l) (Nat.le_refl qq) (fun a q1 q2 => by rw [ec a (by omega) (by omega)]) (by rw [e17]) (by rw [e18]) (fun a q1 q2 => by rw [er a (by omega) (by omega) (by omega) (by omega) (by omega)]) (fun i _ => by rw [ec 11 (by decide) (by decide)]) (fun a i q1 q2 _ => by rw [er a (by omega) (by omega) (by omega) (by omega) (by omega)]) (fun i _ => ⟨by rw [er 91 (by decide) (by decide) (by decide) (by decide) (by decide)], by rw [er 92 (by decide) (by decide) (by decide) (by decide) (by decide)]⟩) (er 68 (by decide) (by decide) (by decide) (by decide) (by decide)) (er 70 (by decide) (by decide) (by decide) (by decide) (by decide)) hbm.1
    · have g1 : V 64 15 = (blP wl (blP dd (H 64 15, H 64 16) 3 ((tkQ (tb L r) (t + 1) : Nat) : Int)) 5 q3).1 := congrArg Prod.fst r9
      have g2 : V 64 16 = (blP wl (blP dd (H 64 15, H 64 16) 3 ((tkQ (tb L r) (t + 1) : Nat) : Int)) 5 q3).2 := congrArg Prod.snd r9
      rw [f6, f7, g1, g2]
      exact blP_bq (blP_bq hbq (by decide)) (by decide)
    · rw [ec 4 (by decide) (by decide), ec 5 (by decide) (by decide), ec 7 (by decide) (by decide)]
      exact fun z => hj.uni (hbm.1 z)
    · obtain ⟨i, i1, i2⟩ := he
      have tm := tkP_mono (L := L) (r := r) (show t ≤ t7 by omega)
      by_cases z : o = n
      · subst z
        rw [f4, e16 i (by omega)] at i2
        obtain ⟨d1, d2⟩ := hdn (hd ⟨i, i1, i2⟩)
        have tl := tkP_lt (L := L) (r := r) hk1
        have tm2 := tkP_mono (L := L) (r := r) ht
        exact ⟨d1, by omega⟩
      · rw [e16 i (by omega), e16 o z] at i2
        obtain ⟨d1, d2⟩ := hj.dup o (by omega) ⟨i, i1, i2⟩
        obtain ⟨b1, b2⟩ := hblm d1
        exact ⟨b1, by omega⟩
    · rw [ec 4 (by decide) (by decide)] at w1
      rw [ec 5 (by decide) (by decide)] at w2
      obtain ⟨i, i1, i2⟩ := w2
      have ho := (hj.cla k hk).own
      rw [e16 i (by omega), e16 _ (by omega)] at i2
      obtain ⟨d1, d2⟩ := hj.dcl k hk w1 ⟨i, i1, i2⟩
      obtain ⟨b1, b2⟩ := hblm d1
      rw [e18]
      exact ⟨b1, by omega⟩
  · intro a i hi
    rw [← h.fr a i hi]
    by_cases z1 : a = 64
    · subst z1
      exact e64 i (fun z => hi (ins_64 (by omega))) (fun z => hi (ins_64 (by omega))) (fun z => hi (ins_64 (by omega)))
    · by_cases z2 : a = 72
      · subst z2
        rw [r7 i (fun z => hi (by unfold ins; omega)), W0r 72 (by decide)]
      · by_cases z3 : a = 73 ∨ a = 74 ∨ a = 75
        · have z4 : i ≠ 8 * S + n := fun z => hi (by unfold ins; omega)
          rcases z3 with w | w | w <;> subst w
          · exact (eo i z4).1
          · exact (eo i z4).2.1
          · exact (eo i z4).2.2
        · rw [er a z1 z2 (fun z => z3 (Or.inl z)) (fun z => z3 (Or.inr (Or.inl z))) (fun z => z3 (Or.inr (Or.inr z)))]
/-- a campaign's end -/
theorem camp_end (hc : c = 40 ∨ c = 52) (h : J8 8 c L r F K S G0 t n m p l qq s H) (h23 : tkK (tb L r) (tkQ (tb L r) t) = 23) : BadF F S G0 (e_X12_must H 23) ∨ ∃ s' : mG, J8 1 c L r F K S G0 (t + 1) n m p l qq s' (e_X12_must H 23) := by
  obtain ⟨hcs, hF, hX8, hT, h13⟩ := h.sm
  have h600 := hT.2.2.2.1
  have hA8 : ∀ A : mG, (∀ k, k ≠ 20 → A k = s k) → A 15 8 = 8 := fun A hA => by rw [hA 15 (by decide)]; exact hX8
  have fis := fa_X12_is H 23
  rw [(rT_k hT).1] at fis
  have em : e_X12_must H 23 = e_X12_next H := by unfold e_X12_must; rw [if_neg (by omega)]
  rw [em]
  obtain ⟨t1, t2, t3, t4, _⟩ := turn (fo := 1) hc ⟨hcs, hF, hX8, hT, h13⟩ (by decide) h23 (fun A hA => by rw [fol_8 (hA8 A hA), fC, show km 23 = 17 from by decide, if_pos rfl])
  by_cases z6 : t = 600
  · rw [nx_end hT.2.1 z6]
    exact Or.inl (BadF_fail (by decide) (t2 (by decide) (by decide) z6) hT h13 h.fr)
  · have t6 : t < 600 := by omega
    rw [nx_go hT.2.1 t6]
    obtain ⟨A, b1, b2, b3, b4, b5, b6⟩ := t4 (by decide) (by decide) t6 (fun A hA => by rw [rom_8 (hA8 A hA), show km 23 = 17 from by decide, if_pos rfl])
    have en : e_X7_note c A (km 23) = A := by
      rw [note_8 (hA8 A b1), show km 23 = 17 from by decide]
      unfold e_X7_noteClause
      rw [if_pos rfl]
    rw [en] at b5 b6
    have hk0 : ¬ tkK (tb L r) (tkQ (tb L r) t) = 0 := by omega
    have hc0 : c ≠ 15 ∧ c ≠ 20 := by omega
    have eA : ∀ a, a ≠ 15 → a ≠ 20 → (gs A 15 8 1) a = s a := fun a q1 q2 => by rw [gs_ne q1, b1 a q2]
    refine Or.inr ⟨gs A 15 8 1, ⟨b5, b6, gs_at _ _ _ _, rT_nx hT hk0 t6 (fun k _ _ => gs_ne (by omega)) (gs_at _ _ _ _), by rw [gs_at_ne (by decide)]; exact h13⟩, ?_, ?_, ?_, ?_, ?_, Fr_gs h.fr (ins_64 (by decide)), h.r19⟩
    · exact JB_t hc h.jb eA (fun i hi => by rw [gs_at_ne hi, b1 15 (by decide)]) (fun a ha => gs_ne ha) (fun i hi => gs_at_ne hi) (Nat.le_succ t)
    · rw [eA c hc0.1 hc0.2]; exact h.c11
    · rw [eA c hc0.1 hc0.2]; exact h.c12
    · rw [gs_ne (by decide)]; exact h.r72
    · rw [gs_ne (by decide)]; exact h.r76
/-- a campaign's first word -/
theorem turn_first (hc : c = 40 ∨ c = 52) (h : J8 1 c L r F K S G0 t n m p l qq s H) (h0 : ¬ tkK (tb L r) (tkQ (tb L r) t) = 0) :
    (tkK (tb L r) (tkQ (tb L r) t) = 20 → n = 8 → BadF F S G0 (e_X12_fail H 2)) ∧ (¬ (tkK (tb L r) (tkQ (tb L r) t) = 20 ∧ n = 8) → BadF F S G0 (e_X12_must H 20) ∨ (n < 8 ∧ e_X12_must H 20 = gs H 64 11 ((t + 1 : Nat) : Int) ∧ Fr S G0 (gs H 64 11 ((t + 1 : Nat) : Int)) ∧ ∃ A : mG, (∀ k, k ≠ 20 → A k = s k) ∧ SM c L r F K (t + 1) 2 (gs A 15 8 2) (gs H 64 11 ((t + 1 : Nat) : Int)))) := by
  obtain ⟨hcs, hF, hX8, hT, h13⟩ := h.sm
  have h600 := hT.2.2.2.1
  have hn8 := h.jb.hn
  have hA8 : ∀ A : mG, (∀ k, k ≠ 20 → A k = s k) → A 15 8 = 1 := fun A hA => by rw [hA 15 (by decide)]; exact hX8
  have hc20 : c ≠ 20 := by omega
  have hAc : ∀ A : mG, (∀ k, k ≠ 20 → A k = s k) → A c 11 = (n : Int) := fun A hA => by rw [hA c hc20]; exact h.c11
  have fis := fa_X12_is H 20
  rw [(rT_k hT).1] at fis
  by_cases z : tkK (tb L r) (tkQ (tb L r) t) = 20
  · obtain ⟨t1, t2, t3, t4, _⟩ := turn (fo := 2) hc ⟨hcs, hF, hX8, hT, h13⟩ (by decide) z (fun A hA => by rw [fol_1 (hA8 A hA), show km 20 = 14 from by decide]; rfl)
    refine ⟨fun _ e => BadF_fail (by decide) (t3 (by decide) (by decide) (fun A hA => ?_)) hT h13 h.fr, fun y => ?_⟩
    · rw [rom_1 (hA8 A hA), hAc A hA, if_neg (by omega)]; decide
    · have nn : n < 8 := by omega
      have em : e_X12_must H 20 = e_X12_next H := by unfold e_X12_must; rw [if_neg (by omega)]
      rw [em]
      by_cases z6 : t = 600
      · rw [nx_end hT.2.1 z6]
        exact Or.inl (BadF_fail (by decide) (t2 (by decide) (by decide) z6) hT h13 h.fr)
      · have t6 : t < 600 := by omega
        rw [nx_go hT.2.1 t6]
        obtain ⟨A, b1, b2, b3, b4, b5, b6⟩ := t4 (by decide) (by decide) t6 (fun A hA => by rw [rom_1 (hA8 A hA), hAc A hA, if_pos (by omega)])
        rw [note_1 (hA8 A b1)] at b5 b6
        exact Or.inr ⟨nn, rfl, Fr_gs h.fr (ins_64 (by decide)), A, b1, b5, b6, gs_at _ _ _ _, rT_nx hT h0 t6 (fun k _ _ => gs_ne (by omega)) (gs_at _ _ _ _), by rw [gs_at_ne (by decide)]; exact h13⟩
  · refine ⟨fun e => absurd e z, fun _ => ?_⟩
    have kk := km_d (tkK (tb L r) (tkQ (tb L r) t))
    have hkk := tkK_r (tb L r) (tkQ (tb L r) t)
    have n1 : ¬ km (tkK (tb L r) (tkQ (tb L r) t)) = 1 := by omega
    have n2 : ¬ km (tkK (tb L r) (tkQ (tb L r) t)) = 14 := by omega
    clear kk hkk
    obtain ⟨t1, _⟩ := turn (fo := -1) hc ⟨hcs, hF, hX8, hT, h13⟩ (by decide) rfl (fun A hA => by rw [fol_1 (hA8 A hA), if_neg n1, if_neg n2])
    have em : e_X12_must H 20 = e_X12_fail H 1 := by unfold e_X12_must; rw [if_pos (by omega)]
    rw [em]
    exact Or.inl (BadF_fail (by decide) (t1 rfl) hT h13 h.fr)
/-- the clauses of a campaign, and its end -/
theorem camp_loop (hc : c = 40 ∨ c = 52) (hS : S ≤ 1) (hn1 : 1 ≤ n) (hB : ∀ H', BadF F S G0 H' → Q none H') (hQ : ∀ (t' m' p' l' qq' : Nat) (s' H' : mG), t < t' → J8 1 c L r F K S G0 t' n m' p' l' qq' s' H' → Q none H') : ∀ d t1 : Nat, 601 - t1 ≤ d → t ≤ t1 → ∀ (m p l qq : Nat) (s H : mG), J8 8 c L r F K S G0 t1 n m p l qq s H → W2 o_X12 M_X12_tellCampaign (inN [64, 72, 73, 74, 75, 76, 77, 78, 79, 80, 81, 82, 83, 84, 85, 86, 87, 88, 89, 90, 91, 92, 93]) (q + 14) Q 237 [some (mR 69), none, none, none, none, none] [] H := by
  intro d
  induction d with
  | zero =>
    intro t1 hd _ m p l qq s H h
    have := h.sm.2.2.2.1.2.2.2.1
    omega
  | succ d ih =>
    intro t1 hd ht m p l qq s H h
    have hT := h.sm.2.2.2.1
    have h13 := h.sm.2.2.2.2
    have h11 := hT.2.1
    have h600 := hT.2.2.2.1
    have hn8 := h.jb.hn
    have e19 : H 64 19 = (S : Int) := by rw [Fr_64 h.fr (by decide)]; exact h.r19
    have kk := (rT_k hT).1
    have ecp : w32 ((H 72 (Int.toNat (H 64 19))) - 1) = (n : Int) - 1 := by rw [e19, st_nat, h.r72, w32_i (by omega) (by omega)]
    refine tm_237 (R := fun H2 => BadF F S G0 H2 ∨ ∃ (t' p' l' qq' : Nat) (s' : mG), t1 < t' ∧ J8 8 c L r F K S G0 t' n (m + 1) p' l' qq' s' H2) (by omega) (by omega) (fun y => ?_) (fun y Q' hQ' => ?_) (fun H2 hR => ?_)
    · have h23 : tkK (tb L r) (tkQ (tb L r) t1) = 23 := by rw [← kk]; omega
      refine tm_271 (by omega) ?_
      rcases camp_end hc h h23 with hb | ⟨s', hJ⟩
      · exact hB _ hb
      · exact hQ (t1 + 1) m p l qq s' _ (by omega) hJ
    · rw [kk] at y
      rw [ecp]
      exact sp_clause (q := q + 1) (fun _ hk => hk) hc hS hn1 rfl h y.2 (fun H' hb => hQ' H' (Or.inl hb)) (fun t' p' l' qq' s' H' q1 q2 => hQ' H' (Or.inr ⟨t', p', l', qq', s', q1, q2⟩))
    · rcases hR with hb | ⟨t', p', l', qq', s', q1, q2⟩
      · have b1 := hb.1.1
        have b19 : H2 64 19 = (S : Int) := by rw [Fr_64 hb.2.1 (by decide)]; exact h.r19
        refine tm_237 (R := fun _ => False) hb.2.2 (by omega) (fun _ => ?_) (fun y => absurd y.1 (by omega)) (fun _ f => f.elim)
        refine tm_271 hb.2.2 ?_
        rw [must_bad hb.1]
        exact hB _ hb
      · exact ih t' (by omega) (by omega) (m + 1) p' l' qq' s' H2 q2
end CMJ
