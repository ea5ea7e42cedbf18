/-! ===== ground, refund, reach ===== -/
section GRP
variable {c : Nat} {G : mG}
theorem mk_67 {H : mG} (h : Cpl c H) : ∀ G2 : mG, (∀ k, k ≠ 106 → k ≠ 107 → G2 k = H k) → ∃ c, Cpl c G2 := fun G2 hG2 =>
  ⟨c, Cpl_to h (W := [106, 107]) (fun k hk => hG2 k (fun e => hk (by rw [e]; decide)) (fun e => hk (by rw [e]; decide))) (by decide) (fun j _ => by rw [hG2 64 (by decide) (by decide)])⟩
theorem gr_cpl (h : Cpl c G) {H : mG} (hH : grX G H) : Cpl c H := Cpl_to h (W := [24, 25, 26, 27, 28]) hH (by decide) (fun j _ => by rw [hH 64 (by decide)])
theorem pm_ground (h : Cpl c G) (b f nf : Int) : bth 60 M_X11_ground M_X12_ground [mI b, mI f, mI nf] G := by
  have hc := Cpl_c h
  have hl := Cpl_l h
  obtain ⟨p1, p2, ⟨p3, p4, p5, p6, p7, p8⟩, p9, p10, p11, p12, p13, p14⟩ := id h.1.1
  obtain ⟨g1, g2, ⟨g3, g4, g5, g6⟩, g7, g8⟩ := id h.1.2.1
  obtain ⟨d1, d2, d3, d4, d5, d6, d7, d8, d9⟩ := id h.2.2.1
  obtain ⟨q1, q2, q3⟩ := id h.2.2.2.1
  obtain ⟨nk, hnk⟩ : ∃ nk : Nat, (nk : Int) = G c 12 := ⟨(G c 12).toNat, by omega⟩
  obtain ⟨n, hn⟩ : ∃ n : Nat, G 1 6 = (n : Int) := ⟨(G 1 6).toNat, by omega⟩
  have f1 := fa_X0_has G b
  have f4 := fa_X3_areKnown G nf
  -- the reference's side, over any class heap
  have ref : ∀ H : mG, grX G H → ∀ Q : Option mV → mG → Prop, (∀ G2, (∀ k, k ≠ 106 → k ≠ 107 → G2 k = H k) → Q (some (mI (v_X12_ground H b f nf nk))) G2) → P2 nk71 60 M_X12_ground [mR 69, mI b, mI f, mI nf] H Q := fun H hH Q z =>
    sp_X12_ground (n := nk) (by rw [hH 64 (by decide)]; exact hl) (by rw [hH 64 (by decide), p2]; exact p1) (by rw [hH 64 (by decide), g2]; exact g1.2) (fun i _ => by rw [hH 94 (by decide), p3]; exact p9 i) (fun i hi => by rw [hH 99 (by decide), p8]; exact (p12 i hi).1) (by rw [hH 64 (by decide), hH 76 (by decide), d4]; exact hnk) (by omega) (gr_cpl h hH).2.2.2.2.2 (fun hb hf => by
      obtain ⟨bn, hbn⟩ : ∃ bn : Nat, b = (bn : Int) := ⟨b.toNat, by omega⟩
      rw [hbn, (ix_g hf (show bn < 9 by omega)).1, st_nat, hH 105 (by decide)]
      exact q2 _ (by omega)) (allD (by decide)) z
  have vno : ∀ H : mG, grX G H → ¬ ((0 ≤ b ∧ b < G 1 6) ∧ ((0 ≤ f ∧ f < 26) ∧ G 23 f.toNat = 1) ∧ (0 ≤ nf ∧ nf ≤ G 8 4)) → v_X12_ground H b f nf nk = -1 := by
    intro H hH hno
    have e1 := fa_X12_isBoard H b
    have e2 := fa_X12_isFortnight H f
    have e3 := fa_X12_isKnown H nf
    rw [hH 64 (by decide), p2] at e1
    rw [hH 64 (by decide), g2] at e3
    unfold v_X12_ground
    rw [hH 104 (by decide), q1]
    by_cases z1 : f_X12_isBoard H b = 0
    · rw [if_pos z1]
    · rw [if_neg z1]
      by_cases z2 : f_X12_isFortnight H f = 0
      · rw [if_pos z2]
      · rw [if_neg z2]
        by_cases z3 : f_X12_isKnown H nf = 0
        · rw [if_pos z3]
        · rw [if_neg z3]
          by_cases z4 : G 23 f.toNat = 0
          · exact if_pos z4
          · have := (q3 f.toNat (by omega)).1
            exact absurd ⟨by omega, ⟨by omega, by omega⟩, by omega⟩ hno
  have refl : grX G G := fun _ _ => rfl
  by_cases z : (0 ≤ b ∧ b < G 1 6) ∧ ((0 ≤ f ∧ f < 26) ∧ G 23 f.toNat = 1) ∧ (0 ≤ nf ∧ nf ≤ G 8 4)
  · obtain ⟨z1, ⟨z2, z3⟩, z4⟩ := z
    obtain ⟨bn, hbn⟩ : ∃ bn : Nat, b = (bn : Int) := ⟨b.toNat, by omega⟩
    obtain ⟨m, hm⟩ : ∃ m : Nat, nf = (m : Int) := ⟨nf.toNat, by omega⟩
    have em : f_X4_isMade G f = 1 := by rw [made_f z2, if_neg (by omega)]
    have e1 : r_X11_ground c G b f nf = r_X11_groundOf c G b f nf := by
      unfold r_X11_ground
      rw [if_neg (show ¬ f_X0_has G b = 0 by omega), em, if_neg (show ¬ (1 : Int) = 0 by decide), if_pos (show ¬ f_X3_areKnown G nf = 0 by omega)]
    have hH : grX G (r_X11_groundOf c G b f nf).2 := by
      rw [hbn, hm]
      exact (ground_eq (G1 := G) h hn hnk z2 (show (m : Int) ≤ G 8 4 by omega) z3 (show bn < n by omega) refl (fun _ _ _ _ => rfl)).2.2
    have ge := ground_eq (m := m) (b := bn) (G1 := (r_X11_groundOf c G b f nf).2) h hn hnk z2 (by omega) z3 (by omega) refl (fun k h1 h2 h3 => hH k (by simp only [List.mem_cons, List.not_mem_nil, or_false]; omega))
    obtain ⟨H, hHe⟩ : ∃ H, (r_X11_groundOf c G b f nf).2 = H := ⟨_, rfl⟩
    rw [hHe] at hH ge
    refine bth_mk2 (G1 := H) (x := (r_X11_groundOf c G b f nf).1) (y := v_X12_ground H b f nf nk) (R := fun G2 => ∀ k, k ≠ 106 → k ≠ 107 → G2 k = H k) (fun _ y => sp_X11_ground hc (Cpl_p h) d1.2 d3.2 h.2.2.2.2.1 g1.2 p1.2 (allD (by decide)) (by rw [e1, hHe]; exact y)) (ref H hH) ?_ (mk_67 (gr_cpl h hH))
    have k1 := fa_X12_isBoard H b
    have k2 := fa_X12_isFortnight H f
    have k3 := fa_X12_isKnown H nf
    rw [hH 64 (by decide), p2] at k1
    rw [hH 64 (by decide), g2] at k3
    have t5 := (q3 f.toNat (by omega)).2.2.2.2 z3 bn (by omega)
    have t3 := (q3 f.toNat (by omega)).2.2.1 bn (by omega)
    unfold v_X12_ground
    rw [if_neg (show ¬ f_X12_isBoard H b = 0 by omega), if_neg (show ¬ f_X12_isFortnight H f = 0 by omega), if_neg (show ¬ f_X12_isKnown H nf = 0 by omega), hH 104 (by decide), q1, if_neg (show ¬ G 23 (Int.toNat f) = 0 by omega), hbn, (ix_g z2 (show bn < 9 by omega)).1, st_nat, hH 105 (by decide), t5, hm]
    by_cases hv : G 22 (9 * f.toNat + bn) = -1
    · rw [if_pos hv, ge.1 hv]
    · obtain ⟨v, hv2⟩ : ∃ v : Nat, G 22 (9 * f.toNat + bn) = (v : Int) := ⟨(G 22 (9 * f.toNat + bn)).toNat, by omega⟩
      rw [if_neg hv, ge.2.1 v hv2, hv2, hH 64 (by decide), ix_k hl (by omega), st_nat, st_nat, hH 78 (by decide)]
      rfl
  · have e1 : r_X11_ground c G b f nf = (-1, G) := by
      unfold r_X11_ground
      by_cases y1 : f_X0_has G b = 0
      · rw [if_pos y1]
      · rw [if_neg y1]
        by_cases y2 : f_X4_isMade G f = 0
        · rw [if_pos y2]
        · rw [if_neg y2]
          refine if_neg (fun y3 => z ⟨by omega, ?_, by omega⟩)
          by_cases y4 : 0 ≤ f ∧ f < 26
          · have y5 := (q3 f.toNat (by omega)).1
            rw [made_f y4] at y2
            by_cases y6 : G 23 f.toNat = 0
            · exact absurd (if_pos y6) y2
            · exact ⟨y4, by omega⟩
          · exact absurd (made_no y4) y2
    exact bth_mk2 (G1 := G) (x := -1) (y := v_X12_ground G b f nf nk) (R := fun G2 => ∀ k, k ≠ 106 → k ≠ 107 → G2 k = G k) (fun _ y => sp_X11_ground hc (Cpl_p h) d1.2 d3.2 h.2.2.2.2.1 g1.2 p1.2 (allD (by decide)) (by rw [e1]; exact y)) (ref G refl) (vno G refl z) (mk_67 h)
/-- whose a board is -/
theorem his_eq (h : Cpl c G) {f : Int} (hf : 0 ≤ f ∧ f < 26) (hm : G 23 f.toNat = 1) {n : Nat} (hn : G 1 6 = (n : Int)) {b : Nat} (hb : b < n) {H : mG} (hH : grX G H) {x : Int} (hx : 0 ≤ x) : (f_X12_isHis H (b : Int) f x = 0 ↔ ¬ ∃ v : Nat, G 22 (9 * f.toNat + b) = (v : Int) ∧ G (c + 5) v = x) := by
  have hl := Cpl_l h
  obtain ⟨d1, d2, d3, d4, d5, d6, d7, d8, d9⟩ := id h.2.2.1
  have h9 := h.1.1.1
  have t3 := (h.2.2.2.1.2.2 f.toNat (by omega)).2.2.1 b (by omega)
  have t5 := (h.2.2.2.1.2.2 f.toNat (by omega)).2.2.2.2 hm b (by omega)
  unfold f_X12_isHis
  rw [(ix_g hf (show b < 9 by omega)).1, st_nat, hH 105 (by decide), t5, hH 64 (by decide), hH 78 (by decide)]
  by_cases hv : G 22 (9 * f.toNat + b) = -1
  · rw [if_pos hv]
    exact ⟨fun _ ⟨v, h1, _⟩ => by omega, fun _ => rfl⟩
  · obtain ⟨v, hv2⟩ : ∃ v : Nat, G 22 (9 * f.toNat + b) = (v : Int) := ⟨(G 22 (9 * f.toNat + b)).toNat, by omega⟩
    rw [if_neg hv, hv2, ix_k hl (by omega), st_nat, st_nat, (d6 v (by omega)).1.1]
    by_cases ho : G (c + 5) v = x
    · rw [if_neg (show ¬ ¬ G (c + 5) v = x from fun q => q ho)]
      exact ⟨fun q => absurd q (by decide), fun q => absurd ⟨v, rfl, ho⟩ q⟩
    · rw [if_pos ho]
      refine ⟨fun _ ⟨w, h1, h2⟩ => ho ?_, fun _ => rfl⟩
      have : v = w := by omega
      rw [this]; exact h2
theorem pm_refund (h : Cpl c G) (x f nf : Int) : bth 60 M_X11_refund M_X12_refund [mI x, mI f, mI nf] G := by
  have hc := Cpl_c h
  have hl := Cpl_l h
  obtain ⟨p1, p2, ⟨p3, p4, p5, p6, p7, p8⟩, p9, p10, p11, p12, p13, p14⟩ := id h.1.1
  obtain ⟨g1, g2, ⟨g3, g4, g5, g6⟩, g7, g8⟩ := id h.1.2.1
  obtain ⟨d1, d2, d3, d4, d5, d6, d7, d8, d9⟩ := id h.2.2.1
  obtain ⟨q1, q2, q3⟩ := id h.2.2.2.1
  obtain ⟨nk, hnk⟩ : ∃ nk : Nat, (nk : Int) = G c 12 := ⟨(G c 12).toNat, by omega⟩
  obtain ⟨n, hn⟩ : ∃ n : Nat, G 1 6 = (n : Int) := ⟨(G 1 6).toNat, by omega⟩
  have f1 := fa_X1_hasCampaign c G x
  have f4 := fa_X3_areKnown G nf
  have refl : grX G G := fun _ _ => rfl
  -- what a board's ground is
  obtain ⟨val, hvald⟩ : ∃ val : Nat → Int, ∀ j, val j = fs (pR (e_X12_rf G (j : Int) f nf) 3 (j : Int) (G 78 (rfL G + (G 22 (9 * f.toNat + j)).toNat))) nk := ⟨_, fun _ => rfl⟩
  by_cases z : (0 ≤ x ∧ x < G c 11) ∧ ((0 ≤ f ∧ f < 26) ∧ G 23 f.toNat = 1) ∧ (0 ≤ nf ∧ nf ≤ G 8 4)
  · obtain ⟨z1, ⟨z2, z3⟩, z4⟩ := z
    obtain ⟨m, hm⟩ : ∃ m : Nat, nf = (m : Int) := ⟨nf.toNat, by omega⟩
    have em : f_X4_isMade G f = 1 := by rw [made_f z2, if_neg (by omega)]
    have e1 : r_X11_refund c G x f nf = fd (g_X11_refund_41 c G x f nf) (0, G) n := by
      unfold r_X11_refund
      rw [if_neg (show ¬ f_X1_hasCampaign c G x = 0 by omega), em, if_neg (show ¬ (1 : Int) = 0 by decide), if_pos (show ¬ f_X3_areKnown G nf = 0 by omega), hn, st_nat]
    have gv : ∀ (s G1 : mG), grX G s → (∀ k, 64 ≤ k → k ≠ 106 → k ≠ 107 → G1 k = G k) → ∀ b : Nat, b < n → ∀ v : Nat, G 22 (9 * f.toNat + b) = (v : Int) → (r_X11_groundOf c s (b : Int) f nf).1 = fs (pR (e_X12_rf G1 (b : Int) f nf) 3 (b : Int) (G 78 (rfL G + v))) nk ∧ grX G (r_X11_groundOf c s (b : Int) f nf).2 := by
      intro s G1 hs hG1 b hb v hv
      rw [hm]
      have ge := ground_eq (m := m) (b := b) (G1 := G1) h hn hnk z2 (by omega) z3 hb hs hG1
      exact ⟨ge.2.1 v hv, ge.2.2⟩
    have key := fd_inv (g := g_X11_refund_41 c G x f nf) (a := ((0 : Int), G)) (n := n) (fun j s => s.1 = fd (sRf val G x f) 0 j ∧ (0 ≤ s.1 ∧ s.1 ≤ 1000000 * (j : Int)) ∧ grX G s.2)
      ⟨rfl, by show (0 : Int) ≤ 0 ∧ (0 : Int) ≤ _; omega, refl⟩
      (by
        intro j s hj hI
        obtain ⟨i1, i2, i3⟩ := hI
        have kc : ∀ i, i < 12 → s.2 (c + i) = G (c + i) := fun i hi => i3 _ (by simp only [List.mem_cons, List.not_mem_nil, or_false]; omega)
        have e0 : s.2 c = G c := kc 0 (by omega)
        have ecl : f_X4_clauseOf s.2 (j : Int) f = G 22 (9 * f.toNat + j) := by rw [cl_of z2 (by omega), i3 22 (by decide)]
        have hh := his_eq (c := c) h z2 z3 hn hj refl z1.1
        have t3 := (q3 f.toNat (by omega)).2.2.1 j (by omega)
        have t5 := (q3 f.toNat (by omega)).2.2.2.2 z3 j (by omega)
        rw [fd_s, ← i1]
        unfold g_X11_refund_41 sRf
        rw [ecl]
        by_cases hhis : f_X12_isHis G (j : Int) f x = 0
        · have hno := hh.mp hhis
          have : ¬ f_X1_ownerOf c s.2 (G 22 (9 * f.toNat + j)) = x := by
            intro hy
            by_cases hv : G 22 (9 * f.toNat + j) = -1
            · rw [hv, fa_own_none] at hy; omega
            · obtain ⟨v, hv2⟩ : ∃ v : Nat, G 22 (9 * f.toNat + j) = (v : Int) := ⟨(G 22 (9 * f.toNat + j)).toNat, by omega⟩
              rw [hv2, at_owner (by rw [e0]; exact d3.2) (by rw [e0]; omega), kc 5 (by omega)] at hy
              exact hno ⟨v, hv2, hy⟩
          rw [if_pos this, if_pos hhis]
          exact ⟨rfl, by show 0 ≤ s.1 ∧ s.1 ≤ _; omega, i3⟩
        · have hyes : ∃ v : Nat, G 22 (9 * f.toNat + j) = (v : Int) ∧ G (c + 5) v = x := by
            by_cases hq : ∃ v : Nat, G 22 (9 * f.toNat + j) = (v : Int) ∧ G (c + 5) v = x
            · exact hq
            · exact absurd (hh.mpr hq) hhis
          obtain ⟨v, hv, ho⟩ := hyes
          clear hh
          have hvk : (v : Int) < G c 12 := by omega
          have g0 := gv s.2 G i3 (fun _ _ _ _ => rfl) j hj v hv
          have ev : val j = (r_X11_groundOf c s.2 (j : Int) f nf).1 := by rw [hvald, g0.1, hv, st_nat]
          have kg : ∀ i, i < 12 → (r_X11_groundOf c s.2 (j : Int) f nf).2 (c + i) = G (c + i) := fun i hi => g0.2 _ (by simp only [List.mem_cons, List.not_mem_nil, or_false]; omega)
          have eg0 : (r_X11_groundOf c s.2 (j : Int) f nf).2 c = G c := kg 0 (by omega)
          have hk18 : G (c + 4) v = 18 := by
            rw [hv] at t3
            rcases t3 with y | y
            · omega
            · have := y.2.2.1; rw [st_nat] at this; exact this
          have hkv := (d6 v hvk).2
          have ew : f_X1_worthOf c (r_X11_groundOf c s.2 (j : Int) f nf).2 (v : Int) = G (c + 8) v := by rw [at_worth (by rw [eg0]; exact d3.2) (by rw [eg0]; exact hvk), kg 8 (by omega)]
          have ewr : G 81 (40 * (G 64 18).toNat + v) = G (c + 8) v ∧ 0 ≤ G (c + 8) v ∧ G (c + 8) v ≤ 9999 := by omega
          rw [hv, if_neg (show ¬ ¬ f_X1_ownerOf c s.2 (v : Int) = x from fun q => q (by rw [at_owner (by rw [e0]; exact d3.2) (by rw [e0]; exact hvk), kc 5 (by omega)]; exact ho)), if_neg hhis, ew, ev]
          generalize (r_X11_groundOf c s.2 (j : Int) f nf).2 = Hg at *
          have hgr : (r_X11_groundOf c s.2 (j : Int) f nf).1 = -1 ∨ ∃ g : Nat, (r_X11_groundOf c s.2 (j : Int) f nf).1 = (g : Int) ∧ (g : Int) < G c 12 ∧ G (c + 4) g = 23 := by
            rw [g0.1]
            rcases fs_r (pR (e_X12_rf G (j : Int) f nf) 3 (j : Int) (G 78 (rfL G + v))) nk with y | ⟨g, y1, y2, y3, _⟩
            · exact Or.inl y.1
            · refine Or.inr ⟨g, y2, by omega, ?_⟩
              unfold pR at y3
              rw [Bool.and_eq_true] at y3
              have y4 := of_decide_eq_true y3.1
              rw [fr_X12_rf (by decide), fr_X12_rf (by decide)] at y4
              have y5 := (d6 g (by omega)).2
              omega
          generalize (r_X11_groundOf c s.2 (j : Int) f nf).1 = gr at *
          rcases hgr with hg | ⟨g, hg, hg2, hg3⟩
          · rw [hg, if_pos rfl]
            have ea : f_X1_amountOf c Hg (-1) = 0 := by
              have := fa_X1_hasClause c Hg (-1)
              unfold f_X1_amountOf
              rw [if_pos (by omega)]
            rw [ea, Int.mul_zero]
            show w32 (s.1 + mDiv (w32 0) 100) = s.1 ∧ (0 ≤ w32 (s.1 + mDiv (w32 0) 100) ∧ w32 (s.1 + mDiv (w32 0) 100) ≤ 1000000 * ((j + 1 : Nat) : Int)) ∧ grX G Hg
            rw [show mDiv (w32 0) 100 = 0 from by decide, Int.add_zero, w32_i (by omega) (by omega)]
            exact ⟨rfl, by omega, g0.2⟩
          · have hkg := (d6 g hg2).2
            have ear : G 79 (40 * (G 64 18).toNat + g) = G (c + 6) g ∧ 0 ≤ G (c + 6) g ∧ G (c + 6) g ≤ 100 := by omega
            rw [hg, if_neg (show ¬ (g : Int) = -1 by omega), at_amount (by rw [eg0]; exact d3.2) (by rw [eg0]; exact hg2), kg 6 (by omega), (ix_g z2 (show j < 9 by omega)).1, st_nat, t5, hv, ix_k hl (by omega), ix_k hl (by omega), st_nat, st_nat, st_nat, st_nat, ewr.1, ear.1]
            have hp : 0 ≤ G (c + 8) v * G (c + 6) g ∧ G (c + 8) v * G (c + 6) g ≤ 999900 := by
              have a1 : 0 ≤ G (c + 8) v * G (c + 6) g := Int.mul_nonneg ewr.2.1 ear.2.1
              have a2 : G (c + 8) v * G (c + 6) g ≤ 9999 * 100 := Int.mul_le_mul ewr.2.2 ear.2.2 ear.2.1 (by decide)
              exact ⟨a1, by omega⟩
            generalize G (c + 8) v * G (c + 6) g = pr at hp
            have hw : w32 pr = pr := w32_i (by omega) (by omega)
            rw [hw]
            have hd := mDiv_nn (p := 100) hp.1 (by omega) (by decide)
            clear hw
            refine ⟨rfl, ?_, g0.2⟩
            show 0 ≤ w32 (s.1 + mDiv pr 100) ∧ w32 (s.1 + mDiv pr 100) ≤ _
            rw [w32_i (by omega) (by omega)]
            omega)
    obtain ⟨H, hHe⟩ : ∃ H, (fd (g_X11_refund_41 c G x f nf) (0, G) n).2 = H := ⟨_, rfl⟩
    have hH : grX G H := by rw [← hHe]; exact key.2.2
    have eHis : ∀ (Hx : mG), grX G Hx → ∀ j : Nat, j < n → f_X12_isHis Hx (j : Int) f x = f_X12_isHis G (j : Int) f x := fun Hx hHx j hj => by unfold f_X12_isHis; rw [hHx 105 (by decide), hHx 64 (by decide), hHx 78 (by decide)]
    refine bth_mk2 (G1 := H) (x := (fd (g_X11_refund_41 c G x f nf) (0, G) n).1) (y := v_X12_refund val H x f nf n) (R := fun G2 => ∀ k, k ≠ 106 → k ≠ 107 → G2 k = H k) (fun _ y => sp_X11_refund hc (Cpl_p h) d1.2 d3.2 h.2.2.2.2.1 g1.2 p1.2 (allD (by decide)) (by rw [e1, hHe]; exact y)) (fun Q y => sp_X12_refund (n := nk) (n9 := n) (val := val) (by rw [hH 64 (by decide)]; exact hl) (by rw [hH 64 (by decide), p2]; exact p1) (by rw [hH 64 (by decide), g2]; exact g1.2) (fun i _ => by rw [hH 94 (by decide), p3]; exact p9 i) (fun i hi => by rw [hH 99 (by decide), p8]; exact (p12 i hi).1) (by rw [hH 64 (by decide), p2]; exact hn) (by rw [hH 105 (by decide)]; exact q2) (by rw [hH 64 (by decide), hH 76 (by decide), d4]; exact hnk) (by omega) (gr_cpl h hH).2.2.2.2.2 (fun j _ hj hy => ?_) (fun _ _ _ _ j hj hy Hj hHj => ?_) (allD (by decide)) y) ?_ (mk_67 (gr_cpl h hH))
    · rw [eHis H hH j hj] at hy
      have t5 := (q3 f.toNat (by omega)).2.2.2.2 z3 j (by omega)
      have t3 := (q3 f.toNat (by omega)).2.2.1 j (by omega)
      rw [(ix_g z2 (show j < 9 by omega)).1, st_nat, hH 105 (by decide), t5]
      by_cases hv : G 22 (9 * f.toNat + j) = -1
      · refine absurd ((his_eq (c := c) h z2 z3 hn hj refl z1.1).mpr (fun ⟨v, a, _⟩ => by omega)) hy
      · omega
    · rw [eHis H hH j hj] at hy
      have t5 := (q3 f.toNat (by omega)).2.2.2.2 z3 j (by omega)
      have t3 := (q3 f.toNat (by omega)).2.2.1 j (by omega)
      by_cases hv : G 22 (9 * f.toNat + j) = -1
      · refine absurd ((his_eq (c := c) h z2 z3 hn hj refl z1.1).mpr (fun ⟨v, a, _⟩ => by omega)) hy
      · obtain ⟨v, hv2⟩ : ∃ v : Nat, G 22 (9 * f.toNat + j) = (v : Int) := ⟨(G 22 (9 * f.toNat + j)).toNat, by omega⟩
        have hj64 : ∀ k, 64 ≤ k → k ≠ 106 → k ≠ 107 → Hj k = G k := fun k h1 h2 h3 => by rw [hHj k h2 h3]; exact hH k (by simp only [List.mem_cons, List.not_mem_nil, or_false]; omega)
        rw [(ix_g z2 (show j < 9 by omega)).1, st_nat, hj64 105 (by decide) (by decide) (by decide), t5, hv2, hj64 64 (by decide) (by decide) (by decide), ix_k hl (by omega), st_nat, st_nat, hj64 78 (by decide) (by decide) (by decide), hvald, hv2, st_nat, ← (gv G G refl (fun _ _ _ _ => rfl) j hj v hv2).1, (gv G Hj refl hj64 j hj v hv2).1]
        rfl
    · have k1 := fa_X12_isCampaign H x
      have k2 := fa_X12_isFortnight H f
      have k3 := fa_X12_isKnown H nf
      rw [hH 64 (by decide), hH 72 (by decide), d2] at k1
      rw [hH 64 (by decide), g2] at k3
      unfold v_X12_refund
      rw [if_neg (show ¬ f_X12_isCampaign H x = 0 by omega), if_neg (show ¬ f_X12_isFortnight H f = 0 by omega), if_neg (show ¬ f_X12_isKnown H nf = 0 by omega), hH 104 (by decide), q1, if_neg (show ¬ G 23 (Int.toNat f) = 0 by omega), key.1]
      refine fd_congr (fun j s hj => ?_)
      unfold sRf
      rw [eHis H hH j hj, hH 81 (by decide), hH 79 (by decide), hH 105 (by decide), hH 64 (by decide)]
  · have e1 : r_X11_refund c G x f nf = (-1, G) := by
      unfold r_X11_refund
      by_cases y1 : f_X1_hasCampaign c G x = 0
      · rw [if_pos y1]
      · rw [if_neg y1]
        by_cases y2 : f_X4_isMade G f = 0
        · rw [if_pos y2]
        · rw [if_neg y2]
          refine if_neg (fun y3 => z ⟨by omega, ?_, by omega⟩)
          by_cases y4 : 0 ≤ f ∧ f < 26
          · have y5 := (q3 f.toNat (by omega)).1
            rw [made_f y4] at y2
            by_cases y6 : G 23 f.toNat = 0
            · exact absurd (if_pos y6) y2
            · exact ⟨y4, by omega⟩
          · exact absurd (made_no y4) y2
    have hvno : v_X12_refund val G x f nf n = -1 := by
      have k1 := fa_X12_isCampaign G x
      have k2 := fa_X12_isFortnight G f
      have k3 := fa_X12_isKnown G nf
      rw [d2] at k1
      rw [g2] at k3
      unfold v_X12_refund
      rw [q1]
      by_cases z1 : f_X12_isCampaign G x = 0
      · rw [if_pos z1]
      · rw [if_neg z1]
        by_cases z2 : f_X12_isFortnight G f = 0
        · rw [if_pos z2]
        · rw [if_neg z2]
          by_cases z3 : f_X12_isKnown G nf = 0
          · rw [if_pos z3]
          · rw [if_neg z3]
            by_cases z4 : G 23 f.toNat = 0
            · exact if_pos z4
            · have := (q3 f.toNat (by omega)).1
              exact absurd ⟨by omega, ⟨by omega, by omega⟩, by omega⟩ z
    refine bth_mk2 (G1 := G) (x := -1) (y := v_X12_refund val G x f nf n) (R := fun G2 => ∀ k, k ≠ 106 → k ≠ 107 → G2 k = G k) (fun _ y => sp_X11_refund hc (Cpl_p h) d1.2 d3.2 h.2.2.2.2.1 g1.2 p1.2 (allD (by decide)) (by rw [e1]; exact y)) (fun Q y => sp_X12_refund (n := nk) (n9 := n) (val := val) hl (by rw [p2]; exact p1) (by rw [g2]; exact g1.2) (fun i _ => by rw [p3]; exact p9 i) (fun i hi => by rw [p8]; exact (p12 i hi).1) (by rw [p2]; exact hn) q2 (by rw [d4]; exact hnk) (by omega) h.2.2.2.2.2 (fun j a hj hy => ?_) (fun a1 a2 a3 a4 => ?_) (allD (by decide)) y) hvno (mk_67 h)
    · rw [(ix_g a (show j < 9 by omega)).1, st_nat]
      have hr := q2 (9 * f.toNat + j) (by omega)
      by_cases hv : G 105 (9 * f.toNat + j) = -1
      · refine absurd ?_ hy
        unfold f_X12_isHis
        rw [(ix_g a (show j < 9 by omega)).1, st_nat, if_pos hv]
      · omega
    · have k1 := fa_X12_isCampaign G x
      rw [d2] at k1
      rw [q1] at a2
      have k5 := (q3 f.toNat (by omega)).1
      rw [g2] at a4
      exact absurd ⟨by omega, ⟨a3, by omega⟩, a4⟩ z
end GRP
