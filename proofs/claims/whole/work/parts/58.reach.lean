/-! ===== reach ===== -/
section RCH
variable {c : Nat} {G : mG}
theorem r53_to {H : mG} (hH : grX G H) (x f nf : Int) (d : Nat) (z : Int) : g_X12_reach_53 H x f nf d z = g_X12_reach_53 G x f nf d z := by
  have e1 : ∀ j : Int, f_X12_isHis H j f x = f_X12_isHis G j f x := fun j => by unfold f_X12_isHis; rw [hH 105 (by decide), hH 64 (by decide), hH 78 (by decide)]
  have e2 : ∀ j : Int, f_X12_days H j f nf 1 = f_X12_days G j f nf 1 := fun j => days_to (hH 100 (by decide)) (hH 101 (by decide)) (hH 102 (by decide)) (hH 103 (by decide))
  funext j s
  unfold g_X12_reach_53
  rw [e1, e2, hH 94 (by decide), hH 96 (by decide)]
/-- a board is given to the want of its district, or it isn't this campaign's there -/
theorem reach_w (h : Cpl c G) {f : Int} (hf : 0 ≤ f ∧ f < 26) (hm : G 23 f.toNat = 1) {n nk : Nat} (hn : G 1 6 = (n : Int)) (hnk : (nk : Int) = G c 12) {x : Int} (hx : 0 ≤ x) {j : Nat} (hj : j < n) (d : Nat) : (G 2 j = (d : Int) ∧ ¬ f_X12_isHis G (j : Int) f x = 0) ↔ (¬ fs (wnP c G x (d : Int)) nk = -1 ∧ G 22 (9 * f.toNat + j) = fs (wnP c G x (d : Int)) nk) := by
  obtain ⟨d1, d2, d3, d4, d5, d6, d7, d8, d9⟩ := id h.2.2.1
  have h9 := h.1.1.1
  have t3 := (h.2.2.2.1.2.2 f.toNat (by omega)).2.2.1 j (by omega)
  have hh := his_eq (c := c) h hf hm hn hj (fun _ _ => rfl) hx
  constructor
  · rintro ⟨a1, a2⟩
    have hyes : ∃ v : Nat, G 22 (9 * f.toNat + j) = (v : Int) ∧ G (c + 5) v = x := by
      by_cases hq : ∃ v : Nat, G 22 (9 * f.toNat + j) = (v : Int) ∧ G (c + 5) v = x
      · exact hq
      · exact absurd (hh.mpr hq) a2
    clear hh
    obtain ⟨v, hv, ho⟩ := hyes
    rw [hv, st_nat] at t3
    have t4 : (v : Int) < G c 12 ∧ G (c + 4) v = 18 ∧ G (c + 7) v = G 2 j := by omega
    have pv : wnP c G x (d : Int) v = true := by
      unfold wnP
      rw [decide_eq_true t4.2.1, decide_eq_true ho, decide_eq_true (show G (c + 7) v = (d : Int) by omega)]
      rfl
    rcases fs_r (wnP c G x (d : Int)) nk with y | ⟨w, y1, y2, y3, _⟩
    · have := y.2 v (by omega)
      rw [pv] at this
      cases this
    · have pw := y3
      unfold wnP at pw
      rw [Bool.and_eq_true, Bool.and_eq_true] at pw
      have b1 := of_decide_eq_true pw.1
      have b2 := of_decide_eq_true pw.2.1
      have b3 := of_decide_eq_true pw.2.2
      have e := d7 v w t4.1 (by omega) t4.2.1 b1 (by omega) (by omega)
      rw [y2, hv, e]
      exact ⟨by omega, rfl⟩
  · rintro ⟨a1, a2⟩
    rcases fs_r (wnP c G x (d : Int)) nk with y | ⟨w, y1, y2, y3, _⟩
    · exact absurd y.1 a1
    · rw [y2] at a2
      unfold wnP at y3
      rw [Bool.and_eq_true, Bool.and_eq_true] at y3
      have b2 := of_decide_eq_true y3.2.1
      have b3 := of_decide_eq_true y3.2.2
      refine ⟨?_, fun q => (hh.mp q) ⟨w, a2, b2⟩⟩
      clear hh
      rw [a2, st_nat] at t3
      omega
theorem pm_reach (h : Cpl c G) (x f nf : Int) : bth 60 M_X11_reach M_X12_reach [mI x, mI f, mI nf] G := by
  have hc := Cpl_c h
  have hl := Cpl_l h
  obtain ⟨p1, p2, ⟨p3, p4, p5, p6, p7, p8⟩, p9, p10, p11, p12, p13, p14⟩ := id h.1.1
  obtain ⟨g1, g2, ⟨g3, g4, g5, g6⟩, g7, g8⟩ := id h.1.2.1
  obtain ⟨d1, d2, d3, d4, d5, d6, d7, d8, d9⟩ := id h.2.2.1
  obtain ⟨q1, q2, q3⟩ := id h.2.2.2.1
  obtain ⟨nk, hnk⟩ : ∃ nk : Nat, (nk : Int) = G c 12 := ⟨(G c 12).toNat, by omega⟩
  obtain ⟨n, hn⟩ : ∃ n : Nat, G 1 6 = (n : Int) := ⟨(G 1 6).toNat, by omega⟩
  have f1 := fa_X1_hasCampaign c G x
  have f4 := fa_X3_areKnown G nf
  have refl : grX G G := fun _ _ => rfl
  have ref : ∀ H : mG, grX G H → ∀ Q : Option mV → mG → Prop, Q (some (mI (f_X12_reach H x f nf))) H → P2 nk71 60 M_X12_reach [mR 69, mI x, mI f, mI nf] H Q := fun H hH Q z =>
    sp_X12_reach (by rw [hH 64 (by decide)]; exact hl) (by rw [hH 64 (by decide), p2]; exact p1) (by rw [hH 64 (by decide), g2]; exact g1.2) (fun i _ => by rw [hH 94 (by decide), p3]; exact p9 i) (fun i hi => by rw [hH 99 (by decide), p8]; exact (p12 i hi).1) (by rw [hH 105 (by decide)]; exact q2) (by rw [hH 64 (by decide), hH 72 (by decide), d2]; exact d1.2) (by rw [hH 64 (by decide), hH 76 (by decide), d4]; exact d3.2) z
  by_cases z : (0 ≤ x ∧ x < G c 11) ∧ ((0 ≤ f ∧ f < 26) ∧ G 23 f.toNat = 1) ∧ (0 ≤ nf ∧ nf ≤ G 8 4)
  · obtain ⟨z1, ⟨z2, z3⟩, z4⟩ := z
    obtain ⟨m, hm⟩ : ∃ m : Nat, nf = (m : Int) := ⟨nf.toNat, by omega⟩
    have em : f_X4_isMade G f = 1 := by rw [made_f z2, if_neg (by omega)]
    have e1 : r_X11_reach c G x f nf = fd (g_X11_reach_41 c G x f nf) (0, G) 6 := by
      unfold r_X11_reach
      rw [if_neg (show ¬ f_X1_hasCampaign c G x = 0 by omega), em, if_neg (show ¬ (1 : Int) = 0 by decide), if_pos (show ¬ f_X3_areKnown G nf = 0 by omega)]
    -- one district
    have one : ∀ (s : mG) (d : Nat) (w : Int) (zz : Int), grX G s → w = fs (wnP c G x (d : Int)) nk → ¬ w = -1 → (r_X11_greatestAudience s w f nf).1 = fd (g_X12_reach_53 G x f nf d zz) 0 n ∧ grX G (r_X11_greatestAudience s w f nf).2 := by
      intro s d w zz hs hw hw1
      have key := fd_inv (g := g_X11_greatestAudience_6 s w f nf) (a := ((0 : Int), s)) (n := n) (fun j t => t.1 = fd (g_X12_reach_53 G x f nf d zz) 0 j ∧ grX G t.2)
        ⟨rfl, hs⟩
        (by
          intro j t hj hI
          obtain ⟨i1, i2⟩ := hI
          have ecl : f_X4_clauseOf t.2 (j : Int) f = G 22 (9 * f.toNat + j) := by rw [cl_of z2 (by omega), i2 22 (by decide)]
          have hr := reach_w (c := c) h z2 z3 hn hnk z1.1 hj d
          rw [← hw] at hr
          have ed : G 94 j = G 2 j := by rw [p3]
          have ea : G 96 j = G 4 j := by rw [p5]
          rw [fd_s, ← i1]
          unfold g_X11_greatestAudience_6 g_X12_reach_53
          rw [ecl, st_nat, ed, ea]
          by_cases hq : G 22 (9 * f.toNat + j) = w
          · obtain ⟨a1, a2⟩ := hr.mpr ⟨hw1, hq⟩
            rw [if_neg (show ¬ ¬ G 22 (9 * f.toNat + j) = w from fun y => y hq), if_neg (show ¬ ¬ G 2 j = (d : Int) from fun y => y a1), if_neg a2]
            have fF : fOK (t.2 9) (t.2 12) m := fun i _ => by rw [i2 9 (by decide), i2 12 (by decide)]; exact ⟨g7 i, g8 i⟩
            have ff := follow_eq (G := t.2) (b := (j : Int)) (f := f) (n := m) fF (by rw [i2 8 (by decide)]; omega) (by rw [i2 8 (by decide)]; omega)
            rw [i2 9 (by decide), i2 10 (by decide), i2 11 (by decide), i2 12 (by decide)] at ff
            have kF : ∀ k, ¬ k ∈ ([26, 27, 28] : List Nat) → (e_X2_follow t.2 (j : Int) f (m : Int)) k = t.2 k := fun k hk => fr_X2_follow (fun a ha e => hk (by rw [e]; exact ha))
            rw [hm]
            generalize e_X2_follow t.2 (j : Int) f (m : Int) = F at ff kF ⊢
            have kG : grX G F := fun k hk => by
              simp only [List.mem_cons, List.not_mem_nil, or_false] at hk
              rw [kF k (by simp only [List.mem_cons, List.not_mem_nil, or_false]; omega)]
              exact i2 k (by simp only [List.mem_cons, List.not_mem_nil, or_false]; omega)
            have ey : f_X2_daysOf F 1 = f_X12_days G (j : Int) f (m : Int) 1 := days_eq (fun i _ => by rw [g3, g6]; exact ⟨g7 i, g8 i⟩) (fun dd hd => by rw [g3, g4, g5, g6]; exact ff.1 dd hd)
            have eau : f_X0_audienceOf F (j : Int) = G 4 j := by
              have := fa_X0_has F (j : Int)
              rw [kG 1 (by decide)] at this
              unfold f_X0_audienceOf
              rw [if_neg (by omega), st_nat, kG 4 (by decide)]
            rw [ey, eau]
            by_cases b1 : f_X12_days G (j : Int) f (m : Int) 1 ≤ 0
            · rw [if_pos b1, if_pos b1, ite_self]
              exact ⟨rfl, kG⟩
            · rw [if_neg b1, if_neg b1]
              refine ⟨?_, kG⟩
              show mMax t.1 (G 4 j) = _
              unfold mMax
              split <;> split <;> omega
          · have hno : ¬ (G 2 j = (d : Int) ∧ ¬ f_X12_isHis G (j : Int) f x = 0) := fun y => hq (hr.mp y).2
            rw [if_pos hq]
            refine ⟨?_, i2⟩
            show t.1 = _
            by_cases b1 : G 2 j = (d : Int)
            · rw [if_neg (show ¬ ¬ G 2 j = (d : Int) from fun y => y b1)]
              by_cases b2 : f_X12_isHis G (j : Int) f x = 0
              · rw [if_pos b2]
              · exact absurd ⟨b1, b2⟩ hno
            · rw [if_pos b1])
      have e0 : r_X11_greatestAudience s w f nf = fd (g_X11_greatestAudience_6 s w f nf) (0, s) n := by
        unfold r_X11_greatestAudience
        rw [hs 1 (by decide), hn, st_nat]
      rw [e0]
      exact key
    have key := fd_inv (g := g_X11_reach_41 c G x f nf) (a := ((0 : Int), G)) (n := 6) (fun d s => s.1 = fd (g_X12_reach_40 G x f nf) 0 d ∧ grX G s.2)
      ⟨rfl, refl⟩
      (by
        intro d s hd hI
        obtain ⟨i1, i2⟩ := hI
        have ew : f_X1_wantOf c s.2 x (d : Int) = fs (wnP c G x (d : Int)) nk := want_eq hnk d3.2 (fun i hi => i2 _ (by simp only [List.mem_cons, List.not_mem_nil, or_false]; omega)) x _
        rw [fd_s, ← i1]
        unfold g_X11_reach_41 g_X12_reach_40
        rw [ew, p2, hn, st_nat]
        by_cases hw : fs (wnP c G x (d : Int)) nk = -1
        · rw [if_neg (show ¬ ¬ fs (wnP c G x (d : Int)) nk = -1 from fun y => y hw)]
          refine ⟨?_, i2⟩
          show w32 (s.1 + 0) = _
          have e0 : fd (g_X12_reach_53 G x f nf d s.1) 0 n = 0 := fd_id (fun j hj => by
            have hr := reach_w (c := c) h z2 z3 hn hnk z1.1 hj d
            have hno : ¬ (G 2 j = (d : Int) ∧ ¬ f_X12_isHis G (j : Int) f x = 0) := fun y => (hr.mp y).1 hw
            unfold g_X12_reach_53
            rw [st_nat, show G 94 j = G 2 j from by rw [p3]]
            by_cases b1 : G 2 j = (d : Int)
            · rw [if_neg (show ¬ ¬ G 2 j = (d : Int) from fun y => y b1)]
              by_cases b2 : f_X12_isHis G (j : Int) f x = 0
              · rw [if_pos b2]
              · exact absurd ⟨b1, b2⟩ hno
            · rw [if_pos b1])
          rw [e0]
        · rw [if_pos hw]
          obtain ⟨o1, o2⟩ := one s.2 d (fs (wnP c G x (d : Int)) nk) s.1 i2 rfl hw
          refine ⟨?_, o2⟩
          show w32 (s.1 + (r_X11_greatestAudience s.2 (fs (wnP c G x (d : Int)) nk) f nf).1) = _
          rw [o1])
    obtain ⟨H, hHe⟩ : ∃ H, (fd (g_X11_reach_41 c G x f nf) (0, G) 6).2 = H := ⟨_, rfl⟩
    have hH : grX G H := by rw [← hHe]; exact key.2
    refine bth_mk (G1 := H) (G2 := H) (x := (fd (g_X11_reach_41 c G x f nf) (0, G) 6).1) (y := f_X12_reach H x f nf) (fun _ y => sp_X11_reach hc (Cpl_p h) d1.2 d3.2 h.2.2.2.2.1 g1.2 p1.2 (allD (by decide)) (by rw [e1, hHe]; exact y)) (ref H hH) ?_ ⟨c, gr_cpl h hH⟩
    have k1 := fa_X12_isCampaign H x
    have k2 := fa_X12_isFortnight H f
    have k3 := fa_X12_isKnown H nf
    rw [hH 64 (by decide), hH 72 (by decide), d2] at k1
    rw [hH 64 (by decide), g2] at k3
    unfold f_X12_reach
    rw [if_neg (show ¬ f_X12_isCampaign H x = 0 by omega), if_neg (show ¬ f_X12_isFortnight H f = 0 by omega), if_neg (show ¬ f_X12_isKnown H nf = 0 by omega), hH 104 (by decide), q1, if_pos (show ¬ G 23 (Int.toNat f) = 0 by omega), key.1]
    refine fd_congr (fun d s hd => ?_)
    unfold g_X12_reach_40
    rw [r53_to hH, hH 64 (by decide)]
  · have e1 : r_X11_reach c G x f nf = (-1, G) := by
      unfold r_X11_reach
      by_cases y1 : f_X1_hasCampaign c G x = 0
      · rw [if_pos y1]
      · rw [if_neg y1]
        by_cases y2 : f_X4_isMade G f = 0
        · rw [if_pos y2]
        · rw [if_neg y2]
          refine if_neg (fun y3 => z ⟨by omega, ?_, by omega⟩)
          by_cases y4 : 0 ≤ f ∧ f < 26
          · have y5 := (q3 f.toNat (by omega)).1
            rw [made_f y4] at y2
            by_cases y6 : G 23 f.toNat = 0
            · exact absurd (if_pos y6) y2
            · exact ⟨y4, by omega⟩
          · exact absurd (made_no y4) y2
    have hvno : f_X12_reach G x f nf = -1 := by
      have k1 := fa_X12_isCampaign G x
      have k2 := fa_X12_isFortnight G f
      have k3 := fa_X12_isKnown G nf
      rw [d2] at k1
      rw [g2] at k3
      unfold f_X12_reach
      rw [q1]
      by_cases z1 : f_X12_isCampaign G x = 0
      · rw [if_pos z1]
      · rw [if_neg z1]
        by_cases z2 : f_X12_isFortnight G f = 0
        · rw [if_pos z2]
        · rw [if_neg z2]
          by_cases z3 : f_X12_isKnown G nf = 0
          · rw [if_pos z3]
          · rw [if_neg z3]
            refine if_neg (fun z4 => z ⟨by omega, ⟨by omega, ?_⟩, by omega⟩)
            have := (q3 f.toNat (by omega)).1
            omega
    exact bth_mk (G1 := G) (G2 := G) (x := -1) (y := f_X12_reach G x f nf) (fun _ y => sp_X11_reach hc (Cpl_p h) d1.2 d3.2 h.2.2.2.2.1 g1.2 p1.2 (allD (by decide)) (by rw [e1]; exact y)) (ref G refl) hvno ⟨c, h⟩
end RCH
