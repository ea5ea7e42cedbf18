/-! ===== may and bar: the first clause that holds, on both sides ===== -/
section CFS
variable {c : Nat} {G H G1 : mG}
theorem has_cl {j : Nat} (h12 : G c 12 ≤ 40) (hj : (j : Int) < G c 12) : f_X1_hasClause c G (j : Int) = 1 := by
  have := fa_X1_hasClause c G (j : Int)
  omega
theorem at_kind {j : Nat} (h12 : G c 12 ≤ 40) (hj : (j : Int) < G c 12) : f_X1_kindOf c G (j : Int) = G (c + 4) j := by
  unfold f_X1_kindOf; rw [has_cl h12 hj, if_neg (by decide), st_nat]
theorem at_owner {j : Nat} (h12 : G c 12 ≤ 40) (hj : (j : Int) < G c 12) : f_X1_ownerOf c G (j : Int) = G (c + 5) j := by
  unfold f_X1_ownerOf; rw [has_cl h12 hj, if_neg (by decide), st_nat]
theorem at_amount {j : Nat} (h12 : G c 12 ≤ 40) (hj : (j : Int) < G c 12) : f_X1_amountOf c G (j : Int) = G (c + 6) j := by
  unfold f_X1_amountOf; rw [has_cl h12 hj, if_neg (by decide), st_nat]
theorem at_district {j : Nat} (h12 : G c 12 ≤ 40) (hj : (j : Int) < G c 12) : f_X1_districtOf c G (j : Int) = G (c + 7) j := by
  unfold f_X1_districtOf; rw [has_cl h12 hj, if_neg (by decide), st_nat]
theorem at_worth {j : Nat} (h12 : G c 12 ≤ 40) (hj : (j : Int) < G c 12) : f_X1_worthOf c G (j : Int) = G (c + 8) j := by
  unfold f_X1_worthOf; rw [has_cl h12 hj, if_neg (by decide), st_nat]
theorem at_start {j : Nat} (h12 : G c 12 ≤ 40) (hj : (j : Int) < G c 12) : f_X1_codeStartOf c G (j : Int) = G (c + 9) j := by
  unfold f_X1_codeStartOf; rw [has_cl h12 hj, if_neg (by decide), st_nat]
theorem at_end {j : Nat} (h12 : G c 12 ≤ 40) (hj : (j : Int) < G c 12) : f_X1_codeEndOf c G (j : Int) = G (c + 10) j := by
  unfold f_X1_codeEndOf; rw [has_cl h12 hj, if_neg (by decide), st_nat]
/-- the first clause of a kind and a campaign that holds is the same on both sides -/
theorem cp_fs (h : Cpl c G) (hH : ∀ i, i < 12 → H (c + i) = G (c + i)) (hR : ∀ k, k ∈ ([77, 78, 82, 83, 86, 87, 88, 89, 90, 91, 92] : List Nat) → G1 k = G k) (h18 : G1 64 18 = G 64 18) {kd so : Int} (hks : (kd = 21 ∧ so = 1) ∨ (kd = 23 ∧ so = 3)) {b x : Int} {n : Nat} (hn : (n : Int) = G c 12)
    (hmk : 0 ≤ G1 97 (Int.toNat b) ∧ G1 97 (Int.toNat b) ≤ 255) (v1 : H 24 1 = G1 106 0) (v2 : H 24 2 = G1 106 1) (v3 : H 24 3 = G1 106 2) (v4 : H 24 4 = G1 97 (Int.toNat b)) (v5 : H 24 5 = G1 106 3) (v6 : H 24 6 = G1 106 4) (v7 : H 24 7 = G1 106 5) :
    fs (fun j => decide (f_X1_kindOf c H (j : Int) = kd) && (decide (f_X1_ownerOf c H (j : Int) = x) && hCl c H j)) (H c 12).toNat = fs (pR G1 so b x) n := by
  have e0 : H c = G c := hH 0 (by omega)
  obtain ⟨_, _, b5, _, _, _⟩ := h
  obtain ⟨d1, d2, d3, d4, d5, d6, d7, d8, d9⟩ := b5
  rw [e0, show (G c 12).toNat = n by omega]
  refine fs_congr (fun j hj => ?_)
  have hjG : (j : Int) < G c 12 := by omega
  have hjH : (j : Int) < H c 12 := by rw [e0]; exact hjG
  have h12 : H c 12 ≤ 40 := by rw [e0]; omega
  rw [at_kind h12 hjH, at_owner h12 hjH, hH 4 (by omega), hH 5 (by omega)]
  unfold pR
  rw [h18, hR 77 (by decide), hR 78 (by decide)]
  have hk := d6 j hjG
  have eo := hk.1.1
  rw [eo]
  have ek : decide (G (c + 4) j = kd) = decide (G 77 (40 * (G 64 18).toNat + j) = so) := by
    have : (G (c + 4) j = kd) ↔ (G 77 (40 * (G 64 18).toNat + j) = so) := by
      rcases hks with ⟨k1, k2⟩ | ⟨k1, k2⟩ <;> rw [k1, k2] <;> rcases hk.2 with q | q | q | q <;> constructor <;> intro z <;> omega
    exact decide_eq_decide.mpr this
  rw [ek]
  by_cases hs : G 77 (40 * (G 64 18).toNat + j) = so
  · have hkd : G (c + 4) j = 21 ∨ G (c + 4) j = 23 := by
      rw [hs] at ek
      have : decide (G (c + 4) j = kd) = true := by rw [ek]; exact decide_eq_true rfl
      have := of_decide_eq_true this
      rcases hks with ⟨k1, _⟩ | ⟨k1, _⟩
      · exact Or.inl (by omega)
      · exact Or.inr (by omega)
    have hw := d9 j hjG hkd (H 24) (G1 106) (G1 97 (Int.toNat b)) hmk v1 v2 v3 v4 v5 v6 v7
    have ec : hCl c H j = hRl G1 b j := by
      unfold hCl
      rw [at_start h12 hjH, at_end h12 hjH, hH 9 (by omega), hH 10 (by omega), hH 11 (by omega), hw]
      unfold hRl hRy
      rw [litV_y, lor_y, h18, hR 82 (by decide), hR 83 (by decide), hR 86 (by decide), hR 87 (by decide), hR 88 (by decide), hR 89 (by decide), hR 90 (by decide), hR 91 (by decide), hR 92 (by decide)]
    rw [ec]
  · rw [decide_eq_false hs]
    rfl
end CFS
/-- what the judge regards of a board -/
theorem regard_eq {G : mG} {b : Int} (hb : 0 ≤ b ∧ b < G 1 6 ∧ b < 9) : (e_X5_regard G b) 24 1 = G 2 b.toNat ∧ (e_X5_regard G b) 24 2 = G 3 b.toNat ∧ (e_X5_regard G b) 24 3 = G 4 b.toNat ∧ (e_X5_regard G b) 24 4 = G 5 b.toNat ∧ (e_X5_regard G b) 24 5 = 0 ∧ (e_X5_regard G b) 24 6 = 0 ∧ (e_X5_regard G b) 24 7 = 0 ∧ ∀ k, k ≠ 24 → (e_X5_regard G b) k = G k := by
  have hh : ∀ H : mG, H 1 = G 1 → f_X0_has H b = 1 := by
    intro H h1
    have := fa_X0_has H b
    rw [h1] at this
    omega
  have a1 : ∀ H : mG, H 1 = G 1 → H 2 = G 2 → f_X0_districtOf H b = G 2 b.toNat := fun H h1 h2 => by unfold f_X0_districtOf; rw [hh H h1, if_neg (by decide), h2]
  have a2 : ∀ H : mG, H 1 = G 1 → H 3 = G 3 → f_X0_qualityOf H b = G 3 b.toNat := fun H h1 h2 => by unfold f_X0_qualityOf; rw [hh H h1, if_neg (by decide), h2]
  have a3 : ∀ H : mG, H 1 = G 1 → H 4 = G 4 → f_X0_audienceOf H b = G 4 b.toNat := fun H h1 h2 => by unfold f_X0_audienceOf; rw [hh H h1, if_neg (by decide), h2]
  have a4 : ∀ H : mG, H 1 = G 1 → H 5 = G 5 → f_X0_marksOf H b = G 5 b.toNat := fun H h1 h2 => by unfold f_X0_marksOf; rw [hh H h1, if_neg (by decide), h2]
  unfold e_X5_regard
  rw [a1 G rfl rfl]
  rw [a2 _ (by rw [gs_ne (by decide)]) (by rw [gs_ne (by decide)])]
  rw [a3 _ (by rw [gs_ne (by decide), gs_ne (by decide)]) (by rw [gs_ne (by decide), gs_ne (by decide)])]
  rw [a4 _ (by rw [gs_ne (by decide), gs_ne (by decide), gs_ne (by decide)]) (by rw [gs_ne (by decide), gs_ne (by decide), gs_ne (by decide)])]
  refine ⟨?_, ?_, ?_, ?_, ?_, ?_, ?_, fun k hk => ?_⟩
  · rw [gs_at_ne (by decide), gs_at_ne (by decide), gs_at_ne (by decide), gs_at_ne (by decide), gs_at_ne (by decide), gs_at_ne (by decide), gs_at]
  · rw [gs_at_ne (by decide), gs_at_ne (by decide), gs_at_ne (by decide), gs_at_ne (by decide), gs_at_ne (by decide), gs_at]
  · rw [gs_at_ne (by decide), gs_at_ne (by decide), gs_at_ne (by decide), gs_at_ne (by decide), gs_at]
  · rw [gs_at_ne (by decide), gs_at_ne (by decide), gs_at_ne (by decide), gs_at]
  · rw [gs_at_ne (by decide), gs_at_ne (by decide), gs_at]
  · rw [gs_at_ne (by decide), gs_at]
  · rw [gs_at]
  · rw [gs_ne hk, gs_ne hk, gs_ne hk, gs_ne hk, gs_ne hk, gs_ne hk, gs_ne hk]
theorem asks_eq (G : mG) (b : Int) : (e_X12_asksBoard G b) 106 0 = G 94 b.toNat ∧ (e_X12_asksBoard G b) 106 1 = G 95 b.toNat ∧ (e_X12_asksBoard G b) 106 2 = G 96 b.toNat ∧ (e_X12_asksBoard G b) 106 3 = 0 ∧ (e_X12_asksBoard G b) 106 4 = 0 ∧ (e_X12_asksBoard G b) 106 5 = 0 ∧ ∀ k, k ≠ 106 → (e_X12_asksBoard G b) k = G k := by
  unfold e_X12_asksBoard
  refine ⟨?_, ?_, ?_, ?_, ?_, ?_, fun k hk => ?_⟩
  · rw [gs_at_ne (by decide), gs_at_ne (by decide), gs_at_ne (by decide), gs_at_ne (by decide), gs_at_ne (by decide)]; exact gs_at _ _ _ _
  · rw [gs_at_ne (by decide), gs_at_ne (by decide), gs_at_ne (by decide), gs_at_ne (by decide)]; exact gs_at _ _ _ _
  · rw [gs_at_ne (by decide), gs_at_ne (by decide), gs_at_ne (by decide)]; exact gs_at _ _ _ _
  · rw [gs_at_ne (by decide), gs_at_ne (by decide)]; exact gs_at _ _ _ _
  · rw [gs_at_ne (by decide)]; exact gs_at _ _ _ _
  · exact gs_at _ _ _ _
  · rw [gs_ne hk, gs_ne hk, gs_ne hk, gs_ne hk, gs_ne hk, gs_ne hk]
/-- the first bar, on both sides -/
theorem bar_eq {c : Nat} {G : mG} (h : Cpl c G) {b : Int} (hb : 0 ≤ b ∧ b < G 1 6) {x : Int} {n : Nat} (hn : (n : Int) = G c 12) {H G1 : mG} (hH : ∀ i, i < 12 → H (c + i) = G (c + i)) (u1 : H 24 1 = G 2 b.toNat) (u2 : H 24 2 = G 3 b.toNat) (u3 : H 24 3 = G 4 b.toNat) (u4 : H 24 4 = G 5 b.toNat) (u5 : H 24 5 = 0) (u6 : H 24 6 = 0) (u7 : H 24 7 = 0) (hG1 : ∀ k, k ∈ ([77, 78, 82, 83, 86, 87, 88, 89, 90, 91, 92, 94, 95, 96, 97] : List Nat) → G1 k = G k) (h18 : G1 64 18 = G 64 18) :
    fs (fun j => decide (f_X1_kindOf c H (j : Int) = 21) && (decide (f_X1_ownerOf c H (j : Int) = x) && hCl c H j)) (H c 12).toNat = fs (pR (e_X12_asksBoard G1 b) 1 b x) n := by
  have hc := Cpl_c h
  obtain ⟨p1, p2, ⟨p3, p4, p5, p6, p7, p8⟩, p9, p10, p11, p12, p13, p14⟩ := h.1.1
  obtain ⟨a1, a2, a3, a4, a5, a6, a7⟩ := asks_eq G1 b
  refine cp_fs h hH (fun k hk => ?_) ?_ (Or.inl ⟨rfl, rfl⟩) hn ?_ ?_ ?_ ?_ ?_ ?_ ?_ ?_
  · rw [a7 k (by simp only [List.mem_cons, List.not_mem_nil, or_false] at hk; omega)]
    exact hG1 k (by simp only [List.mem_cons, List.not_mem_nil, or_false] at hk ⊢; omega)
  · rw [a7 64 (by decide)]; exact h18
  · rw [a7 97 (by decide), hG1 97 (by decide), p6]; exact p11 _
  · rw [u1, a1, hG1 94 (by decide), p3]
  · rw [u2, a2, hG1 95 (by decide), p4]
  · rw [u3, a3, hG1 96 (by decide), p5]
  · rw [u4, a7 97 (by decide), hG1 97 (by decide), p6]
  · rw [u5, a4]
  · rw [u6, a5]
  · rw [u7, a6]
/-- what a class's public method rests on -/
theorem Cpl_p {c : Nat} {G : mG} (h : Cpl c G) : G 0 8 = ((c + 5 : Nat) : Int) := by
  rcases h.2.1 with ⟨r, _, h8, _⟩ | ⟨r, _, h8, _⟩ <;> rw [h8, r] <;> rfl
theorem Cpl_l {c : Nat} {G : mG} (h : Cpl c G) : 0 ≤ G 64 18 ∧ G 64 18 ≤ 1 := by
  rcases h.2.1 with ⟨_, h18, _⟩ | ⟨_, h18, _⟩ <;> rw [h18] <;> decide
theorem rW_h {G H : mG} (h : rW G) (hk : ∀ k, ¬ k ∈ ([24, 25, 26, 27, 28] : List Nat) → H k = G k) : rW H :=
  rW_to h (by rw [hk 64 (by decide)]) (fun k hm => hk k (by simp only [List.mem_cons, List.not_mem_nil, or_false] at hm ⊢; omega))
section PMB
variable {c : Nat} {G : mG}
theorem pm_bars (h : Cpl c G) (b x : Int) : bth 60 M_X11_may M_X12_may [mI b, mI x] G ∧ bth 60 M_X11_bar M_X12_bar [mI b, mI x] G := by
  have hc := Cpl_c h
  have hlv := Cpl_l h
  have hB := h.1.1
  have hC5 := h.2.2.1
  obtain ⟨n, hn⟩ : ∃ n : Nat, (n : Int) = G c 12 := ⟨(G c 12).toNat, by have := hC5.2.2.1; omega⟩
  have n40 : n ≤ 40 := by have := hC5.2.2.1; omega
  have f1 := fa_X0_has G b
  have f2 := fa_X1_hasCampaign c G x
  have hB1 := hB.1
  have hC1 := hC5.1
  by_cases q : (0 ≤ b ∧ b < G 1 6) ∧ (0 ≤ x ∧ x < G c 11)
  · obtain ⟨H, hH⟩ : ∃ H, (r_X5_firstHolding c (e_X5_regard G b) 21 x).2 = H := ⟨_, rfl⟩
    obtain ⟨r1, r2, r3, r4, r5, r6, r7, r8⟩ := regard_eq (G := G) (b := b) ⟨q.1.1, q.1.2, by omega⟩
    have kH : ∀ k, ¬ k ∈ ([24, 25] : List Nat) → H k = G k := fun k hk => by
      simp only [List.mem_cons, List.not_mem_nil, or_false] at hk
      rw [← hH, fr_X5_firstHolding (fun a ha => by simp only [List.mem_cons, List.not_mem_nil, or_false] at ha; omega), r8 k (by omega)]
    have k64 : H 64 = G 64 := kH 64 (by decide)
    have hCH : Cpl c H := Cpl_to h kH (by decide) (fun j _ => by rw [k64])
    have e : (r_X5_firstHolding c (e_X5_regard G b) 21 x).1 = fs (pR (e_X12_asksBoard H b) 1 b x) n := by
      rw [fh_eq hc (cB_to h.2.2.2.2.1 (r8 c (by omega)) (r8 _ (by omega)) (r8 _ (by omega)))]
      exact bar_eq h q.1 hn (fun i hi => r8 _ (by omega)) r1 r2 r3 r4 r5 r6 r7 (fun k hk => kH k (by simp only [List.mem_cons, List.not_mem_nil, or_false] at hk ⊢; omega)) (by rw [k64])
    have g1 : f_X12_isBoard H b = 1 := by have := fa_X12_isBoard H b; rw [k64, hB.2.1] at this; omega
    have g2 : f_X12_isCampaign H x = 1 := by have := fa_X12_isCampaign H x; rw [k64, kH 72 (by decide), hC5.2.1] at this; omega
    have hn76 : (n : Int) = H 76 (H 64 18).toNat := by rw [k64, kH 76 (by decide), hC5.2.2.2.1]; exact hn
    have mk : ∀ G2 : mG, (∀ k, k ≠ 106 → k ≠ 107 → G2 k = H k) → ∃ c, Cpl c G2 := fun G2 hG2 =>
      ⟨c, Cpl_to hCH (W := [106, 107]) (fun k hk => hG2 k (fun e => hk (by rw [e]; decide)) (fun e => hk (by rw [e]; decide))) (by decide) (fun j _ => by rw [hG2 64 (by decide) (by decide)])⟩
    have m1 : r_X11_may c G b x = (if (r_X5_firstHolding c (e_X5_regard G b) 21 x).1 = -1 then 1 else 0, H) := by
      unfold r_X11_may
      rw [if_neg (by omega), if_pos (by omega)]
      show (if ¬ (r_X5_firstHolding c (e_X5_regard G b) 21 x).1 = -1 then (0, (r_X5_firstHolding c (e_X5_regard G b) 21 x).2) else (1, (r_X5_firstHolding c (e_X5_regard G b) 21 x).2)) = _
      rw [hH]
      by_cases z : (r_X5_firstHolding c (e_X5_regard G b) 21 x).1 = -1
      · rw [if_neg (fun y => y z), if_pos z]
      · rw [if_pos z, if_neg z]
    have m2 : r_X11_bar c G b x = ((r_X5_firstHolding c (e_X5_regard G b) 21 x).1, H) := by
      unfold r_X11_bar
      rw [if_neg (by omega), if_pos (by omega)]
      show ((r_X5_firstHolding c (e_X5_regard G b) 21 x).1, (r_X5_firstHolding c (e_X5_regard G b) 21 x).2) = _
      rw [hH]
    constructor
    · refine bth_mk2 (G1 := H) (x := if (r_X5_firstHolding c (e_X5_regard G b) 21 x).1 = -1 then 1 else 0) (y := v_X12_may H b x n) (R := fun G2 => ∀ k, k ≠ 106 → k ≠ 107 → G2 k = H k) (fun _ z => sp_X11_may hc (Cpl_p h) hC1.2 hC5.2.2.1.2 h.2.2.2.2.1 h.1.2.1.1.2 hB1.2 (allD (by decide)) (by rw [m1]; exact z)) (fun _ z => sp_X12_may (by rw [k64]; exact hlv) (by rw [k64, hB.2.1]; exact hB1) hn76 n40 hCH.2.2.2.2.2 (allD (by decide)) z) ?_ mk
      unfold v_X12_may
      rw [g1, g2, if_neg (by decide), if_neg (by decide), e]
    · refine bth_mk2 (G1 := H) (x := (r_X5_firstHolding c (e_X5_regard G b) 21 x).1) (y := v_X12_bar H b x n) (R := fun G2 => ∀ k, k ≠ 106 → k ≠ 107 → G2 k = H k) (fun _ z => sp_X11_bar hc (Cpl_p h) hC1.2 hC5.2.2.1.2 h.2.2.2.2.1 h.1.2.1.1.2 hB1.2 (allD (by decide)) (by rw [m2]; exact z)) (fun _ z => sp_X12_bar (by rw [k64]; exact hlv) (by rw [k64, hB.2.1]; exact hB1) hn76 n40 hCH.2.2.2.2.2 (allD (by decide)) z) ?_ mk
      unfold v_X12_bar
      rw [g1, g2, if_neg (by decide), if_neg (by decide), e]
  · have hn76 : (n : Int) = G 76 (G 64 18).toNat := by rw [hC5.2.2.2.1]; exact hn
    have mk : ∀ G2 : mG, (∀ k, k ≠ 106 → k ≠ 107 → G2 k = G k) → ∃ c, Cpl c G2 := fun G2 hG2 =>
      ⟨c, Cpl_to h (W := [106, 107]) (fun k hk => hG2 k (fun e => hk (by rw [e]; decide)) (fun e => hk (by rw [e]; decide))) (by decide) (fun j _ => by rw [hG2 64 (by decide) (by decide)])⟩
    have g1 := fa_X12_isBoard G b
    have g2 := fa_X12_isCampaign G x
    rw [hB.2.1] at g1
    rw [hC5.2.1] at g2
    have v1 : v_X12_may G b x n = -1 := by
      unfold v_X12_may
      by_cases z1 : f_X12_isBoard G b = 0
      · rw [if_pos z1]
      · rw [if_neg z1, if_pos (by omega)]
    have v2 : v_X12_bar G b x n = -1 := by
      unfold v_X12_bar
      by_cases z1 : f_X12_isBoard G b = 0
      · rw [if_pos z1]
      · rw [if_neg z1, if_pos (by omega)]
    have m1 : r_X11_may c G b x = (-1, G) := by
      unfold r_X11_may
      by_cases z1 : f_X0_has G b = 0
      · rw [if_pos z1]
      · rw [if_neg z1, if_neg (by omega)]
    have m2 : r_X11_bar c G b x = (-1, G) := by
      unfold r_X11_bar
      by_cases z1 : f_X0_has G b = 0
      · rw [if_pos z1]
      · rw [if_neg z1, if_neg (by omega)]
    constructor
    · exact bth_mk2 (G1 := G) (x := -1) (y := v_X12_may G b x n) (R := fun G2 => ∀ k, k ≠ 106 → k ≠ 107 → G2 k = G k) (fun _ z => sp_X11_may hc (Cpl_p h) hC1.2 hC5.2.2.1.2 h.2.2.2.2.1 h.1.2.1.1.2 hB1.2 (allD (by decide)) (by rw [m1]; exact z)) (fun _ z => sp_X12_may hlv (by rw [hB.2.1]; exact hB1) hn76 n40 h.2.2.2.2.2 (allD (by decide)) z) v1 mk
    · exact bth_mk2 (G1 := G) (x := -1) (y := v_X12_bar G b x n) (R := fun G2 => ∀ k, k ≠ 106 → k ≠ 107 → G2 k = G k) (fun _ z => sp_X11_bar hc (Cpl_p h) hC1.2 hC5.2.2.1.2 h.2.2.2.2.1 h.1.2.1.1.2 hB1.2 (allD (by decide)) (by rw [m2]; exact z)) (fun _ z => sp_X12_bar hlv (by rw [hB.2.1]; exact hB1) hn76 n40 h.2.2.2.2.2 (allD (by decide)) z) v2 mk
end PMB
