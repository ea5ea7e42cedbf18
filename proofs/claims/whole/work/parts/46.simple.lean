/-! ===== the public methods that tell: place, back, pace, fact, feed; count ===== -/
section PMS
variable {c : Nat} {G : mG}
theorem pm_place (h : Cpl c G) : bth 60 M_X11_place M_X12_place [] G :=
  bth_mk (G1 := G) (G2 := G) (x := f_X11_place G) (y := f_X12_place G) (fun _ q => sp_X11_place q) (fun _ q => sp_X12_place q) h.1.2.2.2.2.2 ⟨c, h⟩
theorem pm_back (h : Cpl c G) (n : Int) : bth 60 M_X11_back M_X12_back [mI n] G := by
  have hT := h.1.2.2
  have hT1 := hT.1
  have e1 : r_X11_back G n = if 0 ≤ n ∧ n ≤ G 13 1 then (G 13 1 - n, gs G 13 1 (G 13 1 - n)) else (-1, G) := by
    unfold r_X11_back r_X9_drop f_X9_length
    by_cases q1 : n < 0
    · simp only [if_pos q1, if_neg (show ¬ (0 ≤ n ∧ n ≤ G 13 1) by omega)]; rfl
    · by_cases q2 : n ≤ G 13 1
      · have e : w32 (G 13 1 - n) = G 13 1 - n := w32_i (by omega) (by omega)
        simp only [if_neg q1, if_pos q2, if_pos (show 0 ≤ n ∧ n ≤ G 13 1 by omega), e, gs_at]
        rfl
      · simp only [if_neg q1, if_neg q2, if_neg (show ¬ (0 ≤ n ∧ n ≤ G 13 1) by omega)]; rfl
  have e2 : ∀ H : mG, H 64 2 = G 13 1 → r_X12_back H n = if 0 ≤ n ∧ n ≤ G 13 1 then (G 13 1 - n, gs H 64 2 (G 13 1 - n)) else (-1, H) := by
    intro H hH
    unfold r_X12_back
    rw [hH]
    by_cases q1 : n < 0
    · rw [if_pos q1, if_neg (by omega)]
    · by_cases q2 : n ≤ G 13 1
      · rw [if_neg q1, if_pos q2, if_pos (by omega), w32_i (by omega) (by omega)]
      · rw [if_neg q1, if_neg q2, if_neg (by omega)]
  by_cases q : 0 ≤ n ∧ n ≤ G 13 1
  · rw [if_pos q] at e1
    have e3 := e2 (gs G 13 1 (G 13 1 - n)) (by rw [gs_ne (by decide)]; exact hT.2.1)
    rw [if_pos q] at e3
    refine bth_mk (x := G 13 1 - n) (y := G 13 1 - n) (G1 := gs G 13 1 (G 13 1 - n)) (G2 := gs (gs G 13 1 (G 13 1 - n)) 64 2 (G 13 1 - n)) (fun _ z => sp_X11_back (allD (by decide)) (by rw [e1]; exact z)) (fun _ z => sp_X12_back (allD (by decide)) (by rw [e3]; exact z)) rfl ?_
    have hW : ∀ k, ¬ k ∈ ([13, 64] : List Nat) → (gs (gs G 13 1 (G 13 1 - n)) 64 2 (G 13 1 - n)) k = G k := fun k hk => by
      rw [gs_ne (fun e => hk (by rw [e]; decide)), gs_ne (fun e => hk (by rw [e]; decide))]
    have f : ∀ j, j ≠ 2 → (gs (gs G 13 1 (G 13 1 - n)) 64 2 (G 13 1 - n)) 64 j = G 64 j := fun j hj => by rw [gs_at_ne hj, gs_ne (by decide)]
    obtain ⟨r1, r2, r3, r4⟩ := cpR_to h hW (by decide) (by decide) (by decide) (f 18 (by decide))
    have hc := Cpl_c h
    obtain ⟨⟨b1, b2, b3⟩, b4, b5, b6, b7, b8⟩ := h
    refine ⟨c, ⟨cpB_to b1 hW (by decide) (f 44 (by decide)), cpF_to b2 hW (by decide) (f 51 (by decide)), ?_, ?_, ?_, ?_⟩, r1, r2, cpG_to hc b6 hW (by decide) (by decide), r3, r4⟩
    · rw [gs_ne (by decide), gs_at]; omega
    · rw [gs_at, gs_ne (by decide), gs_at]
    · rw [hW 65 (by decide), hW 14 (by decide)]; exact b3.2.2.1
    · rw [f 17 (by decide), hW 0 (by decide)]; exact b3.2.2.2
  · rw [if_neg q] at e1
    have e3 := e2 G hT.2.1
    rw [if_neg q] at e3
    exact bth_mk (x := -1) (y := -1) (G1 := G) (G2 := G) (fun _ z => sp_X11_back (allD (by decide)) (by rw [e1]; exact z)) (fun _ z => sp_X12_back (allD (by decide)) (by rw [e3]; exact z)) rfl ⟨c, h⟩
theorem pm_pace (h : Cpl c G) (x y : Int) : bth 60 M_X11_pace M_X12_pace [mI x, mI y] G := by
  have e1 : r_X11_pace G x y = if (0 ≤ x ∧ x < 6) ∧ (1 ≤ y ∧ y ≤ 9) then (1, gs G 7 x.toNat y) else (0, G) := by
    show r_X0_setPace G x y = _
    unfold r_X0_setPace
    have f1 := fa_X0_isDistrict G x
    have f2 := fa_X0_isWithin G y 1 9
    by_cases q1 : f_X0_isDistrict G x = 0
    · rw [if_pos q1, if_neg (by omega)]
    · by_cases q2 : f_X0_isWithin G y 1 9 = 0
      · rw [if_neg q1, if_neg (fun z => z q2), if_neg (by omega)]
      · rw [if_neg q1, if_pos q2, if_pos (by omega)]
  have e2 : ∀ H : mG, r_X12_pace H x y = if (0 ≤ x ∧ x < 6) ∧ (1 ≤ y ∧ y ≤ 9) then (1, gs H 99 x.toNat y) else (0, H) := by
    intro H
    unfold r_X12_pace
    by_cases q1 : x < 0
    · rw [if_pos q1, if_neg (by omega)]
    · by_cases q2 : 5 < x
      · rw [if_neg q1, if_pos q2, if_neg (by omega)]
      · by_cases q3 : y < 1
        · rw [if_neg q1, if_neg q2, if_pos q3, if_neg (by omega)]
        · by_cases q4 : y ≤ 9
          · rw [if_neg q1, if_neg q2, if_neg q3, if_pos q4, if_pos (by omega)]
          · rw [if_neg q1, if_neg q2, if_neg q3, if_neg q4, if_neg (by omega)]
  by_cases q : (0 ≤ x ∧ x < 6) ∧ (1 ≤ y ∧ y ≤ 9)
  · rw [if_pos q] at e1
    have e3 := e2 (gs G 7 x.toNat y)
    rw [if_pos q] at e3
    refine bth_mk (x := 1) (y := 1) (G1 := gs G 7 x.toNat y) (G2 := gs (gs G 7 x.toNat y) 99 x.toNat y) (fun _ z => sp_X11_pace (allD (by decide)) (by rw [e1]; exact z)) (fun _ z => sp_X12_pace (allD (by decide)) (by rw [e3]; exact z)) rfl ?_
    have hW : ∀ k, ¬ k ∈ ([7, 99] : List Nat) → (gs (gs G 7 x.toNat y) 99 x.toNat y) k = G k := fun k hk => by
      rw [gs_ne (fun e => hk (by rw [e]; decide)), gs_ne (fun e => hk (by rw [e]; decide))]
    have f : ∀ j, (gs (gs G 7 x.toNat y) 99 x.toNat y) 64 j = G 64 j := fun j => by rw [hW 64 (by decide)]
    obtain ⟨r1, r2, r3, r4⟩ := cpR_to h hW (by decide) (by decide) (by decide) (f 18)
    have hc := Cpl_c h
    obtain ⟨⟨b1, b2, b3⟩, b4, b5, b6, b7, b8⟩ := h
    obtain ⟨p1, p2, ⟨p3, p4, p5, p6, p7, p8⟩, p9, p10, p11, p12, p13, p14⟩ := b1
    have e7 : gs (gs G 7 x.toNat y) 99 x.toNat y 7 = fun i => if i = x.toNat then y else G 7 i := by rw [gs_ne (by decide), gs_row]
    have e99 : gs (gs G 7 x.toNat y) 99 x.toNat y 99 = fun i => if i = x.toNat then y else G 7 i := by rw [gs_row, gs_ne (by decide), p8]
    refine ⟨c, ⟨?_, cpF_to b2 hW (by decide) (f 51), cpT_to b3 hW (by decide) (f 2) (f 17)⟩, r1, r2, cpG_to hc b6 hW (by decide) (by decide), r3, r4⟩
    unfold cpB
    rw [f 44, e7, e99, hW 1 (by decide), hW 2 (by decide), hW 3 (by decide), hW 4 (by decide), hW 5 (by decide), hW 6 (by decide), hW 94 (by decide), hW 95 (by decide), hW 96 (by decide), hW 97 (by decide), hW 98 (by decide)]
    refine ⟨p1, p2, ⟨p3, p4, p5, p6, p7, rfl⟩, p9, p10, p11, fun i hi => ?_, p13, p14⟩
    show 1 ≤ (if i = x.toNat then y else G 7 i) ∧ (if i = x.toNat then y else G 7 i) ≤ 9
    by_cases hi2 : i = x.toNat
    · rw [if_pos hi2]; omega
    · rw [if_neg hi2]; exact p12 i hi
  · rw [if_neg q] at e1
    have e3 := e2 G
    rw [if_neg q] at e3
    exact bth_mk (x := 0) (y := 0) (G1 := G) (G2 := G) (fun _ z => sp_X11_pace (allD (by decide)) (by rw [e1]; exact z)) (fun _ z => sp_X12_pace (allD (by decide)) (by rw [e3]; exact z)) rfl ⟨c, h⟩
theorem pm_fact (h : Cpl c G) (kd b f dy : Int) : bth 60 M_X11_fact M_X12_fact [mI kd, mI b, mI f, mI dy] G := by
  have hF := h.1.2.1
  have hF1 := hF.1
  have hB := h.1.1
  have hB1 := hB.1
  have w1 : w32 (G 8 4 + 1) = G 8 4 + 1 := w32_i (by omega) (by omega)
  have w2 : w32 (G 8 4 + 1 - 1) = G 8 4 := by rw [w32_i (by omega) (by omega)]; omega
  have e1 : r_X11_fact G kd b f dy = if (0 ≤ b ∧ b < G 1 6) ∧ G 8 4 < 300 ∧ (0 ≤ kd ∧ kd ≤ 4) ∧ (0 ≤ f ∧ f < 26) ∧ 0 ≤ dy ∧ dy ≤ 13 ∧ (kd = 4 → dy ≤ 0) then (G 8 4, gs (gs (gs (gs (gs G 9 (G 8 4).toNat kd) 10 (G 8 4).toNat b) 11 (G 8 4).toNat f) 12 (G 8 4).toNat dy) 8 4 (G 8 4 + 1)) else (-1, G) := by
    have f1 := fa_X0_has G b
    have f2 := fa_X11_isFortnight G f
    unfold r_X11_fact
    rw [show ((r_X3_add G kd b f dy).1, (r_X3_add G kd b f dy).2) = r_X3_add G kd b f dy from rfl]
    unfold r_X3_add
    rw [w1, w2]
    repeat' split
    all_goals first | rfl | omega
  have e2 : ∀ H : mG, H 64 51 = G 8 4 → H 64 44 = G 1 6 → r_X12_fact H kd b f dy = if (0 ≤ b ∧ b < G 1 6) ∧ G 8 4 < 300 ∧ (0 ≤ kd ∧ kd ≤ 4) ∧ (0 ≤ f ∧ f < 26) ∧ 0 ≤ dy ∧ dy ≤ 13 ∧ (kd = 4 → dy ≤ 0) then (G 8 4, gs (gs (gs (gs (gs H 100 (G 8 4).toNat kd) 101 (G 8 4).toNat b) 102 (G 8 4).toNat f) 103 (G 8 4).toNat dy) 64 51 (G 8 4 + 1)) else (-1, H) := by
    intro H h51 h44
    have f1 := fa_X12_isBoard H b
    have f2 := fa_X12_isFortnight H f
    unfold r_X12_fact
    rw [h51, w1, w2]
    rw [h44] at f1
    repeat' split
    all_goals first | rfl | omega
  by_cases q : (0 ≤ b ∧ b < G 1 6) ∧ G 8 4 < 300 ∧ (0 ≤ kd ∧ kd ≤ 4) ∧ (0 ≤ f ∧ f < 26) ∧ 0 ≤ dy ∧ dy ≤ 13 ∧ (kd = 4 → dy ≤ 0)
  · rw [if_pos q] at e1
    have e3 := e2 (gs (gs (gs (gs (gs G 9 (G 8 4).toNat kd) 10 (G 8 4).toNat b) 11 (G 8 4).toNat f) 12 (G 8 4).toNat dy) 8 4 (G 8 4 + 1)) (by rw [gs_ne (by decide), gs_ne (by decide), gs_ne (by decide), gs_ne (by decide), gs_ne (by decide)]; exact hF.2.1) (by rw [gs_ne (by decide), gs_ne (by decide), gs_ne (by decide), gs_ne (by decide), gs_ne (by decide)]; exact hB.2.1)
    rw [if_pos q] at e3
    generalize hn : (G 8 4).toNat = n at e1 e3
    refine bth_mk (x := G 8 4) (y := G 8 4) (G1 := gs (gs (gs (gs (gs G 9 n kd) 10 n b) 11 n f) 12 n dy) 8 4 (G 8 4 + 1)) (G2 := gs (gs (gs (gs (gs (gs (gs (gs (gs (gs G 9 n kd) 10 n b) 11 n f) 12 n dy) 8 4 (G 8 4 + 1)) 100 n kd) 101 n b) 102 n f) 103 n dy) 64 51 (G 8 4 + 1)) (fun _ z => sp_X11_fact (allD (by decide)) (by rw [e1]; exact z)) (fun _ z => sp_X12_fact (by rw [gs_ne (by decide), gs_ne (by decide), gs_ne (by decide), gs_ne (by decide), gs_ne (by decide), hF.2.1]; exact hF1) (allD (by decide)) (by rw [e3]; exact z)) rfl ?_
    have g64 : ∀ j, j ≠ 51 → (gs (gs (gs (gs (gs (gs (gs (gs (gs (gs G 9 n kd) 10 n b) 11 n f) 12 n dy) 8 4 (G 8 4 + 1)) 100 n kd) 101 n b) 102 n f) 103 n dy) 64 51 (G 8 4 + 1)) 64 j = G 64 j := fun j hj => by
      rw [gs_at_ne hj, gs_ne (by decide), gs_ne (by decide), gs_ne (by decide), gs_ne (by decide), gs_ne (by decide), gs_ne (by decide), gs_ne (by decide), gs_ne (by decide), gs_ne (by decide)]
    have hW : ∀ k, ¬ k ∈ ([8, 9, 10, 11, 12, 64, 100, 101, 102, 103] : List Nat) → (gs (gs (gs (gs (gs (gs (gs (gs (gs (gs G 9 n kd) 10 n b) 11 n f) 12 n dy) 8 4 (G 8 4 + 1)) 100 n kd) 101 n b) 102 n f) 103 n dy) 64 51 (G 8 4 + 1)) k = G k := fun k hk => by
      rw [gs_ne (fun e => hk (by rw [e]; decide)), gs_ne (fun e => hk (by rw [e]; decide)), gs_ne (fun e => hk (by rw [e]; decide)), gs_ne (fun e => hk (by rw [e]; decide)), gs_ne (fun e => hk (by rw [e]; decide)), gs_ne (fun e => hk (by rw [e]; decide)), gs_ne (fun e => hk (by rw [e]; decide)), gs_ne (fun e => hk (by rw [e]; decide)), gs_ne (fun e => hk (by rw [e]; decide)), gs_ne (fun e => hk (by rw [e]; decide))]
    obtain ⟨r1, r2, r3, r4⟩ := cpR_to h hW (by decide) (by decide) (by decide) (g64 18 (by decide))
    have hc := Cpl_c h
    obtain ⟨⟨b1, b2, b3⟩, b4, b5, b6, b7, b8⟩ := h
    obtain ⟨p1, p2, ⟨p3, p4, p5, p6⟩, p7, p8⟩ := b2
    refine ⟨c, ⟨cpB_to b1 hW (by decide) (g64 44 (by decide)), ?_, cpT_to b3 hW (by decide) (g64 2 (by decide)) (g64 17 (by decide))⟩, r1, r2, cpG_to hc b6 hW (by decide) (by decide), r3, r4⟩
    have i8 : (gs (gs (gs (gs (gs (gs (gs (gs (gs (gs G 9 n kd) 10 n b) 11 n f) 12 n dy) 8 4 (G 8 4 + 1)) 100 n kd) 101 n b) 102 n f) 103 n dy) 64 51 (G 8 4 + 1)) 8 4 = G 8 4 + 1 := by
      rw [gs_ne (by decide), gs_ne (by decide), gs_ne (by decide), gs_ne (by decide), gs_ne (by decide), gs_at]
    have i9 : (gs (gs (gs (gs (gs (gs (gs (gs (gs (gs G 9 n kd) 10 n b) 11 n f) 12 n dy) 8 4 (G 8 4 + 1)) 100 n kd) 101 n b) 102 n f) 103 n dy) 64 51 (G 8 4 + 1)) 9 = fun i => if i = n then kd else G 9 i := by
      rw [gs_ne (by decide), gs_ne (by decide), gs_ne (by decide), gs_ne (by decide), gs_ne (by decide), gs_ne (by decide), gs_ne (by decide), gs_ne (by decide), gs_ne (by decide), gs_row]
    have i10 : (gs (gs (gs (gs (gs (gs (gs (gs (gs (gs G 9 n kd) 10 n b) 11 n f) 12 n dy) 8 4 (G 8 4 + 1)) 100 n kd) 101 n b) 102 n f) 103 n dy) 64 51 (G 8 4 + 1)) 10 = fun i => if i = n then b else G 10 i := by
      rw [gs_ne (by decide), gs_ne (by decide), gs_ne (by decide), gs_ne (by decide), gs_ne (by decide), gs_ne (by decide), gs_ne (by decide), gs_ne (by decide), gs_row, gs_ne (by decide)]
    have i11 : (gs (gs (gs (gs (gs (gs (gs (gs (gs (gs G 9 n kd) 10 n b) 11 n f) 12 n dy) 8 4 (G 8 4 + 1)) 100 n kd) 101 n b) 102 n f) 103 n dy) 64 51 (G 8 4 + 1)) 11 = fun i => if i = n then f else G 11 i := by
      rw [gs_ne (by decide), gs_ne (by decide), gs_ne (by decide), gs_ne (by decide), gs_ne (by decide), gs_ne (by decide), gs_ne (by decide), gs_row, gs_ne (by decide), gs_ne (by decide)]
    have i12 : (gs (gs (gs (gs (gs (gs (gs (gs (gs (gs G 9 n kd) 10 n b) 11 n f) 12 n dy) 8 4 (G 8 4 + 1)) 100 n kd) 101 n b) 102 n f) 103 n dy) 64 51 (G 8 4 + 1)) 12 = fun i => if i = n then dy else G 12 i := by
      rw [gs_ne (by decide), gs_ne (by decide), gs_ne (by decide), gs_ne (by decide), gs_ne (by decide), gs_ne (by decide), gs_row, gs_ne (by decide), gs_ne (by decide), gs_ne (by decide)]
    have i100 : (gs (gs (gs (gs (gs (gs (gs (gs (gs (gs G 9 n kd) 10 n b) 11 n f) 12 n dy) 8 4 (G 8 4 + 1)) 100 n kd) 101 n b) 102 n f) 103 n dy) 64 51 (G 8 4 + 1)) 100 = fun i => if i = n then kd else G 9 i := by
      rw [gs_ne (by decide), gs_ne (by decide), gs_ne (by decide), gs_ne (by decide), gs_row, gs_ne (by decide), gs_ne (by decide), gs_ne (by decide), gs_ne (by decide), gs_ne (by decide), p3]
    have i101 : (gs (gs (gs (gs (gs (gs (gs (gs (gs (gs G 9 n kd) 10 n b) 11 n f) 12 n dy) 8 4 (G 8 4 + 1)) 100 n kd) 101 n b) 102 n f) 103 n dy) 64 51 (G 8 4 + 1)) 101 = fun i => if i = n then b else G 10 i := by
      rw [gs_ne (by decide), gs_ne (by decide), gs_ne (by decide), gs_row, gs_ne (by decide), gs_ne (by decide), gs_ne (by decide), gs_ne (by decide), gs_ne (by decide), gs_ne (by decide), p4]
    have i102 : (gs (gs (gs (gs (gs (gs (gs (gs (gs (gs G 9 n kd) 10 n b) 11 n f) 12 n dy) 8 4 (G 8 4 + 1)) 100 n kd) 101 n b) 102 n f) 103 n dy) 64 51 (G 8 4 + 1)) 102 = fun i => if i = n then f else G 11 i := by
      rw [gs_ne (by decide), gs_ne (by decide), gs_row, gs_ne (by decide), gs_ne (by decide), gs_ne (by decide), gs_ne (by decide), gs_ne (by decide), gs_ne (by decide), gs_ne (by decide), p5]
    have i103 : (gs (gs (gs (gs (gs (gs (gs (gs (gs (gs G 9 n kd) 10 n b) 11 n f) 12 n dy) 8 4 (G 8 4 + 1)) 100 n kd) 101 n b) 102 n f) 103 n dy) 64 51 (G 8 4 + 1)) 103 = fun i => if i = n then dy else G 12 i := by
      rw [gs_ne (by decide), gs_row, gs_ne (by decide), gs_ne (by decide), gs_ne (by decide), gs_ne (by decide), gs_ne (by decide), gs_ne (by decide), gs_ne (by decide), gs_ne (by decide), p6]
    unfold cpF
    rw [i8, i9, i10, i11, i12, i100, i101, i102, i103, gs_at]
    refine ⟨by omega, rfl, ⟨rfl, rfl, rfl, rfl⟩, fun i => ?_, fun i => ?_⟩
    · show 0 ≤ (if i = n then kd else G 9 i) ∧ (if i = n then kd else G 9 i) ≤ 4
      split
      · omega
      · exact p7 i
    · show 0 ≤ (if i = n then dy else G 12 i) ∧ (if i = n then dy else G 12 i) ≤ 13
      split
      · omega
      · exact p8 i
  · rw [if_neg q] at e1
    have e3 := e2 G hF.2.1 hB.2.1
    rw [if_neg q] at e3
    exact bth_mk (x := -1) (y := -1) (G1 := G) (G2 := G) (fun _ z => sp_X11_fact (allD (by decide)) (by rw [e1]; exact z)) (fun _ z => sp_X12_fact (by rw [hF.2.1]; exact hF1) (allD (by decide)) (by rw [e3]; exact z)) rfl ⟨c, h⟩
theorem pm_count (h : Cpl c G) (w : Int) : bth 60 M_X11_count M_X12_count [mI w] G := by
  have hc := Cpl_c h
  obtain ⟨⟨b1, b2, b3⟩, b4, b5, b6, b7, b8⟩ := id h
  have hp : G 0 8 = ((c + 5 : Nat) : Int) := by rcases b4 with ⟨r, _, h8, _⟩ | ⟨r, _, h8, _⟩ <;> rw [h8, r] <;> rfl
  have hl : 0 ≤ G 64 18 ∧ G 64 18 ≤ 1 := by rcases b4 with ⟨_, h18, _⟩ | ⟨_, h18, _⟩ <;> rw [h18] <;> decide
  refine bth_mk (fun _ q => sp_X11_count hc hp b5.1.2 b5.2.2.1.2 b7 b2.1.2 b1.1.2 q) (fun _ q => sp_X12_count hl q) ?_ ⟨c, h⟩
  have e4 : fd (g_X12_count_74 G w) 0 26 = f_X4_fortnightsMade G := by
    unfold f_X4_fortnightsMade
    refine fd_congr (fun j s _ => ?_)
    unfold g_X12_count_74 g_X4_fortnightsMade_4
    rw [b6.1]
  unfold f_X12_count f_X11_count
  rw [e4, b1.2.1, b2.2.1, b5.2.1, b5.2.2.2.1, b3.2.1]
  rfl
end PMS
