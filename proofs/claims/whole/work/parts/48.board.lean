/-! ===== board ===== -/
theorem bd_fd {H R0 : mG} {a b x y z : Int} {n : Nat} (hn : R0 64 44 = (n : Int)) (hn9 : n < 9) : ∀ m, m ≤ 26 → (∀ k, k ≠ 105 → (fd (g_X12_board_125 H a b x y z) R0 m) k = R0 k) ∧ (∀ f, f < m → (fd (g_X12_board_125 H a b x y z) R0 m) 105 (9 * f + n) = -1) ∧ (∀ i, (∀ f, f < m → i ≠ 9 * f + n) → (fd (g_X12_board_125 H a b x y z) R0 m) 105 i = R0 105 i) := by
  intro m
  induction m with
  | zero => intro _; exact ⟨fun _ _ => rfl, fun f hf => absurd hf (by omega), fun _ _ => rfl⟩
  | succ m ih =>
    intro hm
    obtain ⟨i1, i2, i3⟩ := ih (by omega)
    rw [fd_s]
    generalize fd (g_X12_board_125 H a b x y z) R0 m = s at *
    have e : w32 (w32 (9 * ((m : Nat) : Int)) + s 64 44) = ((9 * m + n : Nat) : Int) := by
      rw [i1 64 (by decide), hn, w32_i (x := 9 * ((m : Nat) : Int)) (by omega) (by omega), w32_i (by omega) (by omega)]; omega
    unfold g_X12_board_125
    rw [e, st_nat]
    refine ⟨fun k hk => by rw [gs_ne hk]; exact i1 k hk, fun f hf => ?_, fun i hi => ?_⟩
    · by_cases hfm : f = m
      · rw [hfm, gs_at]
      · rw [gs_at_ne (by omega)]; exact i2 f (by omega)
    · rw [gs_at_ne (hi m (by omega))]
      exact i3 i (fun f hf => hi f (by omega))
theorem pm_board {c : Nat} {G : mG} (h : Cpl c G) (a b x y z : Int) (hz : z = 0 ∨ z = 1) : bth 60 M_X11_board M_X12_board [mI a, mI b, mI x, mI y, mI z] G := by
  have hB := h.1.1
  have hB1 := hB.1
  have w1 : Unit → w32 (G 1 6 + 1) = G 1 6 + 1 := fun _ => w32_i (by omega) (by omega)
  have w2 : Unit → w32 (G 1 6 + 1 - 1) = G 1 6 := fun _ => by rw [w32_i (by omega) (by omega)]; omega
  by_cases ok : G 1 6 < 9 ∧ (0 ≤ a ∧ a < 6) ∧ (1 ≤ b ∧ b ≤ 9) ∧ (0 ≤ x ∧ x ≤ 1000) ∧ (0 ≤ y ∧ y ≤ 255)
  · obtain ⟨n, hn⟩ : ∃ n : Nat, G 1 6 = (n : Int) := ⟨(G 1 6).toNat, by omega⟩
    obtain ⟨bz, hbz⟩ : ∃ bz : Int, bz = if z = 0 then 0 else (if G 1 6 ≤ 0 then 0 else 1) := ⟨_, rfl⟩
    have hbr : (bz = 0 ∨ bz = 1) ∧ (n = 0 → bz = 0) := by
      rw [hbz]
      repeat' split
      all_goals omega
    obtain ⟨G1, hG1⟩ : ∃ G1, gs (gs (gs (gs (gs (gs G 2 n a) 3 n b) 4 n x) 5 n y) 6 n bz) 1 6 (G 1 6 + 1) = G1 := ⟨_, rfl⟩
    have e1 : r_X11_board G a b x y z = (G 1 6, G1) := by
      show r_X0_add G a b x y z = _
      have f1 := fa_X0_isDistrict G a
      have f2 := fa_X0_isWithin G b 1 9
      have f3 := fa_X0_isWithin G x 0 1000
      have f4 := fa_X0_isWithin G y 0 255
      unfold r_X0_add
      rw [if_neg (by omega), if_neg (by omega), if_neg (by omega), if_neg (by omega), if_neg (by omega), if_pos (by omega), w1 (), w2 (), ← hG1, hn, st_nat]
      rw [hn] at hbz
      by_cases q1 : z = 0
      · rw [if_pos q1] at hbz
        rw [if_pos q1, hbz]
      · rw [if_neg q1] at hbz
        rw [if_neg q1]
        by_cases q2 : (n : Int) ≤ 0
        · rw [if_pos q2] at hbz
          rw [if_pos q2, hbz]
        · rw [if_neg q2] at hbz
          rw [if_neg q2, hbz]
    have kG : ∀ k, ¬ k ∈ ([1, 2, 3, 4, 5, 6] : List Nat) → G1 k = G k := fun k hk => by
      rw [← hG1, gs_ne (fun e => hk (by rw [e]; decide)), gs_ne (fun e => hk (by rw [e]; decide)), gs_ne (fun e => hk (by rw [e]; decide)), gs_ne (fun e => hk (by rw [e]; decide)), gs_ne (fun e => hk (by rw [e]; decide)), gs_ne (fun e => hk (by rw [e]; decide))]
    have g1 : G1 1 6 = G 1 6 + 1 := by rw [← hG1, gs_at]
    have g2 : G1 2 = fun i => if i = n then a else G 2 i := by rw [← hG1, gs_ne (by decide), gs_ne (by decide), gs_ne (by decide), gs_ne (by decide), gs_ne (by decide), gs_row]
    have g3 : G1 3 = fun i => if i = n then b else G 3 i := by rw [← hG1, gs_ne (by decide), gs_ne (by decide), gs_ne (by decide), gs_ne (by decide), gs_row, gs_ne (by decide)]
    have g4 : G1 4 = fun i => if i = n then x else G 4 i := by rw [← hG1, gs_ne (by decide), gs_ne (by decide), gs_ne (by decide), gs_row, gs_ne (by decide), gs_ne (by decide)]
    have g5 : G1 5 = fun i => if i = n then y else G 5 i := by rw [← hG1, gs_ne (by decide), gs_ne (by decide), gs_row, gs_ne (by decide), gs_ne (by decide), gs_ne (by decide)]
    have g6 : G1 6 = fun i => if i = n then bz else G 6 i := by rw [← hG1, gs_ne (by decide), gs_row, gs_ne (by decide), gs_ne (by decide), gs_ne (by decide), gs_ne (by decide)]
    have k64 : G1 64 = G 64 := kG 64 (by decide)
    have h44 : G1 64 44 = (n : Int) := by rw [k64, hB.2.1, hn]
    obtain ⟨R0, hR0⟩ : ∃ R0, gs (gs (gs (gs (gs G1 94 n a) 95 n b) 96 n x) 97 n y) 98 n bz = R0 := ⟨_, rfl⟩
    have r44 : R0 64 44 = (n : Int) := by rw [← hR0, gs_ne (by decide), gs_ne (by decide), gs_ne (by decide), gs_ne (by decide), gs_ne (by decide)]; exact h44
    obtain ⟨d1, d2, d3⟩ := bd_fd (H := G1) (a := a) (b := b) (x := x) (y := y) (z := z) r44 (by omega) 26 (Nat.le_refl _)
    have e2 : r_X12_board G1 a b x y z = (G 1 6, gs (fd (g_X12_board_125 G1 a b x y z) R0 26) 64 44 (G 1 6 + 1)) := by
      unfold r_X12_board
      rw [h44, if_neg (by omega), if_neg (by omega), if_neg (by omega), if_neg (by omega), if_neg (by omega), if_neg (by omega), if_neg (by omega), if_neg (by omega), if_pos (by omega), st_nat]
      have w1 := w1 ()
      have w2 := w2 ()
      rw [hn] at hbz w1 w2 ⊢
      by_cases q1 : z = 0
      · rw [if_pos q1] at hbz
        rw [hbz] at hR0
        rw [if_pos q1, hR0, d1 64 (by decide), r44, w1, w2]
      · rw [if_neg q1] at hbz
        rw [if_neg q1]
        by_cases q2 : (n : Int) ≤ 0
        · rw [if_pos q2] at hbz
          rw [hbz] at hR0
          rw [if_pos q2, hR0, d1 64 (by decide), r44, w1, w2]
        · rw [if_neg q2] at hbz
          rw [hbz] at hR0
          rw [if_neg q2, hR0, d1 64 (by decide), r44, w1, w2]
    refine bth_mk (x := G 1 6) (y := G 1 6) (G1 := G1) (G2 := gs (fd (g_X12_board_125 G1 a b x y z) R0 26) 64 44 (G 1 6 + 1)) (fun _ q => sp_X11_board (allD (by decide)) (by rw [e1]; exact q)) (fun _ q => sp_X12_board (by rw [h44]; omega) hz (allD (by decide)) (by rw [e2]; exact q)) rfl ?_
    generalize fd (g_X12_board_125 G1 a b x y z) R0 26 = F at d1 d2 d3
    obtain ⟨H, hH⟩ : ∃ H, gs F 64 44 (G 1 6 + 1) = H := ⟨_, rfl⟩
    rw [hH]
    have kF : ∀ k, k ≠ 64 → k ≠ 105 → H k = R0 k := fun k k1 k2 => by rw [← hH, gs_ne k1, d1 k k2]
    have kj : ∀ j, j ≠ 44 → H 64 j = G 64 j := fun j hj => by
      rw [← hH, gs_at_ne hj, d1 64 (by decide), ← hR0, gs_ne (by decide), gs_ne (by decide), gs_ne (by decide), gs_ne (by decide), gs_ne (by decide), k64]
    have kR : ∀ k, ¬ k ∈ ([94, 95, 96, 97, 98] : List Nat) → R0 k = G1 k := fun k hk => by
      rw [← hR0, gs_ne (fun e => hk (by rw [e]; decide)), gs_ne (fun e => hk (by rw [e]; decide)), gs_ne (fun e => hk (by rw [e]; decide)), gs_ne (fun e => hk (by rw [e]; decide)), gs_ne (fun e => hk (by rw [e]; decide))]
    have hW : ∀ k, ¬ k ∈ ([1, 2, 3, 4, 5, 6, 64, 94, 95, 96, 97, 98, 105] : List Nat) → H k = G k := fun k hk => by
      simp only [List.mem_cons, List.not_mem_nil, or_false] at hk
      rw [kF k (by omega) (by omega), kR k (by simp only [List.mem_cons, List.not_mem_nil, or_false]; omega), kG k (by simp only [List.mem_cons, List.not_mem_nil, or_false]; omega)]
    have hc := Cpl_c h
    obtain ⟨r1, r2, r3, r4⟩ := cpR_to h hW (by decide) (by decide) (by decide) (kj 18 (by decide))
    obtain ⟨⟨b1, b2, b3⟩, b4, b5, b6, b7, b8⟩ := h
    obtain ⟨p1, p2, ⟨p3, p4, p5, p6, p7, p8⟩, p9, p10, p11, p12, p13, p14⟩ := b1
    have l1 : ∀ k, k ∈ ([1, 2, 3, 4, 5, 6] : List Nat) → H k = G1 k := fun k hk => by
      simp only [List.mem_cons, List.not_mem_nil, or_false] at hk
      rw [kF k (by omega) (by omega), kR k (by simp only [List.mem_cons, List.not_mem_nil, or_false]; omega)]
    have i94 : H 94 = fun i => if i = n then a else G 2 i := by rw [kF 94 (by decide) (by decide), ← hR0, gs_ne (by decide), gs_ne (by decide), gs_ne (by decide), gs_ne (by decide), gs_row, kG 94 (by decide), p3]
    have i95 : H 95 = fun i => if i = n then b else G 3 i := by rw [kF 95 (by decide) (by decide), ← hR0, gs_ne (by decide), gs_ne (by decide), gs_ne (by decide), gs_row, gs_ne (by decide), kG 95 (by decide), p4]
    have i96 : H 96 = fun i => if i = n then x else G 4 i := by rw [kF 96 (by decide) (by decide), ← hR0, gs_ne (by decide), gs_ne (by decide), gs_row, gs_ne (by decide), gs_ne (by decide), kG 96 (by decide), p5]
    have i97 : H 97 = fun i => if i = n then y else G 5 i := by rw [kF 97 (by decide) (by decide), ← hR0, gs_ne (by decide), gs_row, gs_ne (by decide), gs_ne (by decide), gs_ne (by decide), kG 97 (by decide), p6]
    have i98 : H 98 = fun i => if i = n then bz else G 6 i := by rw [kF 98 (by decide) (by decide), ← hR0, gs_row, gs_ne (by decide), gs_ne (by decide), gs_ne (by decide), gs_ne (by decide), kG 98 (by decide), p7]
    have j2 := (l1 2 (by decide)).trans g2
    have j6 : H 1 6 = G 1 6 + 1 := by rw [l1 1 (by decide), g1]
    have o105 : ∀ i, H 105 i = F 105 i := fun i => by rw [← hH, gs_ne (by decide)]
    have q105 : ∀ i, R0 105 i = G 105 i := fun i => by rw [kR 105 (by decide), kG 105 (by decide)]
    have e0 : H c = G c := dj_k (U := cpUC) (by decide) hW (cpUC_c (i := 0) hc (by omega))
    have e4 : H (c + 4) = G (c + 4) := dj_k (U := cpUC) (by decide) hW (cpUC_c hc (by omega))
    have e7 : H (c + 7) = G (c + 7) := dj_k (U := cpUC) (by decide) hW (cpUC_c hc (by omega))
    refine ⟨c, ⟨?_, cpF_to b2 hW (by decide) (kj 51 (by decide)), cpT_to b3 hW (by decide) (kj 2 (by decide)) (kj 17 (by decide))⟩, r1, r2, ?_, r3, r4⟩
    · unfold cpB
      rw [j6, j2, l1 3 (by decide), l1 4 (by decide), l1 5 (by decide), l1 6 (by decide), g3, g4, g5, g6, i94, i95, i96, i97, i98, hW 7 (by decide), hW 99 (by decide), ← hH, gs_at]
      refine ⟨by omega, rfl, ⟨rfl, rfl, rfl, rfl, rfl, p8⟩, fun i => ?_, fun i => ?_, fun i => ?_, p12, ?_, fun i => ?_⟩
      · show 0 ≤ (if i = n then a else G 2 i) ∧ (if i = n then a else G 2 i) ≤ 5
        split
        · omega
        · exact p9 i
      · show 0 ≤ (if i = n then x else G 4 i) ∧ (if i = n then x else G 4 i) ≤ 1000
        split
        · omega
        · exact p10 i
      · show 0 ≤ (if i = n then y else G 5 i) ∧ (if i = n then y else G 5 i) ≤ 255
        split
        · omega
        · exact p11 i
      · show (if 0 = n then bz else G 6 0) = 0
        split
        · exact hbr.2 (by omega)
        · exact p13
      · show (if i = n then bz else G 6 i) = 0 ∨ (if i = n then bz else G 6 i) = 1
        split
        · exact hbr.1
        · exact p14 i
    · obtain ⟨s1, s2, s3⟩ := b6
      unfold cpG
      rw [e0, e4, e7, j6, hW 104 (by decide), hW 22 (by decide), hW 23 (by decide)]
      refine ⟨s1, fun i hi => ?_, fun f hf => ?_⟩
      · rw [o105]
        by_cases hex : ∃ f, f < 26 ∧ i = 9 * f + n
        · obtain ⟨f, f1, f2⟩ := hex
          rw [f2, d2 f f1]; omega
        · rw [d3 i (fun f hf he => hex ⟨f, hf, he⟩), q105]
          exact s2 i hi
      · obtain ⟨t1, t2, t3, t4, t5⟩ := s3 f hf
        refine ⟨t1, t2, fun b' hb' => ?_, fun b' hb' hge => t4 b' hb' (by omega), fun hm b' hb' => ?_⟩
        · by_cases hbn : b' = n
          · exact Or.inl (t4 b' hb' (by omega))
          · rcases t3 b' hb' with u | ⟨u1, u2, u3, u4⟩
            · exact Or.inl u
            · refine Or.inr ⟨u1, u2, u3, ?_⟩
              rw [j2, u4]
              show _ = if b' = n then a else G 2 b'
              rw [if_neg hbn]
        · rw [o105]
          by_cases hbn : b' = n
          · rw [hbn, d2 f hf]
            exact (t4 n (by omega) (by omega)).symm
          · rw [d3 _ (fun f' hf' he => hbn (by omega)), q105]
            exact t5 hm b' (by omega)
  · have e1 : r_X11_board G a b x y z = (-1, G) := by
      show r_X0_add G a b x y z = _
      have f1 := fa_X0_isDistrict G a
      have f2 := fa_X0_isWithin G b 1 9
      have f3 := fa_X0_isWithin G x 0 1000
      have f4 := fa_X0_isWithin G y 0 255
      unfold r_X0_add
      by_cases q1 : G 1 6 < 0
      · rw [if_pos q1]
      rw [if_neg q1]
      by_cases q2 : 9 ≤ G 1 6
      · rw [if_pos q2]
      rw [if_neg q2]
      by_cases q3 : f_X0_isDistrict G a = 0
      · rw [if_pos q3]
      rw [if_neg q3]
      by_cases q4 : f_X0_isWithin G b 1 9 = 0
      · rw [if_pos q4]
      rw [if_neg q4]
      by_cases q5 : f_X0_isWithin G x 0 1000 = 0
      · rw [if_pos q5]
      rw [if_neg q5, if_neg (by omega)]
    have e2 : r_X12_board G a b x y z = (-1, G) := by
      unfold r_X12_board
      rw [hB.2.1]
      by_cases q1 : G 1 6 = 9
      · rw [if_pos q1]
      rw [if_neg q1]
      by_cases q2 : a < 0
      · rw [if_pos q2]
      rw [if_neg q2]
      by_cases q3 : 5 < a
      · rw [if_pos q3]
      rw [if_neg q3]
      by_cases q4 : b < 1
      · rw [if_pos q4]
      rw [if_neg q4]
      by_cases q5 : 9 < b
      · rw [if_pos q5]
      rw [if_neg q5]
      by_cases q6 : x < 0
      · rw [if_pos q6]
      rw [if_neg q6]
      by_cases q7 : 1000 < x
      · rw [if_pos q7]
      rw [if_neg q7]
      by_cases q8 : y < 0
      · rw [if_pos q8]
      rw [if_neg q8, if_neg (by omega)]
    exact bth_mk (x := -1) (y := -1) (G1 := G) (G2 := G) (fun _ q => sp_X11_board (allD (by decide)) (by rw [e1]; exact q)) (fun _ q => sp_X12_board (by rw [hB.2.1]; exact hB1) hz (allD (by decide)) (by rw [e2]; exact q)) rfl ⟨c, h⟩
