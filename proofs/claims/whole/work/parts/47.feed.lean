/-! ===== feed: the bytes of both tapes ===== -/
theorem w8_e (y : Int) : w8 y = (y + 128) % 256 - 128 := by
  unfold w8
  rw [Int8.toInt_toInt32, Int32.toInt_toInt8, i32_toInt']
  unfold w32 Int.bmod
  have h : ((2 ^ 8 : Nat) : Int) = 256 := by decide
  simp only [h]
  split <;> omega
theorem sh_case (x s : Int) (k p : Nat) (hp : 2 ^ k = p) (hk : p = 16777216 ∨ p = 65536 ∨ p = 256 ∨ p = 1) (h1 : ((Int32.ofInt s &&& 31).toBitVec.smod 32).toNat = k) (h2 : (((Int32.ofInt s).toUInt32 &&& Int32.toUInt32 31).toBitVec % 32).toNat = k) : w8 (mUshr x s) = w8 (mShr x s) := by
  rw [w8_e, w8_e]
  have a1 : mShr x s = (Int32.ofInt x).toInt >>> k := pk_shr _ _ _ h1
  have a2 := pk_ushr (Int32.ofInt x) (Int32.ofInt s) k h2
  have a3 : mUshr x s = Int.bmod (((Int32.ofInt x).toUInt32 >>> ((Int32.ofInt s).toUInt32 &&& Int32.toUInt32 31)).toInt32.toBitVec.toNat) (2 ^ 32) := BitVec.toInt_eq_toNat_bmod _
  rw [a2, hp] at a3
  have a4 : (Int32.ofInt x).toInt = Int.bmod ((Int32.ofInt x).toBitVec.toNat) (2 ^ 32) := BitVec.toInt_eq_toNat_bmod _
  rw [Int.shiftRight_eq_div_pow, hp] at a1
  rw [← w32_bmod] at a3 a4
  rw [a1, a3, a4]
  have hN := (Int32.ofInt x).toBitVec.isLt
  generalize (Int32.ofInt x).toBitVec.toNat = N at hN
  clear a1 a2 a3 a4 h1 h2 hp
  unfold w32
  rcases hk with rfl | rfl | rfl | rfl
  · omega
  · omega
  · omega
  · omega
theorem sh_j (x : Int) : ∀ j : Nat, j < 4 → w8 (mUshr x (24 - 8 * ((j : Nat) : Int))) = w8 (mShr x (24 - 8 * ((j : Nat) : Int)))
  | 0, _ => sh_case x _ 24 16777216 (by decide) (Or.inl rfl) (by decide) (by decide)
  | 1, _ => sh_case x _ 16 65536 (by decide) (Or.inr (Or.inl rfl)) (by decide) (by decide)
  | 2, _ => sh_case x _ 8 256 (by decide) (Or.inr (Or.inr (Or.inl rfl))) (by decide) (by decide)
  | 3, _ => sh_case x _ 0 1 (by decide) (Or.inr (Or.inr (Or.inr rfl))) (by decide) (by decide)
  | n + 4, h => absurd h (by omega)
theorem feed_rel {C R : mG} {a : Int} (h1 : R 64 2 = C 13 1) (h2 : R 65 = C 14) (h3 : 0 ≤ C 13 1 ∧ C 13 1 ≤ 2996) : (e_X12_put R a) 64 2 = (e_X9_append C a) 13 1 ∧ (e_X12_put R a) 65 = (e_X9_append C a) 14 ∧ (e_X9_append C a) 13 1 = C 13 1 + 4 := by
  have key : ∀ j, j ≤ 4 → (fd (g_X12_put_3 R a) R j) 64 2 = (fd (g_X9_append_3 C a) C j) 13 1 ∧ (fd (g_X12_put_3 R a) R j) 65 = (fd (g_X9_append_3 C a) C j) 14 ∧ (fd (g_X9_append_3 C a) C j) 13 1 = C 13 1 + (j : Int) := by
    intro j
    induction j with
    | zero => intro _; exact ⟨h1, h2, (Int.add_zero _).symm⟩
    | succ j ih =>
      intro hj
      obtain ⟨i1, i2, i3⟩ := ih (by omega)
      rw [fd_s, fd_s]
      generalize fd (g_X12_put_3 R a) R j = r at *
      generalize fd (g_X9_append_3 C a) C j = s at *
      unfold g_X12_put_3 g_X9_append_3
      rw [if_neg (by omega), if_neg (by omega), sh_j a j (by omega)]
      refine ⟨?_, ?_, ?_⟩
      · rw [gs_at, gs_at, i1]
      · rw [gs_ne (show (65 : Nat) ≠ 64 by decide), gs_row, gs_ne (show (14 : Nat) ≠ 13 by decide), gs_row, i1, i2]
      · rw [gs_at, i3, w32_i (by omega) (by omega)]; omega
  exact key 4 (Nat.le_refl 4)
theorem app_k {C : mG} {a : Int} {k : Nat} (h1 : k ≠ 13) (h2 : k ≠ 14) : (e_X9_append C a) k = C k := fr_X9_append (fun q hq => by simp only [List.mem_cons, List.not_mem_nil, or_false] at hq; omega)
theorem put_k {C : mG} {a : Int} {k : Nat} (h1 : k ≠ 64) (h2 : k ≠ 65) : (e_X12_put C a) k = C k := fr_X12_put (fun q hq => by simp only [List.mem_cons, List.not_mem_nil, or_false] at hq; omega)
theorem put_j {C : mG} {a : Int} {j : Nat} (h1 : j ≠ 2) : (e_X12_put C a) 64 j = C 64 j := frp_X12_put_64 (fun q hq => by simp only [List.mem_cons, List.not_mem_nil, or_false] at hq; omega)
theorem pm_feed {c : Nat} {G : mG} (h : Cpl c G) (a b x y z : Int) : bth 60 M_X11_feed M_X12_feed [mI a, mI b, mI x, mI y, mI z] G := by
  have hT := h.1.2.2
  have hT1 := hT.1
  have w1 : Unit → w32 (3000 - G 13 1) = 3000 - G 13 1 := fun _ => w32_i (by omega) (by omega)
  have w2 : Unit → w32 (G 13 1 + 20) = G 13 1 + 20 := fun _ => w32_i (by omega) (by omega)
  by_cases q : 20 ≤ 3000 - G 13 1
  · obtain ⟨C1, c1⟩ : ∃ C, e_X9_append G a = C := ⟨_, rfl⟩
    obtain ⟨C2, c2⟩ : ∃ C, e_X9_append C1 b = C := ⟨_, rfl⟩
    obtain ⟨C3, c3⟩ : ∃ C, e_X9_append C2 x = C := ⟨_, rfl⟩
    obtain ⟨C4, c4⟩ : ∃ C, e_X9_append C3 y = C := ⟨_, rfl⟩
    obtain ⟨C5, c5⟩ : ∃ C, e_X9_append C4 z = C := ⟨_, rfl⟩
    have e1 : r_X11_feed G a b x y z = (C5 13 1, C5) := by
      unfold r_X11_feed f_X9_hasRoomFor
      rw [w1 (), if_pos q, c1, c2, c3, c4, c5]
      rfl
    have kC : ∀ k, k ≠ 13 → k ≠ 14 → C5 k = G k := fun k k1 k2 => by rw [← c5, app_k k1 k2, ← c4, app_k k1 k2, ← c3, app_k k1 k2, ← c2, app_k k1 k2, ← c1, app_k k1 k2]
    obtain ⟨R1, r1⟩ : ∃ R, e_X12_put C5 a = R := ⟨_, rfl⟩
    obtain ⟨R2, r2⟩ : ∃ R, e_X12_put R1 b = R := ⟨_, rfl⟩
    obtain ⟨R3, r3⟩ : ∃ R, e_X12_put R2 x = R := ⟨_, rfl⟩
    obtain ⟨R4, r4⟩ : ∃ R, e_X12_put R3 y = R := ⟨_, rfl⟩
    obtain ⟨R5, r5⟩ : ∃ R, e_X12_put R4 z = R := ⟨_, rfl⟩
    have s1 := feed_rel (C := G) (R := C5) (a := a) (by rw [kC 64 (by decide) (by decide)]; exact hT.2.1) (by rw [kC 65 (by decide) (by decide)]; exact hT.2.2.1) (by omega)
    rw [c1, r1] at s1
    have s2 := feed_rel (a := b) s1.1 s1.2.1 (by have := s1.2.2; omega)
    rw [c2, r2] at s2
    have s3 := feed_rel (a := x) s2.1 s2.2.1 (by have := s1.2.2; have := s2.2.2; omega)
    rw [c3, r3] at s3
    have s4 := feed_rel (a := y) s3.1 s3.2.1 (by have := s1.2.2; have := s2.2.2; have := s3.2.2; omega)
    rw [c4, r4] at s4
    have s5 := feed_rel (a := z) s4.1 s4.2.1 (by have := s1.2.2; have := s2.2.2; have := s3.2.2; have := s4.2.2; omega)
    rw [c5, r5] at s5
    have s6 : C5 13 1 = G 13 1 + 20 := by have := s1.2.2; have := s2.2.2; have := s3.2.2; have := s4.2.2; have := s5.2.2; omega
    have e2 : r_X12_feed C5 a b x y z = (R5 64 2, R5) := by
      unfold r_X12_feed
      rw [kC 64 (by decide) (by decide), hT.2.1, w2 (), if_pos (by omega), r1, r2, r3, r4, r5]
    refine bth_mk (x := C5 13 1) (y := R5 64 2) (G1 := C5) (G2 := R5) (fun _ q => sp_X11_feed (allD (by decide)) (by rw [e1]; exact q)) (fun _ q => sp_X12_feed (by rw [kC 64 (by decide) (by decide), hT.2.1]; exact hT1) (allD (by decide)) (by rw [e2]; exact q)) s5.1 ?_
    have kR : ∀ k, k ≠ 64 → k ≠ 65 → R5 k = C5 k := fun k k1 k2 => by rw [← r5, put_k k1 k2, ← r4, put_k k1 k2, ← r3, put_k k1 k2, ← r2, put_k k1 k2, ← r1, put_k k1 k2]
    have kj : ∀ j, j ≠ 2 → R5 64 j = G 64 j := fun j hj => by rw [← r5, put_j hj, ← r4, put_j hj, ← r3, put_j hj, ← r2, put_j hj, ← r1, put_j hj, kC 64 (by decide) (by decide)]
    have hW : ∀ k, ¬ k ∈ ([13, 14, 64, 65] : List Nat) → R5 k = G k := fun k hk => by
      rw [kR k (fun e => hk (by rw [e]; decide)) (fun e => hk (by rw [e]; decide)), kC k (fun e => hk (by rw [e]; decide)) (fun e => hk (by rw [e]; decide))]
    obtain ⟨t1, t2, t3, t4⟩ := cpR_to h hW (by decide) (by decide) (by decide) (kj 18 (by decide))
    have hc := Cpl_c h
    obtain ⟨⟨b1, b2, b3⟩, b4, b5, b6, b7, b8⟩ := h
    refine ⟨c, ⟨cpB_to b1 hW (by decide) (kj 44 (by decide)), cpF_to b2 hW (by decide) (kj 51 (by decide)), ?_, ?_, ?_, ?_⟩, t1, t2, cpG_to hc b6 hW (by decide) (by decide), t3, t4⟩
    · rw [kR 13 (by decide) (by decide), s6]; omega
    · rw [kR 13 (by decide) (by decide)]; exact s5.1
    · rw [kR 14 (by decide) (by decide)]; exact s5.2.1
    · rw [kj 17 (by decide), hW 0 (by decide)]; exact b3.2.2.2
  · have e1 : r_X11_feed G a b x y z = (-1, G) := by
      unfold r_X11_feed f_X9_hasRoomFor
      rw [w1 (), if_neg q]
      rfl
    have e2 : r_X12_feed G a b x y z = (-1, G) := by
      unfold r_X12_feed
      rw [hT.2.1, w2 (), if_neg (by omega)]
    exact bth_mk (x := -1) (y := -1) (G1 := G) (G2 := G) (fun _ q => sp_X11_feed (allD (by decide)) (by rw [e1]; exact q)) (fun _ q => sp_X12_feed (by rw [hT.2.1]; exact hT1) (allD (by decide)) (by rw [e2]; exact q)) rfl ⟨c, h⟩
