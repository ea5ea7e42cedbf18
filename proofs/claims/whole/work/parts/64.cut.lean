/-! ===== the class's tokens ===== -/
def tkS (b : Nat → Int) (p : Nat) : Nat := p + rn (fun i => tcB (b i)) 3001 p
def tkW (b : Nat → Int) (q : Nat) : Nat := rn (fun i => tcL (b i)) 3001 q
def tkI (b : Nat → Int) (q : Nat) : Nat := rn (fun i => tcD (b i)) 3001 q
def tkN (b : Nat → Int) (q : Nat) : Int := nmF (fun i => b (q + i) - 96) (tkW b q)
def tkV (b : Nat → Int) (q : Nat) : Int := vlF (fun i => b (q + i) - 48) (tkI b q)
def sgK (x y : Int) : Int := if y = 61 ∧ x = 61 then 11 else if y = 61 ∧ x = 33 then 12 else if y = 61 ∧ x = 60 then 14 else if x = 59 then 4 else if x = 40 then 6 else if x = 41 then 7 else if x = 43 then 8 else if x = 45 then 9 else if x = 42 then 10 else if x = 60 then 13 else 3
def tkK (b : Nat → Int) (q : Nat) : Int := if b q = -1 then 0 else if tcL (b q) = true then (if 8 < tkW b q then 3 else wk (tkN b q)) else if tcD (b q) = true then (if 4 < tkI b q then 3 else 2) else sgK (b q) (b (q + 1))
def tkE (b : Nat → Int) (q : Nat) : Nat := if b q = -1 then q else if tcL (b q) = true then q + tkW b q else if tcD (b q) = true then q + tkI b q else if 11 ≤ sgK (b q) (b (q + 1)) ∧ ¬ sgK (b q) (b (q + 1)) = 13 then q + 2 else q + 1
/-- the class's number of a kind -/
def km (k : Int) : Int := if 20 ≤ k then k - 6 else if 6 ≤ k then k - 1 else if k = 4 then 4 else if k = 3 then 0 else k + 1
theorem fs_none {p : Nat → Bool} {n : Nat} (h : fs p n = -1) : ∀ j, j < n → p j = false := by
  rcases fs_r p n with ⟨_, e⟩ | ⟨j, _, e, _, _⟩
  · exact e
  · omega
section ADV
variable {G s : mG} {L : Int} {r : Nat → Int} {p q m : Nat}
theorem at_b (h13 : s 13 1 = L) (h14 : s 14 = r) (i : Nat) : f_X9_byteAt s (i : Int) = tb L r i := by
  show tpAt s (i : Int) = tb L r i
  unfold tpAt tb
  rw [h13, h14, st_nat]
  by_cases z : (i : Int) < L ∧ i < 3000
  · rw [if_pos z, if_pos ⟨by omega, z.1, by omega⟩]
  · rw [if_neg z, if_neg (by omega)]
theorem blank_b {x : Int} : f_X10_isBlank G x = if tcB x = true then 1 else 0 := by
  unfold f_X10_isBlank tcB
  by_cases h1 : x = 9
  · rw [if_pos h1, if_pos (decide_eq_true (Or.inl h1))]
  · rw [if_neg h1]
    by_cases h2 : x = 10
    · rw [if_pos h2, if_pos (decide_eq_true (Or.inr (Or.inl h2)))]
    · rw [if_neg h2]
      by_cases h3 : x = 13
      · rw [if_pos h3, if_pos (decide_eq_true (Or.inr (Or.inr (Or.inl h3))))]
      · rw [if_neg h3]
        by_cases h4 : x = 32
        · rw [if_neg (show ¬ ¬ x = 32 from fun y => y h4), if_pos (decide_eq_true (Or.inr (Or.inr (Or.inr h4))))]
        · rw [if_pos h4, if_neg (fun y => absurd (of_decide_eq_true y) (by omega))]
theorem letter_b {x : Int} : f_X10_isLetter G x = if tcL x = true then 1 else 0 := by
  unfold f_X10_isLetter tcL
  by_cases h1 : x < 97
  · rw [if_pos h1, if_neg (fun y => absurd (of_decide_eq_true y) (by omega))]
  · rw [if_neg h1]
    by_cases h2 : 122 < x
    · rw [if_pos h2, if_neg (fun y => absurd (of_decide_eq_true y) (by omega))]
    · rw [if_neg h2, if_pos (decide_eq_true (by omega))]
theorem digit_b {x : Int} : f_X10_isDigit G x = if tcD x = true then 1 else 0 := by
  unfold f_X10_isDigit tcD
  by_cases h1 : x < 48
  · rw [if_pos h1, if_neg (fun y => absurd (of_decide_eq_true y) (by omega))]
  · rw [if_neg h1]
    by_cases h2 : 57 < x
    · rw [if_pos h2, if_neg (fun y => absurd (of_decide_eq_true y) (by omega))]
    · rw [if_neg h2, if_pos (decide_eq_true (by omega))]
theorem tcL_r {x : Int} (h : tcL x = true) : 97 ≤ x ∧ x ≤ 122 := of_decide_eq_true h
theorem tcD_r {x : Int} (h : tcD x = true) : 48 ≤ x ∧ x ≤ 57 := of_decide_eq_true h
theorem tb_out {i : Nat} (h : 3000 ≤ i) : tb L r i = -1 := by
  unfold tb; rw [if_neg (by omega)]
theorem tb_L {i : Nat} (h : tcL (tb L r i) = true) : i < 3000 := by
  have := tcL_r h
  exact (tb_in (L := L) (r := r) (by omega)).2
theorem tb_D {i : Nat} (h : tcD (tb L r i) = true) : i < 3000 := by
  have := tcD_r h
  exact (tb_in (L := L) (r := r) (by omega)).2
theorem tkS_le (hp : p ≤ 3000) : tkS (tb L r) p ≤ 3000 := by
  unfold tkS
  by_cases z : rn (fun i => tcB (tb L r i)) 3001 p = 0
  · omega
  · have h := rn_all (P := fun i => tcB (tb L r i)) (n := 3001) (p := p) (i := rn (fun i => tcB (tb L r i)) 3001 p - 1) (by omega)
    have h : tcB (tb L r (p + (rn (fun i => tcB (tb L r i)) 3001 p - 1))) = true := h
    by_cases z2 : 3000 ≤ p + (rn (fun i => tcB (tb L r i)) 3001 p - 1)
    · rw [tb_out z2] at h; exact absurd h (by decide)
    · omega
/-- blanks are passed over -/
theorem adv_skip (h13 : G 13 1 = L) (h14 : G 14 = r) (h1 : G 20 1 = (p : Int)) (hp : p ≤ 3000) : (∀ k, k ≠ 20 → (brk (fe (g_X10_advance_2 G) G 3000)) k = G k) ∧ (∀ i, i ≠ 1 → (brk (fe (g_X10_advance_2 G) G 3000)) 20 i = G 20 i) ∧ (brk (fe (g_X10_advance_2 G) G 3000)) 20 1 = ((tkS (tb L r) p : Nat) : Int) := by
  obtain ⟨m, m1, ⟨r1, r2, r3⟩, m3, m4⟩ := fe_run (g := g_X10_advance_2 G) (a := G) (N := 3000) (P := fun j => tcB (tb L r (p + j))) (R := fun m s => (∀ k, k ≠ 20 → s k = G k) ∧ (∀ i, i ≠ 1 → s 20 i = G 20 i) ∧ s 20 1 = ((p + m : Nat) : Int)) ⟨fun _ _ => rfl, fun _ _ => rfl, h1⟩ (fun j s hj hR => by
    obtain ⟨a1, a2, a3⟩ := hR
    unfold g_X10_advance_2
    rw [if_neg (show ¬ (3000 : Int) ≤ ((j : Nat) : Int) by omega), a3, at_b (L := L) (r := r) (by rw [a1 13 (by decide)]; exact h13) (by rw [a1 14 (by decide)]; exact h14), blank_b]
    refine ⟨fun hP => ?_, fun hP => ?_⟩
    · have hP : tcB (tb L r (p + j)) = true := hP
      rw [hP, if_pos rfl, if_neg (show ¬ (1 : Int) = 0 by decide), w32_i (by omega) (by omega)]
      refine ⟨_, rfl, fun k hk => by rw [gs_ne hk]; exact a1 k hk, fun i hi => by rw [gs_at_ne hi]; exact a2 i hi, by rw [gs_at]; omega⟩
    · have hP : tcB (tb L r (p + j)) = false := hP
      rw [hP, if_neg (show ¬ false = true by decide), if_pos rfl])
  have e : m = rn (fun i => tcB (tb L r i)) 3001 p := by
    refine (rn_eq (P := fun i => tcB (tb L r i)) (fun i hi => m3 i hi) ?_ (by omega)).symm
    by_cases z : m < 3000
    · exact m4 z
    · show tcB (tb L r (p + m)) = false
      rw [tb_out (by omega)]; decide
  refine ⟨r1, r2, ?_⟩
  rw [r3, e]
  rfl
/-- a word of the list -/
theorem isWord_eq {i : Nat} (h13 : s 13 1 = L) (h14 : s 14 = r) (h3 : s 20 3 = (q : Int)) (hq : q ≤ 3000) (hi : i < 20) (hm : m ≤ 8) (hl : ∀ j, j < m → tcL (tb L r (q + j)) = true) : f_X10_isWord s (8 * (i : Int)) (m : Int) = if ky i = nmF (fun j => tb L r (q + j) - 96) m then 1 else 0 := by
  have hw := wdl_ok hi
  have hg : ∀ j, j < 8 → g_X10_isWord_2 s (8 * (i : Int)) (m : Int) j () = bif decide (¬ wdc ((8 * i + j : Nat) : Int) = if m ≤ j then 32 else tb L r (q + j)) then Sum.inr 0 else Sum.inl () := by
    intro j hj
    unfold g_X10_isWord_2
    rw [w32_i (x := 8 * (i : Int) + (j : Int)) (by omega) (by omega), show 8 * (i : Int) + (j : Int) = ((8 * i + j : Nat) : Int) from by omega, h3, w32_i (x := (q : Int) + (j : Int)) (by omega) (by omega), show (q : Int) + (j : Int) = ((q + j : Nat) : Int) from by omega, at_b h13 h14]
    show (if (m : Int) ≤ (j : Int) then (if wdc ((8 * i + j : Nat) : Int) = 32 then Sum.inl () else Sum.inr 0) else (if wdc ((8 * i + j : Nat) : Int) = tb L r (q + j) then Sum.inl () else Sum.inr 0)) = _
    by_cases z : m ≤ j
    · rw [if_pos (show (m : Int) ≤ (j : Int) by omega), if_pos z]
      by_cases z2 : wdc ((8 * i + j : Nat) : Int) = 32
      · rw [if_pos z2, decide_eq_false (show ¬ ¬ wdc ((8 * i + j : Nat) : Int) = 32 from fun y => y z2)]; rfl
      · rw [if_neg z2, decide_eq_true z2]; rfl
    · rw [if_neg (show ¬ (m : Int) ≤ (j : Int) by omega), if_neg z]
      by_cases z2 : wdc ((8 * i + j : Nat) : Int) = tb L r (q + j)
      · rw [if_pos z2, decide_eq_false (show ¬ ¬ wdc ((8 * i + j : Nat) : Int) = tb L r (q + j) from fun y => y z2)]; rfl
      · rw [if_neg z2, decide_eq_true z2]; rfl
  unfold f_X10_isWord
  rcases fe_fs hg with ⟨e1, e2⟩ | ⟨j, j1, j2, e1, e2⟩
  · rw [e2]
    show (if (8 : Int) ≤ ((8 : Nat) : Int) then (1 : Int) else 1) = _
    rw [if_pos (by decide)]
    have all : ∀ j, j < 8 → wdc ((8 * i + j : Nat) : Int) = if m ≤ j then 32 else tb L r (q + j) := by
      intro j hj
      have := fs_none e1 j hj
      exact Decidable.of_not_not (of_decide_eq_false this)
    have em : wdl i = m := by
      by_cases z1 : wdl i < m
      · have a1 := all (wdl i) (by omega)
        have a2 := (hw.2 (wdl i) (by omega)).2 (Nat.le_refl _)
        have a3 := tcL_r (hl (wdl i) z1)
        rw [if_neg (by omega)] at a1
        omega
      · by_cases z2 : m < wdl i
        · have a1 := all m (by omega)
          have a2 := (hw.2 m (by omega)).1 z2
          rw [if_pos (Nat.le_refl _)] at a1
          omega
        · omega
    rw [if_pos]
    unfold ky
    rw [em]
    refine nmF_congr (fun j hj => ?_)
    have a1 := all j (by omega)
    rw [if_neg (by omega)] at a1
    rw [a1]
  · rw [e2]
    show (0 : Int) = _
    rw [if_neg]
    intro y
    unfold ky at y
    obtain ⟨y1, y2⟩ := nmF_inj (fun j hj => by have := (hw.2 j (by omega)).1 hj; omega) (fun j hj => by have := tcL_r (hl j hj); omega) y
    refine of_decide_eq_true j2 ?_
    by_cases z : m ≤ j
    · rw [if_pos z]; exact (hw.2 j j1).2 (by omega)
    · rw [if_neg z]
      have := y2 j (by omega)
      omega
theorem kindOfWord_eq (h13 : s 13 1 = L) (h14 : s 14 = r) (h3 : s 20 3 = (q : Int)) (hq : q ≤ 3000) (hm : m ≤ 8) (hl : ∀ j, j < m → tcL (tb L r (q + j)) = true) : f_X10_kindOfWord s (m : Int) = km (wk (nmF (fun j => tb L r (q + j) - 96) m)) := by
  have hg : ∀ j, j < 20 → g_X10_kindOfWord_2 s (m : Int) j () = bif decide (ky j = nmF (fun j => tb L r (q + j) - 96) m) then Sum.inr (14 + (j : Int)) else Sum.inl () := by
    intro j hj
    unfold g_X10_kindOfWord_2
    rw [isWord_eq h13 h14 h3 hq hj hm hl]
    have ed : mDiv (8 * (j : Int)) 8 = (j : Int) := by
      unfold mDiv
      rw [Int.mul_tdiv_cancel_left _ (by decide), w32_i (by omega) (by omega)]
    rw [ed, w32_i (by omega) (by omega)]
    by_cases z : ky j = nmF (fun j => tb L r (q + j) - 96) m
    · rw [if_pos z, if_neg (by decide), decide_eq_true z]; rfl
    · rw [if_neg z, if_pos rfl, decide_eq_false z]; rfl
  unfold f_X10_kindOfWord
  generalize nmF (fun j => tb L r (q + j) - 96) m = x at *
  rcases fe_fs hg with ⟨e1, e2⟩ | ⟨j, j1, j2, e1, e2⟩
  · rw [e2]
    show (2 : Int) = _
    rcases wk_at (x := x) with ⟨w1, _⟩ | ⟨i, i1, i2, _⟩
    · rw [w1]; rfl
    · exact absurd i2 (of_decide_eq_false (fs_none e1 i i1))
  · rw [e2]
    show 14 + (j : Int) = _
    rcases wk_at (x := x) with ⟨_, w2⟩ | ⟨i, i1, i2, w2⟩
    · exact absurd (of_decide_eq_true j2) (w2 j j1)
    · have : i = j := ky_inj i1 j1 (by rw [i2]; exact (of_decide_eq_true j2).symm)
      rw [w2, this]
      unfold km
      rw [if_pos (by omega)]; omega
/-- a word is cut -/
theorem scanWord_eq (h13 : G 13 1 = L) (h14 : G 14 = r) (h1 : G 20 1 = (q : Int)) (h3 : G 20 3 = (q : Int)) (hq : q ≤ 3000) (hL : tcL (tb L r q) = true) : (e_X10_scanWord G) 20 2 = km (if 8 < tkW (tb L r) q then 3 else wk (tkN (tb L r) q)) ∧ (tkW (tb L r) q ≤ 8 → (e_X10_scanWord G) 20 1 = ((q + tkW (tb L r) q : Nat) : Int) ∧ (e_X10_scanWord G) 20 5 = tkN (tb L r) q) ∧ (e_X10_scanWord G) 20 3 = (q : Int) := by
  obtain ⟨m, m1, ⟨r1, r2, r3, r4, r5, r6⟩, m3, m4⟩ := fe_run (g := g_X10_scanWord_9 G) (a := (0, gs G 20 5 0)) (N := 9) (P := fun j => tcL (tb L r (q + j))) (R := fun m s => s.1 = (m : Int) ∧ (∀ k, k ≠ 20 → s.2 k = G k) ∧ s.2 20 3 = (q : Int) ∧ s.2 20 1 = ((q + m : Nat) : Int) ∧ s.2 20 5 = nmF (fun i => tb L r (q + i) - 96) m ∧ ∀ i, i < m → tcL (tb L r (q + i)) = true) ⟨rfl, fun k hk => gs_ne hk, by show (gs G 20 5 0) 20 3 = _; rw [gs_at_ne (by decide)]; exact h3, by show (gs G 20 5 0) 20 1 = _; rw [gs_at_ne (by decide)]; exact h1, gs_at G 20 5 0, fun i hi => absurd hi (Nat.not_lt_zero _)⟩ (fun j s hj hR => by
    obtain ⟨a1, a2, a3, a4, a5, a6⟩ := hR
    unfold g_X10_scanWord_9
    rw [if_neg (show ¬ (8 : Int) < ((j : Nat) : Int) by omega), a4, at_b (L := L) (r := r) (by rw [a2 13 (by decide)]; exact h13) (by rw [a2 14 (by decide)]; exact h14), letter_b]
    refine ⟨fun hP => ?_, fun hP => ?_⟩
    · have hP : tcL (tb L r (q + j)) = true := hP
      have hx := tcL_r hP
      have hn := nmF_r (f := fun i => tb L r (q + i) - 96) (n := j) (fun i hi => by have := tcL_r (a6 i hi); omega)
      have hp := p27_r j (by omega)
      rw [hP, if_pos rfl, if_neg (show ¬ (1 : Int) = 0 by decide), a5, a1]
      generalize hN : nmF (fun i => tb L r (q + i) - 96) j = N at *
      rw [w32_i (x := tb L r (q + j) - 97) (by omega) (by omega), w32_i (x := tb L r (q + j) - 97 + 1) (by omega) (by omega), w64_id (x := N * 27) (by unfold r64; omega), w64_id (by unfold r64; omega), w32_i (x := ((q + j : Nat) : Int) + 1) (by omega) (by omega), w32_i (x := (j : Int) + 1) (by omega) (by omega)]
      refine ⟨_, rfl, by show (j : Int) + 1 = _; omega, fun k hk => ?_, ?_, ?_, ?_, fun i hi => ?_⟩
      · show (gs (gs s.2 20 5 _) 20 1 _) k = G k
        rw [gs_ne hk, gs_ne hk]; exact a2 k hk
      · exact a3
      · show ((q + j : Nat) : Int) + 1 = ((q + (j + 1) : Nat) : Int)
        omega
      · show N * 27 + (tb L r (q + j) - 97 + 1) = nmF (fun i => tb L r (q + i) - 96) j * 27 + (tb L r (q + j) - 96)
        rw [hN]; omega
      · by_cases hin : i = j
        · rw [hin]; exact hP
        · exact a6 i (by omega)
    · have hP : tcL (tb L r (q + j)) = false := hP
      rw [hP, if_neg (show ¬ false = true by decide), if_pos rfl])
  unfold e_X10_scanWord
  generalize brk (fe (g_X10_scanWord_9 G) (0, gs G 20 5 0) 9) = B at *
  by_cases z : m ≤ 8
  · have e : tkW (tb L r) q = m := rn_eq (P := fun i => tcL (tb L r i)) (fun i hi => m3 i hi) (m4 (by omega)) (by omega)
    rw [if_pos (show B.1 ≤ 8 by omega), r1, kindOfWord_eq (L := L) (r := r) (q := q) (by rw [r2 13 (by decide)]; exact h13) (by rw [r2 14 (by decide)]; exact h14) r3 hq z (fun i hi => m3 i hi)]
    unfold tkN
    rw [e, if_neg (by omega)]
    refine ⟨gs_at _ _ _ _, fun _ => ⟨?_, ?_⟩, ?_⟩
    · rw [gs_at_ne (by decide)]; exact r4
    · rw [gs_at_ne (by decide)]; exact r5
    · rw [gs_at_ne (by decide)]; exact r3
  · have e : 9 ≤ tkW (tb L r) q := rn_ge (P := fun i => tcL (tb L r i)) (fun i hi => m3 i (by omega)) (by omega)
    rw [if_neg (show ¬ B.1 ≤ 8 by omega), if_pos (show 8 < tkW (tb L r) q by omega)]
    refine ⟨gs_at _ _ _ _, fun y => absurd y (by omega), ?_⟩
    rw [gs_at_ne (by decide)]; exact r3
/-- an int is cut -/
theorem scanInt_eq (h13 : G 13 1 = L) (h14 : G 14 = r) (h1 : G 20 1 = (q : Int)) (h3 : G 20 3 = (q : Int)) (hq : q ≤ 3000) (hL : tcD (tb L r q) = true) : (e_X10_scanInt G) 20 2 = km (if 4 < tkI (tb L r) q then 3 else 2) ∧ (tkI (tb L r) q ≤ 4 → (e_X10_scanInt G) 20 1 = ((q + tkI (tb L r) q : Nat) : Int) ∧ (e_X10_scanInt G) 20 4 = tkV (tb L r) q) ∧ (e_X10_scanInt G) 20 3 = (q : Int) := by
  obtain ⟨m, m1, ⟨r1, r2, r3, r4, r5, r6⟩, m3, m4⟩ := fe_run (g := g_X10_scanInt_9 G) (a := (0, gs G 20 4 0)) (N := 5) (P := fun j => tcD (tb L r (q + j))) (R := fun m s => s.1 = (m : Int) ∧ (∀ k, k ≠ 20 → s.2 k = G k) ∧ s.2 20 3 = (q : Int) ∧ s.2 20 1 = ((q + m : Nat) : Int) ∧ s.2 20 4 = vlF (fun i => tb L r (q + i) - 48) m ∧ ∀ i, i < m → tcD (tb L r (q + i)) = true) ⟨rfl, fun k hk => gs_ne hk, by show (gs G 20 4 0) 20 3 = _; rw [gs_at_ne (by decide)]; exact h3, by show (gs G 20 4 0) 20 1 = _; rw [gs_at_ne (by decide)]; exact h1, gs_at G 20 4 0, fun i hi => absurd hi (Nat.not_lt_zero _)⟩ (fun j s hj hR => by
    obtain ⟨a1, a2, a3, a4, a5, a6⟩ := hR
    unfold g_X10_scanInt_9
    rw [if_neg (show ¬ (4 : Int) < ((j : Nat) : Int) by omega), a4, at_b (L := L) (r := r) (by rw [a2 13 (by decide)]; exact h13) (by rw [a2 14 (by decide)]; exact h14), digit_b]
    refine ⟨fun hP => ?_, fun hP => ?_⟩
    · have hP : tcD (tb L r (q + j)) = true := hP
      have hx := tcD_r hP
      have hn := vlF_r (f := fun i => tb L r (q + i) - 48) (n := j) (fun i hi => by have := tcD_r (a6 i hi); omega)
      have hp := p10_r j (by omega)
      rw [hP, if_pos rfl, if_neg (show ¬ (1 : Int) = 0 by decide), a5, a1]
      generalize hN : vlF (fun i => tb L r (q + i) - 48) j = N at *
      rw [w32_i (x := tb L r (q + j) - 48) (by omega) (by omega), w32_i (x := N * 10) (by omega) (by omega), w32_i (x := N * 10 + (tb L r (q + j) - 48)) (by omega) (by omega), w32_i (x := ((q + j : Nat) : Int) + 1) (by omega) (by omega), w32_i (x := (j : Int) + 1) (by omega) (by omega)]
      refine ⟨_, rfl, by show (j : Int) + 1 = _; omega, fun k hk => ?_, ?_, ?_, ?_, fun i hi => ?_⟩
      · show (gs (gs s.2 20 4 _) 20 1 _) k = G k
        rw [gs_ne hk, gs_ne hk]; exact a2 k hk
      · exact a3
      · show ((q + j : Nat) : Int) + 1 = ((q + (j + 1) : Nat) : Int)
        omega
      · show N * 10 + (tb L r (q + j) - 48) = vlF (fun i => tb L r (q + i) - 48) j * 10 + (tb L r (q + j) - 48)
        rw [hN]
      · by_cases hin : i = j
        · rw [hin]; exact hP
        · exact a6 i (by omega)
    · have hP : tcD (tb L r (q + j)) = false := hP
      rw [hP, if_neg (show ¬ false = true by decide), if_pos rfl])
  unfold e_X10_scanInt
  generalize brk (fe (g_X10_scanInt_9 G) (0, gs G 20 4 0) 5) = B at *
  by_cases z : m ≤ 4
  · have e : tkI (tb L r) q = m := rn_eq (P := fun i => tcD (tb L r i)) (fun i hi => m3 i hi) (m4 (by omega)) (by omega)
    rw [if_pos (show B.1 ≤ 4 by omega)]
    unfold tkV
    rw [e, if_neg (by omega)]
    refine ⟨gs_at _ _ _ _, fun _ => ⟨?_, ?_⟩, ?_⟩
    · rw [gs_at_ne (by decide)]; exact r4
    · rw [gs_at_ne (by decide)]; exact r5
    · rw [gs_at_ne (by decide)]; exact r3
  · have e : 5 ≤ tkI (tb L r) q := rn_ge (P := fun i => tcD (tb L r i)) (fun i hi => m3 i (by omega)) (by omega)
    rw [if_neg (show ¬ B.1 ≤ 4 by omega), if_pos (show 4 < tkI (tb L r) q by omega)]
    refine ⟨gs_at _ _ _ _, fun y => absurd y (by omega), ?_⟩
    rw [gs_at_ne (by decide)]; exact r3
theorem sg_k {x y : Int} : f_X10_kindOfSign G x (if y = 61 then 1 else 0) = km (sgK x y) := by
  unfold f_X10_kindOfSign sgK
  by_cases hy : y = 61
  · rw [if_pos hy]
    repeat' split
    all_goals first | rfl | omega
  · rw [if_neg hy]
    repeat' split
    all_goals first | rfl | omega
theorem scanSign_eq (h13 : G 13 1 = L) (h14 : G 14 = r) (h1 : G 20 1 = (q : Int)) (h3 : G 20 3 = (q : Int)) (hq : q ≤ 3000) {x : Int} : (e_X10_scanSign G x) 20 2 = km (sgK x (tb L r (q + 1))) ∧ (e_X10_scanSign G x) 20 1 = ((if 11 ≤ sgK x (tb L r (q + 1)) ∧ ¬ sgK x (tb L r (q + 1)) = 13 then q + 2 else q + 1 : Nat) : Int) ∧ (e_X10_scanSign G x) 20 3 = (q : Int) := by
  have hk := sg_k (G := gs G 20 1 (w32 (G 20 1 + 1))) (x := x) (y := tb L r (q + 1))
  unfold e_X10_scanSign
  have e1 : w32 (G 20 1 + 1) = ((q + 1 : Nat) : Int) := by rw [h1, w32_i (by omega) (by omega)]; omega
  have eb : f_X9_byteAt (gs G 20 1 (w32 (G 20 1 + 1))) (w32 (G 20 1 + 1)) = tb L r (q + 1) := by
    rw [e1, at_b (L := L) (r := r) (by rw [gs_ne (by decide)]; exact h13) (by rw [gs_ne (by decide)]; exact h14)]
  have e2 : w32 (w32 (G 20 1 + 1) + 1) = ((q + 2 : Nat) : Int) := by rw [e1, w32_i (by omega) (by omega)]; omega
  have rg : sgK x (tb L r (q + 1)) = 3 ∨ sgK x (tb L r (q + 1)) = 4 ∨ (6 ≤ sgK x (tb L r (q + 1)) ∧ sgK x (tb L r (q + 1)) ≤ 14) := by
    unfold sgK
    repeat' split
    all_goals omega
  rw [eb, e2]
  have fin : ∀ (B : mG) (kd : Int), B 20 3 = (q : Int) → B 20 1 = ((q + 1 : Nat) : Int) → kd = km (sgK x (tb L r (q + 1))) → (if kd < 10 then gs B 20 2 kd else if kd = 12 then gs B 20 2 kd else gs (gs B 20 2 kd) 20 1 ((q + 2 : Nat) : Int)) 20 2 = km (sgK x (tb L r (q + 1))) ∧ (if kd < 10 then gs B 20 2 kd else if kd = 12 then gs B 20 2 kd else gs (gs B 20 2 kd) 20 1 ((q + 2 : Nat) : Int)) 20 1 = ((if 11 ≤ sgK x (tb L r (q + 1)) ∧ ¬ sgK x (tb L r (q + 1)) = 13 then q + 2 else q + 1 : Nat) : Int) ∧ (if kd < 10 then gs B 20 2 kd else if kd = 12 then gs B 20 2 kd else gs (gs B 20 2 kd) 20 1 ((q + 2 : Nat) : Int)) 20 3 = (q : Int) := by
    intro B kd b3 b1 hkd
    generalize sgK x (tb L r (q + 1)) = K at *
    have hkm : kd = if 20 ≤ K then K - 6 else if 6 ≤ K then K - 1 else if K = 4 then 4 else if K = 3 then 0 else K + 1 := hkd
    rw [← hkd]
    by_cases z1 : kd < 10
    · rw [if_pos z1, if_neg (by revert hkm; repeat' split; all_goals omega)]
      exact ⟨gs_at _ _ _ _, by rw [gs_at_ne (by decide)]; exact b1, by rw [gs_at_ne (by decide)]; exact b3⟩
    · rw [if_neg z1]
      by_cases z2 : kd = 12
      · rw [if_pos z2, if_neg (by revert hkm; repeat' split; all_goals omega)]
        exact ⟨gs_at _ _ _ _, by rw [gs_at_ne (by decide)]; exact b1, by rw [gs_at_ne (by decide)]; exact b3⟩
      · rw [if_neg z2, if_pos (by revert hkm; repeat' split; all_goals omega)]
        exact ⟨by rw [gs_at_ne (by decide), gs_at], gs_at _ _ _ _, by rw [gs_at_ne (by decide), gs_at_ne (by decide)]; exact b3⟩
  by_cases z : tb L r (q + 1) = 61
  · rw [if_neg (show ¬ ¬ tb L r (q + 1) = 61 from fun y => y z)]
    rw [if_pos z] at hk
    exact fin _ _ (by rw [gs_at_ne (by decide)]; exact h3) (by rw [gs_at]; exact e1) hk
  · rw [if_pos z]
    rw [if_neg z] at hk
    exact fin _ _ (by rw [gs_at_ne (by decide)]; exact h3) (by rw [gs_at]; exact e1) hk
/-- the class's next token -/
theorem adv_eq (h13 : G 13 1 = L) (h14 : G 14 = r) (h1 : G 20 1 = (p : Int)) (hp : p ≤ 3000) : (e_X10_advance G) 20 3 = ((tkS (tb L r) p : Nat) : Int) ∧ (e_X10_advance G) 20 2 = km (tkK (tb L r) (tkS (tb L r) p)) ∧ (¬ tkK (tb L r) (tkS (tb L r) p) = 3 → (e_X10_advance G) 20 1 = ((tkE (tb L r) (tkS (tb L r) p) : Nat) : Int)) ∧ (tkK (tb L r) (tkS (tb L r) p) = 2 → (e_X10_advance G) 20 4 = tkV (tb L r) (tkS (tb L r) p)) ∧ (tkK (tb L r) (tkS (tb L r) p) = 1 → (e_X10_advance G) 20 5 = tkN (tb L r) (tkS (tb L r) p)) := by
  obtain ⟨s1, s2, s3⟩ := adv_skip h13 h14 h1 hp
  have hq := tkS_le (L := L) (r := r) hp
  unfold e_X10_advance
  generalize brk (fe (g_X10_advance_2 G) G 3000) = B at *
  generalize tkS (tb L r) p = q at *
  rw [s3]
  have c13 : (gs B 20 3 (q : Int)) 13 1 = L := by rw [gs_ne (by decide), s1 13 (by decide)]; exact h13
  have c14 : (gs B 20 3 (q : Int)) 14 = r := by rw [gs_ne (by decide), s1 14 (by decide)]; exact h14
  have c1 : (gs B 20 3 (q : Int)) 20 1 = (q : Int) := by rw [gs_at_ne (by decide)]; exact s3
  have c3 : (gs B 20 3 (q : Int)) 20 3 = (q : Int) := gs_at _ _ _ _
  rw [at_b c13 c14, letter_b, digit_b]
  generalize gs B 20 3 (q : Int) = C at *
  unfold tkK tkE
  have wkr : ∀ y, ¬ wk y = 3 ∧ ¬ wk y = 2 := fun y => by rcases wk_at (x := y) with ⟨e, _⟩ | ⟨i, _, _, e⟩ <;> omega
  by_cases z0 : tb L r q = -1
  · rw [if_neg (show ¬ ¬ tb L r q = -1 from fun y => y z0), if_pos z0, if_pos z0]
    refine ⟨by rw [gs_at_ne (by decide)]; exact c3, by rw [gs_at]; rfl, fun _ => by rw [gs_at_ne (by decide)]; exact c1, fun y => absurd y (by decide), fun y => absurd y (by decide)⟩
  · rw [if_pos z0, if_neg z0, if_neg z0]
    by_cases z1 : tcL (tb L r q) = true
    · rw [if_pos z1, if_pos z1, if_pos z1, if_neg (show ¬ (1 : Int) = 0 by decide)]
      obtain ⟨w1, w2, w3⟩ := scanWord_eq c13 c14 c1 c3 hq z1
      refine ⟨w3, w1, fun y => ?_, fun y => ?_, fun y => ?_⟩
      · by_cases z8 : 8 < tkW (tb L r) q
        · rw [if_pos z8] at y; exact absurd rfl y
        · exact (w2 (by omega)).1
      · by_cases z8 : 8 < tkW (tb L r) q
        · rw [if_pos z8] at y; exact absurd y (by decide)
        · rw [if_neg z8] at y; exact absurd y (wkr _).2
      · by_cases z8 : 8 < tkW (tb L r) q
        · rw [if_pos z8] at y; exact absurd y (by decide)
        · exact (w2 (by omega)).2
    · rw [if_neg z1, if_neg z1, if_neg z1, if_pos rfl]
      by_cases z2 : tcD (tb L r q) = true
      · rw [if_pos z2, if_pos z2, if_pos z2, if_neg (show ¬ (1 : Int) = 0 by decide)]
        obtain ⟨w1, w2, w3⟩ := scanInt_eq c13 c14 c1 c3 hq z2
        refine ⟨w3, w1, fun y => ?_, fun y => ?_, fun y => ?_⟩
        · by_cases z8 : 4 < tkI (tb L r) q
          · rw [if_pos z8] at y; exact absurd rfl y
          · exact (w2 (by omega)).1
        · by_cases z8 : 4 < tkI (tb L r) q
          · rw [if_pos z8] at y; exact absurd y (by decide)
          · exact (w2 (by omega)).2
        · by_cases z8 : 4 < tkI (tb L r) q
          · rw [if_pos z8] at y; exact absurd y (by decide)
          · rw [if_neg z8] at y; exact absurd y (by decide)
      · rw [if_neg z2, if_neg z2, if_neg z2, if_pos rfl]
        obtain ⟨w1, w2, w3⟩ := scanSign_eq (x := tb L r q) c13 c14 c1 c3 hq
        have sr : ¬ sgK (tb L r q) (tb L r (q + 1)) = 2 ∧ ¬ sgK (tb L r q) (tb L r (q + 1)) = 1 := by
          unfold sgK
          repeat' split
          all_goals omega
        exact ⟨w3, w1, fun _ => w2, fun y => absurd y sr.1, fun y => absurd y sr.2⟩
end ADV
