/-! ===== options: the wants that suit a board, the least first, then none ===== -/
/-- the first bar of campaign o that holds, as the judge regards -/
def bC (c : Nat) (G : mG) (o : Int) : Int := fs (fun j => decide (f_X1_kindOf c G (j : Int) = 21) && (decide (f_X1_ownerOf c G (j : Int) = o) && hCl c G j)) (G c 12).toNat
/-- whether want w suits board b in fortnight f; the judge regards the board -/
def sw (c : Nat) (G : mG) (b f : Int) (w : Nat) : Bool := decide (f_X1_kindOf c G (w : Int) = 18) && (decide (f_X1_districtOf c G (w : Int) = f_X0_districtOf G b) && (decide (¬ f_X1_isInForce c G (f_X1_ownerOf c G (w : Int)) f = 0) && decide (bC c G (f_X1_ownerOf c G (w : Int)) = -1)))
def ows (c : Nat) (G : mG) (b f : Int) (j : Nat) : List Nat := (List.range j).filter (sw c G b f)
/-- a heap that differs where options are listed and where the judge stacks -/
def lO (G H : mG) : Prop := ∀ k, (∀ a ∈ ([25, 30, 31, 32] : List Nat), k ≠ a) → H k = G k
theorem lO.k {G H : mG} (h : lO G H) (k : Nat) (hk : [25, 30, 31, 32].all (fun a => !(Nat.beq a k)) = true) : H k = G k :=
  h k (fun a ha he => by
    have := List.all_eq_true.mp hk a ha
    rw [he] at this
    simp [Nat.beq_refl] at this)
theorem lO.c {G H : mG} {c i : Nat} (hc : c = 40 ∨ c = 52) (hi : i < 12) (h : lO G H) : H (c + i) = G (c + i) := by
  refine h _ (fun a ha => ?_)
  simp only [List.mem_cons, List.not_mem_nil, or_false] at ha
  omega
theorem kind_to {c : Nat} {G H : mG} (h0 : H c = G c) (h4 : H (c + 4) = G (c + 4)) (x : Int) : f_X1_kindOf c H x = f_X1_kindOf c G x := by
  unfold f_X1_kindOf f_X1_hasClause; rw [h0, h4]
theorem dist_to {c : Nat} {G H : mG} (h0 : H c = G c) (h7 : H (c + 7) = G (c + 7)) (x : Int) : f_X1_districtOf c H x = f_X1_districtOf c G x := by
  unfold f_X1_districtOf f_X1_hasClause; rw [h0, h7]
theorem worth_to {c : Nat} {G H : mG} (h0 : H c = G c) (h8 : H (c + 8) = G (c + 8)) (x : Int) : f_X1_worthOf c H x = f_X1_worthOf c G x := by
  unfold f_X1_worthOf f_X1_hasClause; rw [h0, h8]
theorem force_to {c : Nat} {G H : mG} (h0 : H c = G c) (h1 : H (c + 1) = G (c + 1)) (h2 : H (c + 2) = G (c + 2)) (x f : Int) : f_X1_isInForce c H x f = f_X1_isInForce c G x f := by
  unfold f_X1_isInForce f_X1_hasCampaign; rw [h0, h1, h2]
theorem bdist_to {G H : mG} (h1 : H 1 = G 1) (h2 : H 2 = G 2) (x : Int) : f_X0_districtOf H x = f_X0_districtOf G x := by
  unfold f_X0_districtOf f_X0_has; rw [h1, h2]
theorem bC_to {c : Nat} {G H : mG} (hc : c = 40 ∨ c = 52) (h : lO G H) (o : Int) : bC c H o = bC c G o := by
  have e0 : H c = G c := lO.c (i := 0) hc (by omega) h
  have e4 : H (c + 4) = G (c + 4) := lO.c hc (by omega) h
  have e5 : H (c + 5) = G (c + 5) := lO.c hc (by omega) h
  have e9 : H (c + 9) = G (c + 9) := lO.c hc (by omega) h
  have e10 : H (c + 10) = G (c + 10) := lO.c hc (by omega) h
  have e11 : H (c + 11) = G (c + 11) := lO.c hc (by omega) h
  unfold bC
  rw [e0]
  refine fs_congr (fun j _ => ?_)
  rw [kind_to e0 e4, f_own_to e0 e5, hCl_to e0 e9 e10 e11 (h.k 24 (by decide))]
theorem suits_eq {c : Nat} {G H : mG} {b f : Int} {w : Nat} (hc : c = 40 ∨ c = 52) (h : lO G H) (hB : cB c G) : ((r_X8_suits c H (w : Int) b f).1 = 0 ↔ sw c G b f w = false) ∧ lO G (r_X8_suits c H (w : Int) b f).2 ∧ (∀ k, k ≠ 25 → (r_X8_suits c H (w : Int) b f).2 k = H k) := by
  have e0 : H c = G c := lO.c (i := 0) hc (by omega) h
  have e1 : H (c + 1) = G (c + 1) := lO.c hc (by omega) h
  have e2 : H (c + 2) = G (c + 2) := lO.c hc (by omega) h
  have e4 : H (c + 4) = G (c + 4) := lO.c hc (by omega) h
  have e5 : H (c + 5) = G (c + 5) := lO.c hc (by omega) h
  have e7 : H (c + 7) = G (c + 7) := lO.c hc (by omega) h
  have e9 : H (c + 9) = G (c + 9) := lO.c hc (by omega) h
  have e10 : H (c + 10) = G (c + 10) := lO.c hc (by omega) h
  have hfr : ∀ k, k ≠ 25 → (r_X8_suits c H (w : Int) b f).2 k = H k := fun k hk => fr_X8_suits (fun a ha => by simp only [List.mem_cons, List.not_mem_nil, or_false] at ha; omega)
  refine ⟨?_, fun k hk => (hfr k (hk 25 (by decide))).trans (h k hk), hfr⟩
  have hbar : (r_X5_firstHolding c H 21 (f_X1_ownerOf c H (w : Int))).1 = bC c G (f_X1_ownerOf c G (w : Int)) := by
    rw [fh_eq hc (cB_to hB e0 e9 e10), ← bC_to hc h, f_own_to e0 e5]
    rfl
  unfold r_X8_suits sw
  rw [hbar, kind_to e0 e4, dist_to e0 e7, bdist_to (h.k 1 (by decide)) (h.k 2 (by decide)), force_to e0 e1 e2, f_own_to e0 e5]
  by_cases q1 : f_X1_kindOf c G (w : Int) = 18
  · rw [if_neg (fun q => q q1)]
    by_cases q2 : f_X1_districtOf c G (w : Int) = f_X0_districtOf G b
    · rw [if_neg (fun q => q q2)]
      by_cases q3 : f_X1_isInForce c G (f_X1_ownerOf c G (w : Int)) f = 0
      · rw [if_pos q3]; simp [q3]
      · rw [if_neg q3]
        by_cases q4 : bC c G (f_X1_ownerOf c G (w : Int)) = -1
        · rw [if_neg (fun q => q q4)]; simp [q1, q2, q3, q4]
        · rw [if_pos q4]; simp [q4]
    · rw [if_pos q2]; simp [q2]
  · rw [if_pos q1]; simp [q1]
/-- board b's options are these wants, with these gains -/
def oR (H : mG) (b : Nat) (l : List Nat) (gf : Nat → Int) : Prop := H 30 b = (l.length : Int) ∧ ∀ i, (hi : i < l.length) → H 31 (5 * b + i) = (l[i] : Int) ∧ H 32 (5 * b + i) = gf l[i]
theorem addOption_eq {H : mG} {b : Nat} {l : List Nat} {gf : Nat → Int} {w : Int} {y : Int} (hb : b < 9) (h : oR H b l gf) (hl : l.length ≤ 4) :
    (e_X8_addOption H (b : Int) w y) 30 b = (l.length : Int) + 1 ∧ (∀ i, (hi : i < l.length) → (e_X8_addOption H (b : Int) w y) 31 (5 * b + i) = (l[i] : Int) ∧ (e_X8_addOption H (b : Int) w y) 32 (5 * b + i) = gf l[i]) ∧ (e_X8_addOption H (b : Int) w y) 31 (5 * b + l.length) = w ∧ (e_X8_addOption H (b : Int) w y) 32 (5 * b + l.length) = y ∧
    (∀ i, i ≠ b → (e_X8_addOption H (b : Int) w y) 30 i = H 30 i) ∧ (∀ i, i ≠ 5 * b + l.length → (e_X8_addOption H (b : Int) w y) 31 i = H 31 i ∧ (e_X8_addOption H (b : Int) w y) 32 i = H 32 i) ∧ ∀ k, k ≠ 30 → k ≠ 31 → k ≠ 32 → (e_X8_addOption H (b : Int) w y) k = H k := by
  have e1 : w32 (w32 ((b : Int) * 5) + H 30 b) = ((5 * b + l.length : Nat) : Int) := by
    rw [h.1, w32_i (x := (b : Int) * 5) (by omega) (by omega), w32_i (by omega) (by omega)]; omega
  have e : e_X8_addOption H (b : Int) w y = gs (gs (gs H 31 (5 * b + l.length) w) 32 (5 * b + l.length) y) 30 b ((l.length : Int) + 1) := by
    unfold e_X8_addOption
    rw [st_nat, if_neg (by omega), if_neg (by omega), e1, h.1, st_nat, if_neg (by omega), if_neg (by omega), w32_i (by omega) (by omega)]
  rw [e]
  refine ⟨gs_at _ _ _ _, fun i hi => ⟨?_, ?_⟩, ?_, ?_, fun i hi => ?_, fun i hi => ⟨?_, ?_⟩, fun k h1 h2 h3 => by rw [gs_ne h1, gs_ne h3, gs_ne h2]⟩
  · rw [gs_ne (by decide), gs_ne (by decide), gs_at_ne (by omega)]; exact (h.2 i hi).1
  · rw [gs_ne (by decide), gs_at_ne (by omega), gs_ne (by decide)]; exact (h.2 i hi).2
  · rw [gs_ne (by decide), gs_ne (by decide), gs_at]
  · rw [gs_ne (by decide), gs_at]
  · rw [gs_at_ne hi, gs_ne (by decide), gs_ne (by decide)]
  · rw [gs_ne (by decide), gs_ne (by decide), gs_at_ne hi]
  · rw [gs_ne (by decide), gs_at_ne hi, gs_ne (by decide)]
theorem ows_s (c : Nat) (G : mG) (b f : Int) (j : Nat) : ows c G b f (j + 1) = if sw c G b f j = true then ows c G b f j ++ [j] else ows c G b f j := by
  unfold ows
  rw [List.range_succ, List.filter_append]
  by_cases h : sw c G b f j = true
  · rw [if_pos h]; simp [h]
  · rw [if_neg h]; simp [h]
theorem ows_len (c : Nat) (G : mG) (b f : Int) {j k : Nat} (h : j ≤ k) : (ows c G b f j).length ≤ (ows c G b f k).length := by
  obtain ⟨m, rfl⟩ : ∃ m, k = j + m := ⟨k - j, by omega⟩
  clear h
  induction m with
  | zero => exact Nat.le_refl _
  | succ m ih =>
    rw [← Nat.add_assoc, ows_s]
    split
    · rw [List.length_append]; omega
    · exact ih
theorem oR_app {H : mG} {b : Nat} {l : List Nat} {gf : Nat → Int} {w : Nat} (h30 : H 30 b = (l.length : Int) + 1) (h1 : ∀ i, (hi : i < l.length) → H 31 (5 * b + i) = (l[i] : Int) ∧ H 32 (5 * b + i) = gf l[i]) (h2 : H 31 (5 * b + l.length) = (w : Int)) (h3 : H 32 (5 * b + l.length) = gf w) : oR H b (l ++ [w]) gf := by
  refine ⟨by rw [h30, List.length_append]; simp, fun i hi => ?_⟩
  by_cases hil : i < l.length
  · rw [List.getElem_append_left hil]; exact h1 i hil
  · have e : i = l.length := by rw [List.length_append] at hi; simp at hi; omega
    subst e
    rw [List.getElem_append_right (Nat.le_refl _)]
    simp
    exact ⟨h2, h3⟩
/-- the loop over the wants -/
theorem opt_loop {c : Nat} {G : mG} {b : Nat} {f : Int} {nc : Nat} {g : Nat → mG → mG} {gf : Nat → Int} (hc : c = 40 ∨ c = 52) (hb : b < 9) (hB : cB c G) (h4 : (ows c G (b : Int) f nc).length ≤ 4) {s0 : mG} (h0 : lO G s0) (h00 : s0 30 b = 0)
    (hg : ∀ j s, j < nc → lO G s → g j s = (if (r_X8_suits c s ((j : Nat) : Int) (b : Int) f).1 = 0 then (r_X8_suits c s ((j : Nat) : Int) (b : Int) f).2 else e_X8_addOption (r_X8_suits c s ((j : Nat) : Int) (b : Int) f).2 (b : Int) ((j : Nat) : Int) (gf j))) :
    ∀ j, j ≤ nc → lO G (fd g s0 j) ∧ oR (fd g s0 j) b (ows c G (b : Int) f j) gf ∧ (∀ i, i ≠ b → (fd g s0 j) 30 i = s0 30 i) ∧ (∀ i, (i < 5 * b ∨ 5 * b + 5 ≤ i) → (fd g s0 j) 31 i = s0 31 i ∧ (fd g s0 j) 32 i = s0 32 i) := by
  intro j
  induction j with
  | zero => intro _; exact ⟨h0, ⟨by rw [fd_z, h00]; rfl, fun i hi => absurd hi (by simp [ows])⟩, fun _ _ => rfl, fun _ _ => ⟨rfl, rfl⟩⟩
  | succ j ih =>
    intro hj
    obtain ⟨i1, i2, i3, i4⟩ := ih (by omega)
    rw [fd_s, hg j _ (by omega) i1]
    generalize fd g s0 j = s at *
    obtain ⟨s1, s2, s3⟩ := suits_eq (b := (b : Int)) (f := f) (w := j) hc i1 hB
    have o2 : oR (r_X8_suits c s ((j : Nat) : Int) (b : Int) f).2 b (ows c G (b : Int) f j) gf := by
      refine ⟨by rw [s3 30 (by decide)]; exact i2.1, fun i hi => by rw [s3 31 (by decide), s3 32 (by decide)]; exact i2.2 i hi⟩
    rw [ows_s]
    cases hsw : sw c G (b : Int) f j with
    | false =>
      rw [if_pos (s1.mpr hsw)]
      simp only [Bool.false_eq_true, if_false]
      exact ⟨s2, o2, fun i hi => by rw [s3 30 (by decide)]; exact i3 i hi, fun i hi => by rw [s3 31 (by decide), s3 32 (by decide)]; exact i4 i hi⟩
    | true =>
      rw [if_neg (fun q => by have := s1.mp q; rw [hsw] at this; cases this)]
      simp only [if_true]
      have hl := ows_len c G (b : Int) f (show j + 1 ≤ nc from hj)
      rw [ows_s, if_pos hsw, List.length_append] at hl
      simp at hl
      obtain ⟨a1, a2, a3, a4, a5, a6, a7⟩ := addOption_eq (w := ((j : Nat) : Int)) (y := gf j) hb o2 (by omega)
      refine ⟨fun k hk => ?_, oR_app a1 a2 a3 a4, fun i hi => ?_, fun i hi => ?_⟩
      · rw [a7 k (hk 30 (by decide)) (hk 31 (by decide)) (hk 32 (by decide))]; exact s2 k hk
      · rw [a5 i hi, s3 30 (by decide)]; exact i3 i hi
      · have := a6 i (by omega)
        rw [this.1, this.2, s3 31 (by decide), s3 32 (by decide)]
        exact i4 i hi
