/-! ===== the planner's rows, and the numbers that its search rests on ===== -/
section PLR
variable {c : Nat} {G : mG} {f nf : Int} {n nk : Nat}
/-- one board's options, by either form -/
def loV (v : Int) (c : Nat) (f nf : Int) (b : Nat) (s : mG) : mG := if v = 1 then e_X8_listOptions_1 c s ((b : Nat) : Int) f nf else e_X8_listOptions_0 c s ((b : Nat) : Int) f nf
theorem loV_fr {v : Int} {HA : mG} {b k : Nat} (hk : ∀ a ∈ ([24, 25, 30, 31, 32] : List Nat), k ≠ a) : (fd (loV v c f nf) HA b) k = HA k := fd_fr (fun j s => by
  unfold loV
  split
  · exact fr_X8_listOptions_1 hk
  · exact fr_X8_listOptions_0 hk)
theorem loP0_V : loP0 c f nf = loV 0 c f nf := by
  funext b s
  unfold loP0 loV
  rw [if_neg (show ¬ (0 : Int) = 1 by decide)]
theorem loP1_V : loP1 c f nf = loV 1 c f nf := by
  funext b s
  unfold loP1 loV
  rw [if_pos rfl]
theorem lsl_inc {bv : Nat → Nat → Int} {b i j : Nat} (hi : i < (lsl G f nf bv nk b).length) (hj : j < (lsl G f nf bv nk b).length) (h : (lsl G f nf bv nk b)[i] = (lsl G f nf bv nk b)[j]) : i = j := by
  have hp : List.Pairwise (· < ·) (lsl G f nf bv nk b) := by
    unfold lsl
    split
    · unfold lsO
      exact List.Pairwise.filter _ List.pairwise_lt_range
    · exact List.Pairwise.nil
  rw [List.pairwise_iff_getElem] at hp
  by_cases h1 : i < j
  · have := hp i j hi hj h1; omega
  · by_cases h2 : j < i
    · have := hp j i hj hi h2; omega
    · omega
theorem lsl_want (h : Cpl c G) (hnk : (nk : Int) = G c 12) {bv : Nat → Nat → Int} {b i : Nat} (hi : i < (lsl G f nf bv nk b).length) : (lsl G f nf bv nk b)[i] < nk ∧ G (c + 4) (lsl G f nf bv nk b)[i] = 18 ∧ G (c + 7) (lsl G f nf bv nk b)[i] = G 2 b ∧ G 77 (rfL G + (lsl G f nf bv nk b)[i]) = 0 := by
  have hm := lsl_mem hi
  generalize (lsl G f nf bv nk b)[i] = w at hm
  have ht := hm.2
  unfold lsC at ht
  rw [Bool.and_eq_true, Bool.and_eq_true, Bool.and_eq_true] at ht
  have a1 := of_decide_eq_true ht.1
  have a3 := of_decide_eq_true ht.2.2.1
  have hk := (h.2.2.1.2.2.2.2.2.1 w (by omega)).2
  rw [h.1.1.2.2.1.1] at a3
  have a4 := a1
  unfold rfL at a1 a3
  exact ⟨hm.1, by omega, by omega, a4⟩
theorem opG_r (h : Cpl c G) (hnk : (nk : Int) = G c 12) {v : Int} {b : Nat} {w : Int} (hw : w = -1 ∨ ∃ k : Nat, w = (k : Int) ∧ k < nk ∧ G (c + 4) k = 18) : -1 ≤ opG v c G f nf b w ∧ opG v c G f nf b w ≤ 160000 := by
  have ow := opt_worth (s := G) (H := G) h hnk ⟨fun _ _ _ => rfl, rfl, fun _ _ => rfl⟩ (fun _ _ => rfl) hw
  unfold opG
  have h1 := ow.2
  generalize (if w = -1 then 0 else G (c + 8) w.toNat) = y at h1
  split <;> omega
/-- the rows behind b boards -/
theorem plan_rows (h : Cpl c G) (hn : G 1 6 = (n : Int)) (hnk : (nk : Int) = G c 12) (hf : 0 ≤ f ∧ f < 26) (hful : f_X1_inForceIn c G f ≤ 4) {v : Int} (hv : v = 0 ∨ v = 1) {HA : mG} (hA : opX c G HA) : ∀ b, b ≤ n → opX c G (fd (loV v c f nf) HA b) ∧ ∀ b', b' < b → opR v c G f nf nk b' (fd (loV v c f nf) HA b) := by
  have hc := Cpl_c h
  have hX : ∀ b, opX c G (fd (loV v c f nf) HA b) := fun b => ⟨fun k h1 h2 => by
      rw [loV_fr (fun a ha => by simp only [List.mem_cons, List.not_mem_nil, or_false] at ha; omega)]
      exact hA.1 k h1 h2, by rw [loV_fr (by decide)]; exact hA.2.1, fun i hi => by
      rw [loV_fr (fun a ha => by simp only [List.mem_cons, List.not_mem_nil, or_false] at ha; omega)]
      exact hA.2.2 i hi⟩
  intro b
  induction b with
  | zero => intro _; exact ⟨hX 0, fun b' hb' => absurd hb' (by omega)⟩
  | succ b ih =>
    intro hb
    obtain ⟨i1, i2⟩ := ih (by omega)
    refine ⟨hX (b + 1), ?_⟩
    rw [fd_s]
    generalize fd (loV v c f nf) HA b = s at i1 i2 ⊢
    have l4 := opt_four (f := f) (nf := nf) (b := b) h hnk hful
    have one : opR v c G f nf nk b (loV v c f nf b s) ∧ (∀ i, i ≠ b → (loV v c f nf b s) 30 i = s 30 i) ∧ (∀ i, (i < 5 * b ∨ 5 * b + 5 ≤ i) → (loV v c f nf b s) 31 i = s 31 i ∧ (loV v c f nf b s) 32 i = s 32 i) := by
      unfold loV
      rcases hv with e | e
      · rw [e, if_neg (show ¬ (0 : Int) = 1 by decide)]
        exact opt_b0 h hn hnk hf (by omega) i1 l4
      · rw [e, if_pos rfl]
        exact opt_b1 h hn hnk hf (by omega) i1 l4
    obtain ⟨o1, o2, o3⟩ := one
    intro b' hb'
    by_cases hbb : b' = b
    · rw [hbb]; exact o1
    · obtain ⟨r1, r2, r3, r4⟩ := i2 b' (by omega)
      have l4' := opt_four (f := f) (nf := nf) (b := b') h hnk hful
      refine ⟨by rw [o2 b' hbb]; exact r1, fun i hi => ?_, ?_, ?_⟩
      · rw [(o3 _ (by omega)).1, (o3 _ (by omega)).2]; exact r2 i hi
      · rw [(o3 _ (by omega)).1]; exact r3
      · rw [(o3 _ (by omega)).2]; exact r4
theorem cn_pos {p : Nat → Bool} {m i : Nat} (hi : i < m) (h : p i = true) : 1 ≤ cn p m := by
  induction m with
  | zero => omega
  | succ m ih =>
    show 1 ≤ cn p m + b01 (p m)
    have hnn := cn_nn p m
    have hb : 0 ≤ b01 (p m) := by unfold b01; cases p m <;> simp
    by_cases h2 : i = m
    · rw [← h2, h]
      rw [← h2] at hnn
      show 1 ≤ cn p i + 1
      omega
    · have := ih (by omega); omega
/-- the heap before the search, from the rows -/
theorem plan_sF0 (h : Cpl c G) (hn : G 1 6 = (n : Int)) (hnk : (nk : Int) = G c 12) (hf : 0 ≤ f ∧ f < 26) (hful : f_X1_inForceIn c G f ≤ 4) {v : Int} (hv : v = 0 ∨ v = 1) {HA : mG} (hA1 : ∀ k, k ≠ 33 → HA k = (gs (gs G 29 3 ((c + 5 : Nat) : Int)) 29 4 (n : Int)) k) (hA2 : ∀ w, w < 40 → HA 33 w = f_X1_amountOf c G ((w : Nat) : Int)) :
    sF0 c (e_X8_countTakers (fd (loV v c f nf) HA n)) n ((e_X8_countTakers (fd (loV v c f nf) HA n)) 33) ∧ (∀ b, b < n → opR v c G f nf nk b (e_X8_countTakers (fd (loV v c f nf) HA n))) ∧ (∀ k, (∀ a ∈ ([24, 25, 29, 30, 31, 32, 33, 34] : List Nat), k ≠ a) → (e_X8_countTakers (fd (loV v c f nf) HA n)) k = G k) ∧ (∀ w, w < 40 → (e_X8_countTakers (fd (loV v c f nf) HA n)) 33 w = f_X1_amountOf c G ((w : Nat) : Int)) ∧ (e_X8_countTakers (fd (loV v c f nf) HA n)) 29 4 = (n : Int) := by
  have hc := Cpl_c h
  have h9 := h.1.1.1
  obtain ⟨d1, d2, d3, d4, d5, d6, d7, d8, d9⟩ := id h.2.2.1
  have hAG : ∀ k, k ≠ 33 → k ≠ 29 → HA k = G k := fun k h1 h2 => by rw [hA1 k h1, gs_ne h2, gs_ne h2]
  have hX : opX c G HA := ⟨fun k h1 h2 => hAG k (by omega) (by omega), hAG 22 (by decide) (by decide), fun i hi => hAG _ (by omega) (by omega)⟩
  have rows := (plan_rows (nf := nf) h hn hnk hf hful hv hX n (Nat.le_refl _)).2
  have hB : ∀ k, (∀ a ∈ ([24, 25, 30, 31, 32] : List Nat), k ≠ a) → (fd (loV v c f nf) HA n) k = HA k := fun k hk => loV_fr hk
  generalize fd (loV v c f nf) HA n = HB at rows hB ⊢
  have l4 : ∀ b, (lsl G f nf (opV G nk) nk b).length ≤ 4 := fun b => opt_four (f := f) (nf := nf) (b := b) h hnk hful
  have nk40 : nk ≤ 40 := by omega
  have b4 : HB 29 4 = (n : Int) := by rw [hB 29 (by decide), hA1 29 (by decide), gs_at]
  have b3 : HB 29 3 = ((c + 5 : Nat) : Int) := by rw [hB 29 (by decide), hA1 29 (by decide), gs_at_ne (by decide), gs_at]
  have hop : ∀ b, b < n → 0 ≤ HB 30 b ∧ HB 30 b ≤ 5 := fun b hb => by
    have := (rows b hb).1
    have := l4 b
    omega
  -- what an option is
  have opt : ∀ b i, b < n → i < (HB 30 b).toNat → (HB 31 (5 * b + i) = -1 ∧ i = (lsl G f nf (opV G nk) nk b).length ∧ HB 32 (5 * b + i) = opG v c G f nf b (-1)) ∨ ∃ hi : i < (lsl G f nf (opV G nk) nk b).length, HB 31 (5 * b + i) = ((lsl G f nf (opV G nk) nk b)[i] : Int) ∧ HB 32 (5 * b + i) = opG v c G f nf b ((lsl G f nf (opV G nk) nk b)[i] : Int) := by
    intro b i hb hi
    obtain ⟨r1, r2, r3, r4⟩ := rows b hb
    by_cases hl : i < (lsl G f nf (opV G nk) nk b).length
    · exact Or.inr ⟨hl, r2 i hl⟩
    · have e : i = (lsl G f nf (opV G nk) nk b).length := by omega
      rw [e]
      exact Or.inl ⟨r3, rfl, r4⟩
  have hcl : ∀ b i, b < n → i < (HB 30 b).toNat → HB 31 (5 * b + i) < (nk : Int) := by
    intro b i hb hi
    rcases opt b i hb hi with o | ⟨hl, o1, o2⟩
    · omega
    · have := (lsl_want (f := f) (nf := nf) (bv := opV G nk) h hnk hl).1
      omega
  obtain ⟨t1, t2⟩ := takers_eq (G := HB) (n := n) (by omega) b4 hop (fun b i hb hi => by have := hcl b i hb hi; omega)
  generalize e_X8_countTakers HB = HT at t1 t2 ⊢
  have oc0 : ∀ b w, 0 ≤ oc HB b w := fun b w => (cn_r _ _).1
  have oc1 : ∀ b w, b < n → oc HB b w ≤ 1 := by
    intro b w hb
    refine cn_one (fun i j hi hj h1 h2 => ?_)
    have a1 := of_decide_eq_true h1
    have a2 := of_decide_eq_true h2
    rcases opt b i hb hi with o | ⟨hl, o1, o2⟩
    · omega
    · rcases opt b j hb hj with o | ⟨hl2, o3, o4⟩
      · omega
      · exact lsl_inc hl hl2 (by omega)
  have tks : ∀ m b w, tkM HB (m + 1) b w = tkM HB m (b + 1) w + oc HB b w := fun _ _ _ => rfl
  have tkr : ∀ m b w, b + m = n → 0 ≤ tkM HB m b w ∧ tkM HB m b w ≤ (m : Int) := by
    intro m
    induction m with
    | zero => intro b w _; exact ⟨Int.le_refl _, Int.le_refl _⟩
    | succ m ih =>
      intro b w hb
      have a1 := ih (b + 1) w (by omega)
      have a2 := oc0 b w
      have a3 := oc1 b w (by omega)
      rw [tks]
      omega
  have tkz : ∀ m b w, b + m = n → nk ≤ w → tkM HB m b w = 0 := by
    intro m
    induction m with
    | zero => intro b w _ _; rfl
    | succ m ih =>
      intro b w hb hw
      have e : oc HB b w = 0 := cn_zero (fun i hi => by
        have := hcl b i (by omega) hi
        exact decide_eq_false (by omega))
      rw [tks, ih (b + 1) w (by omega) hw, e]
      rfl
  have tkT : ∀ b w, b ≤ n → w < 40 → tkH HT b w = tkM HB (n - b) b w := fun b w hb hw => t1 b w hb hw
  have sub1 : ∀ b, b < n → n - b = (n - (b + 1)) + 1 := fun b hb => by omega
  have k30 : HT 30 = HB 30 := t2 30 (by decide)
  have k31 : HT 31 = HB 31 := t2 31 (by decide)
  have k32 : HT 32 = HB 32 := t2 32 (by decide)
  have kT : ∀ k, (∀ a ∈ ([24, 25, 29, 30, 31, 32, 33, 34] : List Nat), k ≠ a) → HT k = G k := fun k hk => by
    rw [t2 k (hk 34 (by decide)), hB k (fun a ha => hk a (by simp only [List.mem_cons, List.not_mem_nil, or_false] at ha ⊢; omega))]
    exact hAG k (hk 33 (by decide)) (hk 29 (by decide))
  have kc : ∀ i, i < 12 → HT (c + i) = G (c + i) := fun i hi => kT _ (fun a ha => by simp only [List.mem_cons, List.not_mem_nil, or_false] at ha; omega)
  have k33 : ∀ w, w < 40 → HT 33 w = f_X1_amountOf c G ((w : Nat) : Int) := fun w hw => by rw [t2 33 (by decide), hB 33 (by decide)]; exact hA2 w hw
  have e0 : HT c = G c := kc 0 (by omega)
  refine ⟨⟨by omega, by rw [t2 29 (by decide)]; exact b4, by rw [t2 29 (by decide)]; exact b3, by rw [e0]; exact d3, by rw [k30]; exact hop, fun b i hb hi => ?_, fun x => ?_, fun b w hb hw => ?_, fun b i hb hi h0 => ?_, fun b w hb h1 h2 => ?_, fun b hb => ?_, fun w hw => ?_, fun b hb => ?_⟩, fun b hb => ?_, kT, k33, by rw [t2 29 (by decide)]; exact b4⟩
  · rw [k30] at hi
    rw [k31, k32]
    rcases opt b i hb hi with ⟨o1, _, o2⟩ | ⟨hl, o1, o2⟩
    · rw [o1, o2]
      exact ⟨by omega, opG_r h hnk (Or.inl rfl)⟩
    · have lw := lsl_want (f := f) (nf := nf) (bv := opV G nk) h hnk hl
      rw [o1, o2]
      exact ⟨by omega, opG_r h hnk (Or.inr ⟨_, rfl, lw.1, lw.2.1⟩)⟩
  · have := fa_X1_hasClause c HT x
    unfold f_X1_ownerOf
    by_cases hz : f_X1_hasClause c HT x = 0
    · rw [if_pos hz]; omega
    · rw [if_neg hz, kc 5 (by omega)]
      rw [e0] at this
      have hk := (d6 x.toNat (by omega)).1.2
      omega
  · rw [tkT (b + 1) w (by omega) hw, tkT b w (by omega) hw, sub1 b hb, tks]
    have a1 := tkr (n - (b + 1)) (b + 1) w (by omega)
    have a2 := oc0 b w
    have a3 := oc1 b w hb
    omega
  · rw [k31] at h0 ⊢
    rw [k30] at hi
    have hw := hcl b i hb hi
    rw [tkT (b + 1) _ (by omega) (by omega), tkT b _ (by omega) (by omega), sub1 b hb, tks]
    have a2 : 1 ≤ oc HB b (HB 31 (5 * b + i)).toNat := cn_pos hi (decide_eq_true (show HB 31 (5 * b + i) = (((HB 31 (5 * b + i)).toNat : Nat) : Int) by omega))
    omega
  · rw [e0] at h1
    rw [tkT b w (by omega) h2]
    exact tkz _ b w (by omega) (by omega)
  · rw [e0, show (G c 12).toNat = nk by omega]
    have e : sm (tkH HT) b nk = fd (fun w (s : Nat) => s + (tkM HB (n - b) b w).toNat) 0 nk := by
      unfold sm
      exact fd_congr (fun w s hw => by rw [tkT b w (by omega) (by omega)])
    rw [e]
    have := tk_sum (G := HB) (nk := nk) (n := n) (fun b hb => by have := hop b hb; omega) (fun b hb => by
      have r := rows b hb
      have := oc_sum (G := HB) (b := b) (nk := nk) (i0 := (lsl G f nf (opV G nk) nk b).length) (by have := r.1; omega) r.2.2.1
      have := hop b hb
      omega) oc0 (n - b) b (by omega)
    omega
  · rw [k33 w hw]
    have := fa_X1_hasClause c G ((w : Nat) : Int)
    unfold f_X1_amountOf
    by_cases hz : f_X1_hasClause c G ((w : Nat) : Int) = 0
    · rw [if_pos hz]; omega
    · rw [if_neg hz, st_nat]
      have hk := (d6 w (by omega)).2
      omega
  · rw [k30, k31]
    have r := rows b hb
    exact ⟨(lsl G f nf (opV G nk) nk b).length, by have := r.1; omega, r.2.2.1⟩
  · unfold opR
    rw [k30, k31, k32]
    exact rows b hb
end PLR
