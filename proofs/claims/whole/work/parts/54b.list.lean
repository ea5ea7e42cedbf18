/-! ===== the class lists the options of a board ===== -/
/-- what an option gains; v = 1: a mending -/
def opG (v : Int) (c : Nat) (G : mG) (f nf : Int) (b : Nat) (w : Int) : Int := 16 * (if w = -1 then 0 else G (c + 8) w.toNat) - (if v = 1 ∧ f_X12_isLost G ((b : Nat) : Int) f nf = 0 ∧ ¬ w = G 22 (9 * f.toNat + b) then 1 else 0)
/-- board b's options stand in the planner's rows -/
def opR (v : Int) (c : Nat) (G : mG) (f nf : Int) (nk b : Nat) (H : mG) : Prop := H 30 b = ((lsl G f nf (opV G nk) nk b).length : Int) + 1 ∧ (∀ i, (hi : i < (lsl G f nf (opV G nk) nk b).length) → H 31 (5 * b + i) = ((lsl G f nf (opV G nk) nk b)[i] : Int) ∧ H 32 (5 * b + i) = opG v c G f nf b ((lsl G f nf (opV G nk) nk b)[i] : Int)) ∧ H 31 (5 * b + (lsl G f nf (opV G nk) nk b).length) = -1 ∧ H 32 (5 * b + (lsl G f nf (opV G nk) nk b).length) = opG v c G f nf b (-1)
section OPL
variable {c : Nat} {G : mG} {f nf : Int} {n nk : Nat}
theorem worth_none (c : Nat) (G : mG) : f_X1_worthOf c G (-1) = 0 := by
  have := fa_X1_hasClause c G (-1)
  unfold f_X1_worthOf
  rw [if_pos (by omega)]
theorem gain_0 {H : mG} {w b : Int} {x : Int} (hx : f_X1_worthOf c H w = x) (hr : 0 ≤ x ∧ x ≤ 9999) : f_X8_gainOf_0 c H w b f = 16 * x := by
  unfold f_X8_gainOf_0
  rw [hx, w32_i (by omega) (by omega)]
  omega
theorem gain_1 {H : mG} {w : Int} {b : Nat} {x v : Int} (hx : f_X1_worthOf c H w = x) (hr : 0 ≤ x ∧ x ≤ 9999) (hv : f_X4_clauseOf H (b : Int) f = v) : f_X8_gainOf_1 c H w (b : Int) f = 16 * x - (if ¬ w = v then 1 else 0) := by
  unfold f_X8_gainOf_1
  rw [hx, hv, w32_i (x := x * 16) (by omega) (by omega)]
  by_cases h : v = w
  · rw [if_neg (show ¬ ¬ v = w from fun q => q h), if_neg (show ¬ ¬ w = v from fun q => q h.symm)]; omega
  · rw [if_pos h, if_pos (show ¬ w = v from fun q => h q.symm), w32_i (by omega) (by omega)]; omega
/-- the loop over the wants and the last option, whatever the gains' form -/
theorem opt_one (h : Cpl c G) (hn : G 1 6 = (n : Int)) (hnk : (nk : Int) = G c 12) (hf : 0 ≤ f ∧ f < 26) {b : Nat} (hb : b < n) {s : mG} (hs : opX c G s) {v : Int} {g : Nat → mG → mG} {ga : mG → Int → Int} (hlo : f_X12_isLost G ((b : Nat) : Int) f nf = 0) (hl4 : (lsl G f nf (opV G nk) nk b).length ≤ 4)
    (hgd : ∀ j st, g j st = (if (r_X8_suits c st ((j : Nat) : Int) ((b : Nat) : Int) f).1 = 0 then (r_X8_suits c st ((j : Nat) : Int) ((b : Nat) : Int) f).2 else e_X8_addOption (r_X8_suits c st ((j : Nat) : Int) ((b : Nat) : Int) f).2 ((b : Nat) : Int) ((j : Nat) : Int) (ga (r_X8_suits c st ((j : Nat) : Int) ((b : Nat) : Int) f).2 ((j : Nat) : Int))))
    (hga : ∀ (H : mG) (w : Int), (w = -1 ∨ ∃ k : Nat, w = (k : Int) ∧ k < nk ∧ G (c + 4) k = 18) → (∀ k, (∀ a ∈ ([24, 25, 30, 31, 32] : List Nat), k ≠ a) → H k = s k) → ga H w = opG v c G f nf b w) :
    opR v c G f nf nk b (e_X8_addOption (fd g (e_X5_regard (gs s 30 b 0) ((b : Nat) : Int)) nk) ((b : Nat) : Int) (-1) (ga (fd g (e_X5_regard (gs s 30 b 0) ((b : Nat) : Int)) nk) (-1))) ∧ (∀ i, i ≠ b → (e_X8_addOption (fd g (e_X5_regard (gs s 30 b 0) ((b : Nat) : Int)) nk) ((b : Nat) : Int) (-1) (ga (fd g (e_X5_regard (gs s 30 b 0) ((b : Nat) : Int)) nk) (-1))) 30 i = s 30 i) ∧ (∀ i, (i < 5 * b ∨ 5 * b + 5 ≤ i) → (e_X8_addOption (fd g (e_X5_regard (gs s 30 b 0) ((b : Nat) : Int)) nk) ((b : Nat) : Int) (-1) (ga (fd g (e_X5_regard (gs s 30 b 0) ((b : Nat) : Int)) nk) (-1))) 31 i = s 31 i ∧ (e_X8_addOption (fd g (e_X5_regard (gs s 30 b 0) ((b : Nat) : Int)) nk) ((b : Nat) : Int) (-1) (ga (fd g (e_X5_regard (gs s 30 b 0) ((b : Nat) : Int)) nk) (-1))) 32 i = s 32 i) := by
  have hc := Cpl_c h
  have h9 := h.1.1.1
  have hcB := h.2.2.2.2.1
  obtain ⟨r1, r2, r3, r4, r5, r6, r7, r8⟩ := regard_eq (G := gs s 30 b 0) (b := ((b : Nat) : Int)) (by rw [gs_ne (by decide), hs.1 1 (by decide) (by decide)]; omega)
  rw [st_nat, gs_ne (by decide), hs.1 2 (by decide) (by decide)] at r1
  rw [st_nat, gs_ne (by decide), hs.1 3 (by decide) (by decide)] at r2
  rw [st_nat, gs_ne (by decide), hs.1 4 (by decide) (by decide)] at r3
  rw [st_nat, gs_ne (by decide), hs.1 5 (by decide) (by decide)] at r4
  generalize hR : e_X5_regard (gs s 30 b 0) ((b : Nat) : Int) = R at *
  have kR : ∀ k, k ≠ 24 → k ≠ 30 → R k = s k := fun k h1 h2 => by rw [r8 k h1, gs_ne h2]
  have kRc : ∀ i, i < 12 → R (c + i) = G (c + i) := fun i hi => by rw [kR _ (by omega) (by omega)]; exact hs.2.2 i hi
  have hsw : ∀ w, w < nk → sw c R ((b : Nat) : Int) f w = lsC G f (opV G nk b) b w := fun w hw => op_sw h hn hnk hb hw hs kR r1 r2 r3 r4 r5 r6 r7
  have hows : ∀ j, j ≤ nk → ows c R ((b : Nat) : Int) f j = lsO G f (opV G nk b) b j := by
    intro j hj
    unfold ows lsO
    exact List.filter_congr (fun x hx => hsw x (by rw [List.mem_range] at hx; omega))
  have hlsl : lsl G f nf (opV G nk) nk b = lsO G f (opV G nk b) b nk := by unfold lsl; rw [if_pos hlo]
  have hB : cB c R := cB_to hcB (kRc 0 (by omega)) (kRc 9 (by omega)) (kRc 10 (by omega))
  have key := opt_loop (c := c) (G := R) (b := b) (f := f) (nc := nk) (g := g) (gf := fun j => opG v c G f nf b ((j : Nat) : Int)) hc (by omega) hB (by rw [hows nk (Nat.le_refl _), ← hlsl]; exact hl4) (s0 := R) (fun _ _ => rfl) (by rw [r8 30 (by decide), gs_at]) (fun j st hj hst => by
    rw [hgd]
    obtain ⟨s1, s2, s3⟩ := suits_eq (b := ((b : Nat) : Int)) (f := f) (w := j) hc hst hB
    by_cases hz : (r_X8_suits c st ((j : Nat) : Int) ((b : Nat) : Int) f).1 = 0
    · rw [if_pos hz, if_pos hz]
    · rw [if_neg hz, if_neg hz]
      have hsj : sw c R ((b : Nat) : Int) f j = true := by
        cases hq : sw c R ((b : Nat) : Int) f j with
        | true => rfl
        | false => exact absurd (s1.mpr hq) hz
      rw [hsw j hj] at hsj
      have h18 : G (c + 4) j = 18 := by
        unfold lsC at hsj
        rw [Bool.and_eq_true] at hsj
        have h0 := of_decide_eq_true hsj.1
        have hk := (h.2.2.1.2.2.2.2.2.1 j (by omega)).2
        unfold rfL at h0
        omega
      rw [hga _ _ (Or.inr ⟨j, rfl, hj, h18⟩) (fun k hk => by
        rw [s3 k (hk 25 (by decide)), hst k (fun a ha => hk a (by simp only [List.mem_cons, List.not_mem_nil, or_false] at ha ⊢; omega)), kR k (hk 24 (by decide)) (hk 30 (by decide))])])
  obtain ⟨k1, k2, k3, k4⟩ := key nk (Nat.le_refl _)
  rw [hows nk (Nat.le_refl _), ← hlsl] at k2
  generalize fd g R nk = F at k1 k2 k3 k4 ⊢
  have hgl : ga F (-1) = opG v c G f nf b (-1) := hga _ _ (Or.inl rfl) (fun k hk => by rw [k1 k (fun a ha => hk a (by simp only [List.mem_cons, List.not_mem_nil, or_false] at ha ⊢; omega)), kR k (hk 24 (by decide)) (hk 30 (by decide))])
  rw [hgl]
  obtain ⟨a1, a2, a3, a4, a5, a6, a7⟩ := addOption_eq (w := -1) (y := opG v c G f nf b (-1)) (show b < 9 by omega) k2 hl4
  refine ⟨⟨a1, a2, a3, a4⟩, fun i hi => ?_, fun i hi => ?_⟩
  · rw [a5 i hi, k3 i hi, r8 30 (by decide), gs_at_ne hi]
  · rw [(a6 i (by omega)).1, (a6 i (by omega)).2, (k4 i hi).1, (k4 i hi).2, kR 31 (by decide) (by decide), kR 32 (by decide) (by decide)]
    exact ⟨rfl, rfl⟩
/-- one board, a lost one -/
theorem opt_lost (h : Cpl c G) {b : Nat} (hb : b < 9) {s : mG} {v : Int} (hlo : ¬ f_X12_isLost G ((b : Nat) : Int) f nf = 0) : opR v c G f nf nk b (e_X8_addOption (gs s 30 b 0) ((b : Nat) : Int) (-1) 0) ∧ (∀ i, i ≠ b → (e_X8_addOption (gs s 30 b 0) ((b : Nat) : Int) (-1) 0) 30 i = s 30 i) ∧ (∀ i, (i < 5 * b ∨ 5 * b + 5 ≤ i) → (e_X8_addOption (gs s 30 b 0) ((b : Nat) : Int) (-1) 0) 31 i = s 31 i ∧ (e_X8_addOption (gs s 30 b 0) ((b : Nat) : Int) (-1) 0) 32 i = s 32 i) := by
  have hlsl : lsl G f nf (opV G nk) nk b = [] := by unfold lsl; rw [if_neg hlo]
  obtain ⟨a1, a2, a3, a4, a5, a6, a7⟩ := addOption_eq (H := gs s 30 b 0) (b := b) (l := []) (gf := fun _ => 0) (w := -1) (y := 0) hb ⟨gs_at _ _ _ _, fun i hi => absurd hi (Nat.not_lt_zero _)⟩ (by simp)
  have hg : opG v c G f nf b (-1) = 0 := by
    unfold opG
    rw [if_pos rfl, if_neg (fun q => hlo q.2.1)]
    rfl
  unfold opR
  rw [hlsl, hg]
  refine ⟨⟨a1, fun i hi => absurd hi (Nat.not_lt_zero _), a3, a4⟩, fun i hi => ?_, fun i hi => ?_⟩
  · rw [a5 i hi, gs_at_ne hi]
  · rw [(a6 i (by simp; omega)).1, (a6 i (by simp; omega)).2, gs_ne (by decide), gs_ne (by decide)]
    exact ⟨rfl, rfl⟩
theorem lost_c (h : Cpl c G) {b : Nat} {s : mG} (hs : opX c G s) : f_X3_isLost (gs s 30 b 0) ((b : Nat) : Int) f nf = f_X12_isLost G ((b : Nat) : Int) f nf := by
  obtain ⟨g1, g2, ⟨g3, g4, g5, g6⟩, g7, g8⟩ := h.1.2.1
  rw [lost_eq, g3, g4, g5]
  unfold f_X3_isLost
  rw [gs_ne (by decide), gs_ne (by decide), gs_ne (by decide), hs.1 9 (by decide) (by decide), hs.1 10 (by decide) (by decide), hs.1 11 (by decide) (by decide)]
theorem opt_worth (h : Cpl c G) (hnk : (nk : Int) = G c 12) {s H : mG} (hs : opX c G s) (hH : ∀ k, (∀ a ∈ ([24, 25, 30, 31, 32] : List Nat), k ≠ a) → H k = s k) {w : Int} (hw : w = -1 ∨ ∃ k : Nat, w = (k : Int) ∧ k < nk ∧ G (c + 4) k = 18) : f_X1_worthOf c H w = (if w = -1 then 0 else G (c + 8) w.toNat) ∧ (0 ≤ (if w = -1 then 0 else G (c + 8) w.toNat) ∧ (if w = -1 then 0 else G (c + 8) w.toNat) ≤ 9999) := by
  have hc := Cpl_c h
  obtain ⟨d1, d2, d3, d4, d5, d6, d7, d8, d9⟩ := h.2.2.1
  have kc : ∀ i, i < 12 → H (c + i) = G (c + i) := fun i hi => by
    rw [hH _ (fun a ha => by simp only [List.mem_cons, List.not_mem_nil, or_false] at ha; omega)]
    exact hs.2.2 i hi
  rcases hw with e | ⟨k, e, k1, k2⟩
  · rw [if_pos e, e, worth_none]
    exact ⟨rfl, by omega⟩
  · have hne : ¬ w = -1 := by omega
    rw [if_neg hne, e, st_nat]
    have e0 : H c = G c := kc 0 (by omega)
    rw [at_worth (by rw [e0]; exact d3.2) (by rw [e0]; omega), kc 8 (by omega)]
    have hk := (d6 k (by omega)).2
    exact ⟨rfl, by omega⟩
theorem opt_b0 (h : Cpl c G) (hn : G 1 6 = (n : Int)) (hnk : (nk : Int) = G c 12) (hf : 0 ≤ f ∧ f < 26) {b : Nat} (hb : b < n) {s : mG} (hs : opX c G s) (hl4 : (lsl G f nf (opV G nk) nk b).length ≤ 4) : opR 0 c G f nf nk b (e_X8_listOptions_0 c s ((b : Nat) : Int) f nf) ∧ (∀ i, i ≠ b → (e_X8_listOptions_0 c s ((b : Nat) : Int) f nf) 30 i = s 30 i) ∧ (∀ i, (i < 5 * b ∨ 5 * b + 5 ≤ i) → (e_X8_listOptions_0 c s ((b : Nat) : Int) f nf) 31 i = s 31 i ∧ (e_X8_listOptions_0 c s ((b : Nat) : Int) f nf) 32 i = s 32 i) := by
  have h9 := h.1.1.1
  have e12 : Int.toNat (s c 12) = nk := by rw [show s c = G c from hs.2.2 0 (by omega)]; omega
  unfold e_X8_listOptions_0
  rw [if_neg (by omega), if_pos (by omega), st_nat, lost_c h hs, e12]
  by_cases hlo : f_X12_isLost G ((b : Nat) : Int) f nf = 0
  · rw [if_pos hlo]
    refine opt_one h hn hnk hf hb hs (v := 0) (ga := fun H w => f_X8_gainOf_0 c H w ((b : Nat) : Int) f) hlo hl4 (fun j st => rfl) (fun H w hw hH => ?_)
    have ow := opt_worth h hnk hs hH hw
    show f_X8_gainOf_0 c H w ((b : Nat) : Int) f = _
    rw [gain_0 ow.1 ow.2]
    unfold opG
    rw [if_neg (show ¬ ((0 : Int) = 1 ∧ f_X12_isLost G ((b : Nat) : Int) f nf = 0 ∧ ¬ w = G 22 (9 * f.toNat + b)) from fun q => absurd q.1 (by decide))]
    omega
  · rw [if_neg hlo]
    exact opt_lost h (by omega) hlo
theorem opt_b1 (h : Cpl c G) (hn : G 1 6 = (n : Int)) (hnk : (nk : Int) = G c 12) (hf : 0 ≤ f ∧ f < 26) {b : Nat} (hb : b < n) {s : mG} (hs : opX c G s) (hl4 : (lsl G f nf (opV G nk) nk b).length ≤ 4) : opR 1 c G f nf nk b (e_X8_listOptions_1 c s ((b : Nat) : Int) f nf) ∧ (∀ i, i ≠ b → (e_X8_listOptions_1 c s ((b : Nat) : Int) f nf) 30 i = s 30 i) ∧ (∀ i, (i < 5 * b ∨ 5 * b + 5 ≤ i) → (e_X8_listOptions_1 c s ((b : Nat) : Int) f nf) 31 i = s 31 i ∧ (e_X8_listOptions_1 c s ((b : Nat) : Int) f nf) 32 i = s 32 i) := by
  have h9 := h.1.1.1
  have e12 : Int.toNat (s c 12) = nk := by rw [show s c = G c from hs.2.2 0 (by omega)]; omega
  unfold e_X8_listOptions_1
  rw [if_neg (by omega), if_pos (by omega), st_nat, lost_c h hs, e12]
  by_cases hlo : f_X12_isLost G ((b : Nat) : Int) f nf = 0
  · rw [if_pos hlo]
    refine opt_one h hn hnk hf hb hs (v := 1) (ga := fun H w => f_X8_gainOf_1 c H w ((b : Nat) : Int) f) hlo hl4 (fun j st => rfl) (fun H w hw hH => ?_)
    have ow := opt_worth h hnk hs hH hw
    show f_X8_gainOf_1 c H w ((b : Nat) : Int) f = _
    rw [gain_1 (v := G 22 (9 * f.toNat + b)) ow.1 ow.2 (by rw [cl_of hf (by omega), hH 22 (by decide), hs.2.1])]
    unfold opG
    by_cases hw2 : w = G 22 (9 * f.toNat + b)
    · rw [if_neg (show ¬ ¬ w = G 22 (9 * f.toNat + b) from fun q => q hw2), if_neg (show ¬ ((1 : Int) = 1 ∧ f_X12_isLost G ((b : Nat) : Int) f nf = 0 ∧ ¬ w = G 22 (9 * f.toNat + b)) from fun q => q.2.2 hw2)]
    · rw [if_pos hw2, if_pos (show (1 : Int) = 1 ∧ f_X12_isLost G ((b : Nat) : Int) f nf = 0 ∧ ¬ w = G 22 (9 * f.toNat + b) from ⟨rfl, hlo, hw2⟩)]
  · rw [if_neg hlo]
    exact opt_lost h (by omega) hlo
/-- at most four wants suit a board -/
theorem opt_four (h : Cpl c G) (hnk : (nk : Int) = G c 12) (hful : f_X1_inForceIn c G f ≤ 4) {b : Nat} : (lsl G f nf (opV G nk) nk b).length ≤ 4 := by
  have hc := Cpl_c h
  obtain ⟨d1, d2, d3, d4, d5, d6, d7, d8, d9⟩ := h.2.2.1
  obtain ⟨nc, hnc⟩ : ∃ nc : Nat, G c 11 = (nc : Int) := ⟨(G c 11).toNat, by omega⟩
  have hfc : f_X1_inForceIn c G f = cn (fun x => decide (¬ f_X1_isInForce c G (x : Int) f = 0)) nc := by
    unfold f_X1_inForceIn
    rw [hnc, st_nat]
    refine fd_cn (by omega) (fun j s hj => ?_)
    unfold g_X1_inForceIn_4
    by_cases q : f_X1_isInForce c G (j : Int) f = 0
    · rw [if_pos q, decide_eq_false (fun z => z q)]; rfl
    · rw [if_neg q, decide_eq_true q]; rfl
  unfold lsl
  split
  · have e1 : ((lsO G f (opV G nk b) b nk).length : Int) = cn (lsC G f (opV G nk b) b) nk := cn_len _ _
    have spl : ∀ j, j < nk → lsC G f (opV G nk b) b j = true → G (c + 4) j = 18 ∧ ¬ f_X1_isInForce c G (G (c + 5) j) f = 0 ∧ G (c + 7) j = G 94 b ∧ (0 ≤ G (c + 5) j ∧ G (c + 5) j < G c 11) := by
      intro j hj ht
      unfold lsC at ht
      rw [Bool.and_eq_true, Bool.and_eq_true, Bool.and_eq_true] at ht
      have a1 := of_decide_eq_true ht.1
      have a2 := of_decide_eq_true ht.2.1
      have a3 := of_decide_eq_true ht.2.2.1
      have hk := d6 j (by omega)
      have e78 : G 78 (rfL G + j) = G (c + 5) j := hk.1.1
      rw [e78] at a2
      have hk2 := hk.2
      unfold rfL at a1 a3
      refine ⟨by omega, by rw [op_force h hk.1.2]; exact a2, by omega, hk.1.2⟩
    have e2 := cn_own (p := lsC G f (opV G nk b) b) (own := fun j => G (c + 5) j) (inf := fun x => decide (¬ f_X1_isInForce c G (x : Int) f = 0)) (nk := nk) (fun j hj ht => (spl j hj ht).2.2.2.1) (fun j hj ht => by
      have q := spl j hj ht
      refine decide_eq_true ?_
      rw [show (((G (c + 5) j).toNat : Nat) : Int) = G (c + 5) j by omega]
      exact q.2.1) (fun i j hi hj h1 h2 he => by
      have q1 := spl i hi h1
      have q2 := spl j hj h2
      exact d7 i j (by omega) (by omega) q1.1 q2.1 he (by rw [q1.2.2.1, q2.2.2.1])) nc
    have e3 := cn_all (p := lsC G f (opV G nk b) b) (own := fun j => G (c + 5) j) (nk := nk) (m := nc) (fun j hj ht => by have := (spl j hj ht).2.2.2.2; show G (c + 5) j < _; omega)
    omega
  · exact Nat.zero_le _
end OPL
