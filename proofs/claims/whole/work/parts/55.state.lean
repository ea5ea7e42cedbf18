/-! ===== lacks and state ===== -/
theorem cn_tail {p : Nat → Bool} {n m : Nat} (hnm : n ≤ m) (h : ∀ j, n ≤ j → j < m → p j = false) : cn p m = cn p n := by
  obtain ⟨k, rfl⟩ : ∃ k, m = n + k := ⟨m - n, by omega⟩
  clear hnm
  induction k with
  | zero => rfl
  | succ k ih =>
    show cn p (n + k) + b01 (p (n + k)) = _
    rw [ih (fun j h1 h2 => h j h1 (by omega)), h (n + k) (by omega) (by omega)]
    show _ + 0 = _
    omega
theorem fd_dn {g : Nat → Int → Int} {p : Nat → Bool} {A : Int} {n : Nat} (hA : 0 ≤ A ∧ A ≤ 10000) (hn : n ≤ 1000) (h : ∀ j s, j < n → g j s = bif p j then w32 (s + (-1)) else s) : fd g A n = A - cn p n := by
  induction n with
  | zero => show A = A - 0; omega
  | succ n ih =>
    rw [fd_s, ih (by omega) (fun j s hj => h j s (by omega)), h n _ (by omega)]
    show _ = A - (cn p n + b01 (p n))
    have := cn_r p n
    cases p n with
    | true => show w32 (A - cn p n + (-1)) = A - (cn p n + 1); rw [w32_i (by omega) (by omega)]; omega
    | false => show A - cn p n = A - (cn p n + 0); omega
section STA
variable {c : Nat} {G : mG}
/-- the want of a campaign in a district -/
def wnP (c : Nat) (G : mG) (x y : Int) (j : Nat) : Bool := decide (G (c + 4) j = 18) && (decide (G (c + 5) j = x) && decide (G (c + 7) j = y))
theorem want_eq {nk : Nat} (hnk : (nk : Int) = G c 12) (h12 : G c 12 ≤ 40) {H : mG} (hH : ∀ i, i < 12 → H (c + i) = G (c + i)) (x y : Int) : f_X1_wantOf c H x y = fs (wnP c G x y) nk := by
  have e0 : H c = G c := hH 0 (by omega)
  have hg : ∀ j, j < nk → g_X1_wantOf_2 c H x y j () = bif wnP c G x y j then Sum.inr ((j : Nat) : Int) else Sum.inl () := by
    intro j hj
    have hjH : (j : Int) < H c 12 := by rw [e0]; omega
    have h12H : H c 12 ≤ 40 := by rw [e0]; exact h12
    unfold g_X1_wantOf_2 wnP
    rw [at_kind h12H hjH, at_owner h12H hjH, at_district h12H hjH, hH 4 (by omega), hH 5 (by omega), hH 7 (by omega)]
    by_cases q1 : G (c + 4) j = 18
    · rw [if_neg (fun z => z q1), decide_eq_true q1]
      by_cases q2 : G (c + 5) j = x
      · rw [if_neg (fun z => z q2), decide_eq_true q2]
        by_cases q3 : G (c + 7) j = y
        · rw [if_neg (fun z => z q3), decide_eq_true q3]; rfl
        · rw [if_pos q3, decide_eq_false q3]; rfl
      · rw [if_pos q2, decide_eq_false q2]; rfl
    · rw [if_pos q1, decide_eq_false q1]; rfl
  unfold f_X1_wantOf
  rw [e0, show Int.toNat (G c 12) = nk by omega]
  rcases fe_fs (r := fun j => ((j : Nat) : Int)) hg with ⟨e1, e2⟩ | ⟨j, _, _, e1, e2⟩
  · rw [e1, e2]; rfl
  · rw [e1, e2]; rfl
theorem pm_lacks (h : Cpl c G) (x f y : Int) : bth 60 M_X11_lacks M_X12_lacks [mI x, mI f, mI y] G := by
  have hc := Cpl_c h
  have hl := Cpl_l h
  obtain ⟨p1, p2, ⟨p3, p4, p5, p6, p7, p8⟩, p9, p10, p11, p12, p13, p14⟩ := h.1.1
  obtain ⟨d1, d2, d3, d4, d5, d6, d7, d8, d9⟩ := id h.2.2.1
  obtain ⟨q1, q2, q3⟩ := h.2.2.2.1
  refine bth_mk (fun _ z => sp_X11_lacks hc (Cpl_p h) d1.2 d3.2 h.2.2.2.2.1 h.1.2.1.1.2 p1.2 z) (fun _ z => sp_X12_lacks hl (by rw [p2]; exact p1) (by rw [h.1.2.1.2.1]; exact h.1.2.1.1.2) (fun i _ => by rw [p3]; exact p9 i) (fun i hi => by rw [p8]; exact (p12 i hi).1) q2 (by rw [d2]; exact d1.2) (by rw [d4]; exact d3.2) z) ?_ ⟨c, h⟩
  have f1 := fa_X1_hasCampaign c G x
  have f2 := fa_X12_isCampaign G x
  rw [d2] at f2
  have f3 := fa_X12_isFortnight G f
  have f4 := fa_X0_isDistrict G y
  have f5 := fa_X1_isInForce c G x f
  have f6 := fa_X12_isForce G x f
  unfold f_X12_lacks f_X11_lacks
  by_cases z1 : 0 ≤ x ∧ x < G c 11
  · have ef := op_force (f := f) h z1
    rw [if_neg (by omega)]
    by_cases z2 : 0 ≤ f ∧ f < 26
    · rw [if_neg (show ¬ f_X12_isFortnight G f = 0 by omega), made_f z2, q1, ef]
      by_cases z4 : 0 ≤ y ∧ y < 6
      · rw [if_neg (by omega), if_neg (by omega)]
        obtain ⟨t1, t2, t3, t4, t5⟩ := q3 f.toNat (by omega)
        by_cases z3 : G 23 f.toNat = 0
        · rw [if_pos z3, if_pos z3]
          by_cases z5 : f_X12_isForce G x f = 0
          · rw [if_pos z5]
          · rw [if_neg z5, if_pos rfl]
        · rw [if_neg z3, if_neg z3]
          by_cases z5 : f_X12_isForce G x f = 0
          · rw [if_pos z5, if_neg (show ¬ ¬ f_X12_isForce G x f = 0 from fun z => z z5)]
          · rw [if_neg z5, if_pos z5, if_neg (show ¬ (1 : Int) = 0 by decide), if_pos (show ¬ f_X0_isDistrict G y = 0 by omega)]
            have hm : G 23 f.toNat = 1 := by omega
            obtain ⟨nk, hnk⟩ : ∃ nk : Nat, (nk : Int) = G c 12 := ⟨(G c 12).toNat, by omega⟩
            obtain ⟨n, hn⟩ : ∃ n : Nat, G 1 6 = (n : Int) := ⟨(G 1 6).toNat, by omega⟩
            rw [want_eq hnk d3.2 (fun _ _ => rfl), d4, ← hnk, st_nat]
            have hg : ∀ j, j < nk → g_X12_lacks_47 G x f y j () = bif wnP c G x y j then Sum.inr (fd (g_X12_lacks_120 G x f y j ()) (G 79 (Int.toNat (w32 ((w32 (40 * (G 64 18))) + ((j : Nat) : Int))))) n) else Sum.inl () := by
              intro j hj
              have hk := d6 j (by omega)
              have hk2 := hk.2
              have ix : w32 ((w32 (40 * (G 64 18))) + ((j : Nat) : Int)) = ((40 * (G 64 18).toNat + j : Nat) : Int) := by rw [ix_k hl (by omega), st_nat]
              unfold g_X12_lacks_47 wnP
              rw [ix, st_nat, hk.1.1, p2, hn, st_nat]
              by_cases a1 : G 77 (40 * (G 64 18).toNat + j) = 0
              · have b1 : G (c + 4) j = 18 := by omega
                have b2 : G 80 (40 * (G 64 18).toNat + j) = G (c + 7) j := by omega
                rw [if_neg (fun z => z a1), decide_eq_true b1, b2]
                by_cases a2 : G (c + 5) j = x
                · rw [if_neg (fun z => z a2), decide_eq_true a2]
                  by_cases a3 : G (c + 7) j = y
                  · rw [if_pos a3, decide_eq_true a3]; rfl
                  · rw [if_neg a3, decide_eq_false a3]; rfl
                · rw [if_pos a2, decide_eq_false a2]; rfl
              · have b1 : ¬ G (c + 4) j = 18 := by omega
                rw [if_pos a1, decide_eq_false b1]; rfl
            rcases fe_fs hg with ⟨e1, e2⟩ | ⟨j, j1, j2, e1, e2⟩
            · rw [e1, e2, if_neg (show ¬ ¬ (-1 : Int) = -1 from fun z => z rfl)]; rfl
            · rw [e1, e2, if_pos (by omega)]
              show fd _ _ n = _
              have hk := d6 j (by omega)
              have hk2 := hk.2
              have ix : w32 ((w32 (40 * (G 64 18))) + ((j : Nat) : Int)) = ((40 * (G 64 18).toNat + j : Nat) : Int) := by rw [ix_k hl (by omega), st_nat]
              have b1 : G (c + 4) j = 18 := by
                unfold wnP at j2
                rw [Bool.and_eq_true] at j2
                exact of_decide_eq_true j2.1
              have b2 : G 79 (40 * (G 64 18).toNat + j) = G (c + 6) j ∧ 1 ≤ G (c + 6) j ∧ G (c + 6) j ≤ 9 := by omega
              rw [ix, st_nat, b2.1, at_amount d3.2 (by omega)]
              have c1 : fd (g_X12_lacks_120 G x f y j ()) (G (c + 6) j) n = G (c + 6) j - cn (fun b => decide (G 22 (9 * f.toNat + b) = (j : Int))) n := by
                refine fd_dn (by omega) (by omega) (fun b s hb => ?_)
                unfold g_X12_lacks_120
                rw [(ix_g z2 (show b < 9 by omega)).1, st_nat, t5 hm b (by omega)]
                by_cases a : G 22 (9 * f.toNat + b) = (j : Int)
                · rw [if_neg (fun z => z a), decide_eq_true a]; rfl
                · rw [if_pos a, decide_eq_false a]; rfl
              have c2 : f_X4_boardsOf G (j : Int) f = cn (fun b => decide (G 22 (9 * f.toNat + b) = (j : Int))) 9 := by
                unfold f_X4_boardsOf
                refine fd_cn (by omega) (fun b s hb => ?_)
                unfold g_X4_boardsOf_5
                rw [cl_of z2 hb]
                by_cases a : G 22 (9 * f.toNat + b) = (j : Int)
                · rw [if_neg (fun z => z a), decide_eq_true a]; rfl
                · rw [if_pos a, decide_eq_false a]; rfl
              have c3 : cn (fun b => decide (G 22 (9 * f.toNat + b) = (j : Int))) 9 = cn (fun b => decide (G 22 (9 * f.toNat + b) = (j : Int))) n := cn_tail (by omega) (fun b hb1 hb2 => by rw [t4 b hb2 (by omega)]; exact decide_eq_false (by omega))
              have c4 := cn_r (fun b => decide (G 22 (9 * f.toNat + b) = (j : Int))) n
              rw [c1, c2, c3, w32_i (by omega) (by omega)]
      · skip
        by_cases y1 : y < 0
        · rw [if_pos y1]
          repeat' split
          all_goals first | rfl | omega
        · rw [if_neg y1, if_pos (by omega)]
          repeat' split
          all_goals first | rfl | omega
    · rw [if_pos (show f_X12_isFortnight G f = 0 by omega), made_no z2]
      by_cases z5 : f_X1_isInForce c G x f = 0
      · rw [if_pos z5]
      · rw [if_neg z5, if_pos rfl]
  · rw [if_pos (show f_X12_isCampaign G x = 0 by omega)]
    have : f_X1_isInForce c G x f = 0 := by unfold f_X1_isInForce; rw [if_pos (by omega)]
    rw [if_pos this]
/-- late, on both sides; the course was followed into H -/
theorem late_eq (h : Cpl c G) {n m : Nat} (hn : G 1 6 = (n : Int)) {f : Int} (hf : 0 ≤ f ∧ f < 26) {b : Nat} (hb : b < n) {H H2 : mG} (hH : ∀ k, k ∈ ([1, 2, 7, 22] : List Nat) → H k = G k) (hfh : H 26 2 = (cpf (G 9) (G 10) (G 11) (G 12) (b : Int) f m).2) (hH2 : ∀ k, k ∈ ([94, 99, 100, 101, 102, 103, 104, 105] : List Nat) → H2 k = G k) : f_X11_lateOf H (b : Int) f = f_X12_late H2 (b : Int) f (m : Int) := by
  obtain ⟨q1, q2, q3⟩ := h.2.2.2.1
  obtain ⟨t1, t2, t3, t4, t5⟩ := q3 f.toNat (by omega)
  obtain ⟨p1, p2, p3, p9, p10, p11, p12, p13, p14⟩ := h.1.1
  have hF := h.1.2.1
  unfold f_X11_lateOf f_X12_late
  rw [due_eq h hn hf hb hH, hH2 104 (by decide), q1]
  by_cases z : G 23 f.toNat = 0
  · rw [if_pos z, t2 z b (by omega), if_pos (show (-1 : Int) = -1 from rfl), if_neg (show ¬ ¬ (-1 : Int) = -1 from fun y => y rfl)]
  · have hm : G 23 f.toNat = 1 := by omega
    rw [if_neg z, (ix_g hf (show b < 9 by omega)).1, st_nat, hH2 105 (by decide), t5 hm b (by omega)]
    by_cases hv : G 22 (9 * f.toNat + b) = -1
    · rw [if_pos hv, if_neg (show ¬ ¬ (-1 : Int) = -1 from fun y => y rfl), if_neg (show ¬ ¬ G 22 (9 * f.toNat + b) = -1 from fun y => y hv)]
    · have h2b := p9 b
      have h7 := p12 (G 2 b).toNat (by omega)
      have hc := cnt_r (p := fun j => G 2 j = G 2 b) (q := fun j => G 22 (9 * f.toNat + j) = -1) b (by omega)
      have hd := mDiv_nn hc.1 (by omega) h7.1
      rw [if_neg hv, if_pos hv, due_r h hn hf hm hb (fun k hk => hH2 k (by simp only [List.mem_cons, List.not_mem_nil, or_false] at hk ⊢; omega)), if_pos (by omega), st_nat, late_fh, hH2 100 (by decide), hH2 101 (by decide), hH2 102 (by decide), hH2 103 (by decide), hF.2.2.1.1, hF.2.2.1.2.1, hF.2.2.1.2.2.1, hF.2.2.1.2.2.2]
      unfold f_X2_firstHung
      rw [hfh]
      unfold mMax
      split <;> split <;> omega
theorem pm_state (h : Cpl c G) (b f nf w : Int) (hw32 : w < 2147483648) : bth 60 M_X11_state M_X12_state [mI b, mI f, mI nf, mI w] G := by
  have hc := Cpl_c h
  have hl := Cpl_l h
  obtain ⟨p1, p2, ⟨p3, p4, p5, p6, p7, p8⟩, p9, p10, p11, p12, p13, p14⟩ := id h.1.1
  obtain ⟨g1, g2, ⟨g3, g4, g5, g6⟩, g7, g8⟩ := id h.1.2.1
  obtain ⟨d1, d2, d3, d4, d5, d6, d7, d8, d9⟩ := id h.2.2.1
  obtain ⟨q1, q2, q3⟩ := id h.2.2.2.1
  have k28 : ∀ k, ¬ k ∈ ([26, 27, 28] : List Nat) → (e_X2_follow G b f nf) k = G k := fun k hk => fr_X2_follow (fun a ha e => hk (by rw [e]; exact ha))
  have kR : ∀ k, ¬ k ∈ ([26, 27, 28] : List Nat) → (r_X11_state c G b f nf w).2 k = G k := fun k hk => fr_X11_state (fun a ha e => hk (by rw [e]; exact ha))
  have hC2 : Cpl c (r_X11_state c G b f nf w).2 := Cpl_to h kR (by decide) (fun j _ => by rw [kR 64 (by decide)])
  generalize hG2 : (r_X11_state c G b f nf w).2 = G2 at kR hC2
  have l1 : ∀ k, ¬ k ∈ ([26, 27, 28] : List Nat) → G2 k = G k := kR
  refine bth_mk (G1 := G2) (G2 := G2) (x := (r_X11_state c G b f nf w).1) (y := f_X12_state G2 b f nf w) (fun _ z => sp_X11_state hc (Cpl_p h) d1.2 d3.2 h.2.2.2.2.1 g1.2 p1.2 (allD (by decide)) (by rw [hG2]; exact z)) (fun _ z => sp_X12_state (by rw [l1 64 (by decide)]; exact hl) (by rw [l1 64 (by decide), p2]; exact p1) (by rw [l1 64 (by decide), g2]; exact g1.2) (fun i _ => by rw [l1 94 (by decide), p3]; exact p9 i) (fun i hi => by rw [l1 99 (by decide), p8]; exact (p12 i hi).1) (by rw [l1 105 (by decide)]; exact q2) (by rw [l1 64 (by decide), l1 72 (by decide), d2]; exact d1.2) (by rw [l1 64 (by decide), l1 76 (by decide), d4]; exact d3.2) z) ?_ ⟨c, hC2⟩
  have f1 := fa_X0_has G b
  have f2 := fa_X12_isBoard G2 b
  rw [l1 64 (by decide), p2] at f2
  have f3 := fa_X12_isFortnight G2 f
  have f3c := fa_X11_isFortnight G f
  have f4 := fa_X3_areKnown G nf
  have f5 := fa_X12_isKnown G2 nf
  rw [l1 64 (by decide), g2] at f5
  unfold f_X12_state r_X11_state
  by_cases z1 : (0 ≤ b ∧ b < G 1 6) ∧ (0 ≤ f ∧ f < 26) ∧ (0 ≤ nf ∧ nf ≤ G 8 4)
  · rw [if_neg (show ¬ f_X12_isBoard G2 b = 0 by omega), if_neg (show ¬ f_X12_isFortnight G2 f = 0 by omega), if_pos (show ¬ f_X12_isKnown G2 nf = 0 by omega), if_neg (show ¬ f_X0_has G b = 0 by omega), if_neg (show ¬ f_X11_isFortnight G f = 0 by omega), if_pos (show ¬ f_X3_areKnown G nf = 0 by omega)]
    obtain ⟨bn, hbn⟩ : ∃ bn : Nat, b = (bn : Int) := ⟨b.toNat, by omega⟩
    obtain ⟨n, hn⟩ : ∃ n : Nat, G 1 6 = (n : Int) := ⟨(G 1 6).toNat, by omega⟩
    obtain ⟨m, hm⟩ : ∃ m : Nat, nf = (m : Int) := ⟨nf.toNat, by omega⟩
    subst hbn hm
    have ff := follow_eq (G := G) (b := (bn : Int)) (f := f) (n := m) (fun i _ => ⟨g7 i, g8 i⟩) (by omega) (by omega)
    have fR : fOK (G2 100) (G2 103) m := fun i _ => by rw [l1 100 (by decide), l1 103 (by decide), g3, g6]; exact ⟨g7 i, g8 i⟩
    have ffR : ∀ d, d < 14 → (e_X2_follow G (bn : Int) f (m : Int)) 28 d = lk (cpf (G2 100) (G2 101) (G2 102) (G2 103) (bn : Int) f m).1 (cpf (G2 100) (G2 101) (G2 102) (G2 103) (bn : Int) f m).2 d := by
      rw [l1 100 (by decide), l1 101 (by decide), l1 102 (by decide), l1 103 (by decide), g3, g4, g5, g6]
      exact ff.1
    have ed : ∀ x, f_X2_daysOf (e_X2_follow G (bn : Int) f (m : Int)) x = f_X12_days G2 (bn : Int) f (m : Int) x := fun x => days_eq fR ffR
    have el : f_X11_lateOf (e_X2_follow G (bn : Int) f (m : Int)) (bn : Int) f = f_X12_late G2 (bn : Int) f (m : Int) := late_eq h hn z1.2.1 (by omega) (fun k hk => k28 k (by simp only [List.mem_cons, List.not_mem_nil, or_false] at hk ⊢; omega)) ff.2 (fun k hk => l1 k (by simp only [List.mem_cons, List.not_mem_nil, or_false] at hk ⊢; omega))
    have eo : f_X3_isLost (e_X2_follow G (bn : Int) f (m : Int)) (bn : Int) f (m : Int) = f_X12_isLost G2 (bn : Int) f (m : Int) := by
      rw [lost_eq, l1 100 (by decide), l1 101 (by decide), l1 102 (by decide), g3, g4, g5]
      unfold f_X3_isLost
      rw [k28 9 (by decide), k28 10 (by decide), k28 11 (by decide)]
    rw [← ed 1, ← ed 2, ← el, ← eo]
    by_cases w0 : w = 0
    · rw [if_pos (by omega), if_pos w0, if_pos w0]
    · by_cases w1 : w = 1
      · rw [if_pos (by omega), if_neg w0, if_pos w1, if_neg w0, if_pos w1]
      · by_cases w2 : w = 2
        · rw [if_pos (by omega), if_neg w0, if_neg w1, if_pos w2, if_neg w0, if_neg w1, if_pos w2]
        · by_cases w3 : w = 3
          · rw [if_pos (by omega), if_neg w0, if_neg w1, if_neg w2, if_pos w3, if_neg w0, if_neg w1, if_neg w2, if_pos w3]
            by_cases y : f_X3_isLost (e_X2_follow G (bn : Int) f (m : Int)) (bn : Int) f (m : Int) = 0
            · rw [if_pos y, if_pos y]
            · rw [if_neg y, if_neg y]
          · rw [if_neg w0, if_neg w1, if_neg w2, if_neg w3, if_neg w0, if_neg w1, if_neg w2, if_neg w3]
            by_cases w20 : 20 ≤ w
            · rw [if_neg (by omega), if_pos w20]
              show _ = f_X2_lookOn (e_X2_follow G (bn : Int) f (m : Int)) (w32 (w - 20))
              unfold f_X2_lookOn
              by_cases w34 : 34 ≤ w
              · rw [if_pos w34]
                rw [w32_i (by omega) (by omega), if_neg (by omega), if_pos (by omega)]
              · obtain ⟨d, hd⟩ : ∃ d : Nat, w - 20 = (d : Int) := ⟨(w - 20).toNat, by omega⟩
                rw [if_neg w34, w32_i (by omega) (by omega), hd, if_neg (by omega), if_neg (by omega), st_nat, shownOn_eq fR (by omega)]
                exact (ffR d (by omega)).symm
            · rw [if_pos (by omega), if_neg w20]
  · by_cases y1 : 0 ≤ b ∧ b < G 1 6
    · by_cases y2 : 0 ≤ f ∧ f < 26
      · rw [if_neg (show ¬ f_X12_isBoard G2 b = 0 by omega), if_neg (show ¬ f_X12_isFortnight G2 f = 0 by omega), if_neg (show ¬ ¬ f_X12_isKnown G2 nf = 0 by omega), if_neg (show ¬ f_X0_has G b = 0 by omega), if_neg (show ¬ f_X11_isFortnight G f = 0 by omega), if_neg (show ¬ ¬ f_X3_areKnown G nf = 0 by omega)]
      · rw [if_neg (show ¬ f_X12_isBoard G2 b = 0 by omega), if_pos (show f_X12_isFortnight G2 f = 0 by omega), if_neg (show ¬ f_X0_has G b = 0 by omega), if_pos (show f_X11_isFortnight G f = 0 by omega)]
    · rw [if_pos (show f_X12_isBoard G2 b = 0 by omega), if_pos (show f_X0_has G b = 0 by omega)]
end STA
