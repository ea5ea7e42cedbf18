/-! ===== give and mend: one answer ===== -/
section GM2
variable {c : Nat} {G : mG} {f nf : Int} {n nk : Nat}
theorem full_eq (h : Cpl c G) : (f_X12_isFull G f = 0 ↔ f_X1_inForceIn c G f ≤ 4) := by
  obtain ⟨d1, d2, d3, d4, d5, d6, d7, d8, d9⟩ := id h.2.2.1
  have e : fd (g_X12_isFull_4 G f) 0 (Int.toNat (G 72 (Int.toNat (G 64 18)))) = f_X1_inForceIn c G f := by
    unfold f_X1_inForceIn
    rw [show Int.toNat (G 72 (Int.toNat (G 64 18))) = Int.toNat (G c 11) from by rw [d2]]
    refine fd_congr (fun j s hj => ?_)
    unfold g_X12_isFull_4 g_X1_inForceIn_4
    rw [op_force h (by omega)]
  unfold f_X12_isFull
  rw [e]
  by_cases z : f_X1_inForceIn c G f ≤ 4
  · rw [if_pos z]; exact ⟨fun _ => z, fun _ => rfl⟩
  · rw [if_neg z]; exact ⟨fun y => absurd y (by decide), fun y => absurd y z⟩
def gvW (c : Nat) (G : mG) (_ : Nat) (w : Int) : Int := if w = -1 then 0 else G (c + 8) w.toNat
def gvO (v : Int) (G : mG) (f nf : Int) (b : Nat) (w : Int) : Int := if v = 1 ∧ f_X12_isLost G ((b : Nat) : Int) f nf = 0 ∧ ¬ w = G 22 (9 * f.toNat + b) then 1 else 0
theorem gv_split {v : Int} {bst : Nat → Int} : gsum (opG v c G f nf) bst n = 16 * gsum (gvW c G) bst n - gsum (gvO v G f nf) bst n := gsum_lin (fun b _ => rfl)
theorem gv_W (h : Cpl c G) (hnk : (nk : Int) = G c 12) {bst : Nat → Int} {m : Nat} (hb : ∀ i, i < m → bst i = -1 ∨ ∃ k : Nat, bst i = (k : Int) ∧ k < nk ∧ G (c + 4) k = 18 ∧ G (c + 7) k = G 2 i) : ∀ b, b < m → 0 ≤ gvW c G b (bst b) ∧ gvW c G b (bst b) ≤ 9999 := by
  intro b hbm
  have ow := (opt_worth (nk := nk) (s := G) (H := G) (w := bst b) h hnk ⟨fun _ _ _ => rfl, rfl, fun _ _ => rfl⟩ (fun _ _ => rfl) (by
    rcases hb b hbm with e | ⟨k, e, e2, e3, _⟩
    · exact Or.inl e
    · exact Or.inr ⟨k, e, e2, e3⟩)).2
  exact ow
theorem gv_O {v : Int} {bst : Nat → Int} {m : Nat} : ∀ b, b < m → 0 ≤ gvO v G f nf b (bst b) ∧ gvO v G f nf b (bst b) ≤ 1 := by
  intro b _
  unfold gvO
  split <;> omega
theorem gv_O0 {bst : Nat → Int} {m : Nat} : gsum (gvO 0 G f nf) bst m = 0 := by
  have := gsum_r (a := gvO 0 G f nf) (bst := bst) (m := m) (u := 0) (fun b _ => by
    unfold gvO
    rw [if_neg (fun y => absurd y.1 (by decide))]
    omega)
  omega
/-- the coupling behind a giving or a mending -/
theorem cpl_given (h : Cpl c G) (hn : G 1 6 = (n : Int)) (hnk : (nk : Int) = G c 12) (hf : 0 ≤ f ∧ f < 26) {v : Int} {G' T B H1 H2 : mG} {lf : Nat → Int} (hG : ∀ k, (∀ a ∈ ([24, 25, 29, 30, 31, 32, 33, 34, 35, 36, 37, 38, 39] : List Nat), k ≠ a) → G' k = G k) (t1 : ∀ b, b < 9 → T 22 (9 * f.toNat + b) = if b < n then G' 36 b else -1) (t2 : ∀ i, (i < 9 * f.toNat ∨ 9 * f.toNat + 9 ≤ i) → T 22 i = G' 22 i) (t3 : T 23 = (fun i => if i = f.toNat then 1 else G' 23 i)) (t4 : ∀ k, k ≠ 22 → k ≠ 23 → T k = G' k) (hB : ∀ k, k ≠ 118 → B k = T k) (hD : fdP B f v n H1 lf H2)
    (b1 : ∀ i, i < n → H2 105 (9 * f.toNat + i) = G' 36 i) (b2 : ∀ i, i < n → G' 36 i = -1 ∨ ∃ k : Nat, G' 36 i = (k : Int) ∧ k < nk ∧ G (c + 4) k = 18 ∧ G (c + 7) k = G 2 i) : Cpl c H2 := by
  have hc := Cpl_c h
  obtain ⟨pk2, bst2, x1, x2, x3, x4, x5, x6, x7, x8⟩ := hD
  obtain ⟨p1, p2, p3, p9, p10, p11, p12, p13, p14⟩ := id h.1.1
  obtain ⟨d1, d2, d3, d4, d5, d6, d7, d8, d9⟩ := id h.2.2.1
  obtain ⟨q1, q2, q3⟩ := id h.2.2.2.1
  have hW : ∀ k, ¬ k ∈ ([22, 23, 24, 25, 29, 30, 31, 32, 33, 34, 35, 36, 37, 38, 39, 64, 104, 105, 106, 107, 108, 109, 110, 111, 112, 113, 114, 115, 116, 117, 118] : List Nat) → H2 k = G k := by
    intro k hk
    simp only [List.mem_cons, List.not_mem_nil, or_false] at hk
    rw [x1 k (fun a ha => by simp only [List.mem_cons, List.not_mem_nil, or_false] at ha; omega), hB k (by omega), t4 k (by omega) (by omega)]
    exact hG k (fun a ha => by simp only [List.mem_cons, List.not_mem_nil, or_false] at ha; omega)
  have w64 : ∀ j, j ≠ 70 → j ≠ 71 → H2 64 j = G 64 j := fun j h1 h2 => by rw [x2 j h1 h2, hB 64 (by decide), t4 64 (by decide) (by decide), hG 64 (by decide)]
  obtain ⟨r1, r2, r3, r4⟩ := cpR_to h hW (by decide) (by decide) (by decide) (w64 18 (by decide) (by decide))
  have b105 : B 105 = G 105 := by rw [hB 105 (by decide), t4 105 (by decide) (by decide), hG 105 (by decide)]
  have b104 : B 104 = G 104 := by rw [hB 104 (by decide), t4 104 (by decide) (by decide), hG 104 (by decide)]
  have h22 : H2 22 = T 22 := by rw [x1 22 (by decide), hB 22 (by decide)]
  have h23 : H2 23 = (fun i => if i = f.toNat then 1 else G 23 i) := by rw [x1 23 (by decide), hB 23 (by decide), t3, hG 23 (by decide)]
  have e0 : H2 c = G c := dj_k (U := cpUC) (by decide) hW (cpUC_c (i := 0) hc (by omega))
  have e4 : H2 (c + 4) = G (c + 4) := dj_k (U := cpUC) (by decide) hW (cpUC_c hc (by omega))
  have e7 : H2 (c + 7) = G (c + 7) := dj_k (U := cpUC) (by decide) hW (cpUC_c hc (by omega))
  refine ⟨⟨cpB_to h.1.1 hW (by decide) (w64 44 (by decide) (by decide)), cpF_to h.1.2.1 hW (by decide) (w64 51 (by decide) (by decide)), cpT_to h.1.2.2 hW (by decide) (w64 2 (by decide) (by decide)) (w64 17 (by decide) (by decide))⟩, r1, r2, ?_, r3, r4⟩
  unfold cpG
  rw [e0, e4, e7, hW 1 (by decide), hW 2 (by decide), x3, h23, b104, q1]
  refine ⟨rfl, fun i hi => ?_, fun f' hf' => ?_⟩
  · by_cases z : 9 * f.toNat ≤ i ∧ i < 9 * f.toNat + n
    · obtain ⟨b, hb⟩ : ∃ b, i = 9 * f.toNat + b := ⟨i - 9 * f.toNat, by omega⟩
      have hbn : b < n := by omega
      rw [hb, b1 b hbn]
      rcases b2 b hbn with e | ⟨k, e, ek, _⟩
      · omega
      · omega
    · rw [x5 i (by omega), b105]; exact q2 i hi
  · rw [h22]
    by_cases z : f' = f.toNat
    · subst z
      show ((if f.toNat = f.toNat then (1 : Int) else G 23 f.toNat) = 0 ∨ (if f.toNat = f.toNat then (1 : Int) else G 23 f.toNat) = 1) ∧ ((if f.toNat = f.toNat then (1 : Int) else G 23 f.toNat) = 0 → _) ∧ _ ∧ _ ∧ _
      rw [if_pos rfl]
      refine ⟨Or.inr rfl, fun y => absurd y (by decide), fun b hb => ?_, fun b hb hge => ?_, fun _ b hb => ?_⟩
      · rw [t1 b hb]
        by_cases hbn : b < n
        · rw [if_pos hbn]
          rcases b2 b hbn with e | ⟨k, e, ek, ek2, ek3⟩
          · exact Or.inl e
          · refine Or.inr ⟨by omega, by omega, ?_, ?_⟩
            · rw [e, st_nat]; exact ek2
            · rw [e, st_nat]; exact ek3
        · rw [if_neg hbn]; exact Or.inl rfl
      · rw [t1 b hb, if_neg (by omega)]
      · rw [b1 b (by omega), t1 b (by omega), if_pos (by omega)]
    · have o := q3 f' hf'
      have g22 : ∀ b, b < 9 → T 22 (9 * f' + b) = G 22 (9 * f' + b) := fun b hb => by rw [t2 _ (by omega), hG 22 (by decide)]
      show ((if f' = f.toNat then (1 : Int) else G 23 f') = 0 ∨ (if f' = f.toNat then (1 : Int) else G 23 f') = 1) ∧ ((if f' = f.toNat then (1 : Int) else G 23 f') = 0 → _) ∧ _ ∧ _ ∧ ((if f' = f.toNat then (1 : Int) else G 23 f') = 1 → _)
      rw [if_neg z]
      refine ⟨o.1, fun y b hb => by rw [g22 b hb]; exact o.2.1 y b hb, fun b hb => by rw [g22 b hb]; exact o.2.2.1 b hb, fun b hb hge => by rw [g22 b hb]; exact o.2.2.2.1 b hb hge, fun y b hb => ?_⟩
      rw [x5 _ (by omega), b105, g22 b (by omega)]
      exact o.2.2.2.2 y b hb
theorem pm_give (h : Cpl c G) (f nf : Int) : bth 60 M_X11_give M_X12_give [mI f, mI nf] G := by
  have hc := Cpl_c h
  have hl := Cpl_l h
  obtain ⟨p1, p2, p3, p9, p10, p11, p12, p13, p14⟩ := id h.1.1
  obtain ⟨g1, g2, g3, g7, g8⟩ := id h.1.2.1
  obtain ⟨d1, d2, d3, d4, d5, d6, d7, d8, d9⟩ := id h.2.2.1
  obtain ⟨nk, hnk⟩ : ∃ nk : Nat, (nk : Int) = G c 12 := ⟨(G c 12).toNat, by omega⟩
  obtain ⟨n, hn⟩ : ∃ n : Nat, G 1 6 = (n : Int) := ⟨(G 1 6).toNat, by omega⟩
  have dl : ∀ k : Nat, k < 40 → (fun w : Nat => f_X1_amountOf c G ((w : Nat) : Int)) k = f_X1_amountOf c G ((k : Nat) : Int) := fun _ _ => rfl
  refine sp_X11_give (n := n) hc (Cpl_p h) d1.2 (by omega) hn d3.2 h.2.2.2.2.1 g1.2 (allD (by decide)) (fun a1 a2 a3 HA hA1 hA2 => ?_) (fun a0 => ?_) (fun a1 a2 a3 => ?_) (fun a1 a2 a3 HA hA1 hA2 G' hL => ?_)
  · rw [loP0_V]
    exact (plan_sF0 h hn hnk a1 a3 (Or.inl rfl) hA1 hA2).1
  · refine ⟨-1, rfl, sp_X12_give (n := n) (nk := nk) (bv := opV G nk) (lf := fun w => f_X1_amountOf c G ((w : Nat) : Int)) hl (by rw [d2]; exact d1.2) (fun b1 b2 => fdH_of h hn hnk b1 (by rw [← g2]; exact b2) (fun _ _ _ => rfl) dl) (allD (by decide)) (fun _ => ⟨rfl, c, h⟩) (fun b1 b2 => ?_) (fun b1 b2 => ?_)⟩
    · rw [g2] at b2; exact absurd ⟨b1, b2⟩ a0
    · rw [g2] at b2; exact absurd ⟨b1, b2⟩ a0
  · refine ⟨-2, rfl, sp_X12_give (n := n) (nk := nk) (bv := opV G nk) (lf := fun w => f_X1_amountOf c G ((w : Nat) : Int)) hl (by rw [d2]; exact d1.2) (fun b1 b2 => fdH_of h hn hnk b1 (by rw [← g2]; exact b2) (fun _ _ _ => rfl) dl) (allD (by decide)) (fun b => absurd ⟨a1, by rw [g2]; exact a2⟩ b) (fun _ _ _ => ⟨rfl, c, h⟩) (fun _ _ b3 => ?_)⟩
    have := (full_eq (f := f) h).mp b3
    omega
  · obtain ⟨s1, s2, s3, s4, s5⟩ := plan_sF0 (nf := nf) h hn hnk a1 a3 (Or.inl rfl) hA1 hA2
    have hk0 : ∀ k, (∀ a ∈ ([24, 25, 29, 30, 31, 32, 33, 34, 35, 36, 37, 38, 39] : List Nat), k ≠ a) → G' k = G k := fun k hk => plan_k0 hA1 hL hk
    rw [loP0_V] at hL
    generalize e_X8_countTakers (fd (loV 0 c f nf) HA n) = HT at *
    have g16 : G' 1 6 = (n : Int) := by rw [hk0 1 (by decide)]; exact hn
    have g29 : G' 29 4 = (n : Int) := by rw [hL.1.2 4 (by decide)]; exact s5
    obtain ⟨t1, t2, t3, t4⟩ := tako_eq g16 (by omega) g29 a1
    generalize e_X11_takeOver G' f = T at *
    have hTB : rbX G T := fun k h1 _ => by rw [t4 k (by omega) (by omega), hk0 k (fun a ha => by simp only [List.mem_cons, List.not_mem_nil, or_false] at ha; omega)]
    have t64 : T 64 = G 64 := hTB 64 (by decide) (by decide)
    refine ⟨_, rfl, sp_X12_give (n := n) (nk := nk) (bv := opV G nk) (lf := HT 33) (by rw [t64]; exact hl) (by rw [t64, hTB 72 (by decide) (by decide), d2]; exact d1.2) (fun b1 b2 => fdH_of h hn hnk b1 a2 hTB s4) (allD (by decide)) (fun b => absurd ⟨a1, by rw [t64, g2]; exact a2⟩ b) (fun _ _ b3 => ?_) (fun _ _ _ H1 H2 hP hD => ?_)⟩
    · have ef : f_X12_isFull T f = f_X12_isFull G f := by
        have e1 : ∀ x, f_X12_isForce T x f = f_X12_isForce G x f := fun x => force_r (hTB 74 (by decide) (by decide)) (hTB 75 (by decide) (by decide)) (by rw [t64])
        have e2 : g_X12_isFull_4 T f = g_X12_isFull_4 G f := by funext j s; unfold g_X12_isFull_4; rw [e1]
        unfold f_X12_isFull
        rw [e2, t64, hTB 72 (by decide) (by decide)]
      rw [ef] at b3
      exact absurd ((full_eq h).mpr a3) b3
    · obtain ⟨u1, u2, u3⟩ := plan_best h hn hnk a1 (Or.inl rfl) s2 s3 s1 hL hTB (fun y => absurd y (by decide)) hP hD
      refine ⟨?_, c, cpl_given h hn hnk a1 hk0 t1 t2 t3 t4 (fun _ _ => rfl) hD u1 u2⟩
      have hw := gv_W h hnk u2
      have hws := gsum_r (u := 9999) hw
      rw [gv_split, gv_O0] at u3
      have hx8 : 0 ≤ H2 64 71 ∧ H2 64 71 ≤ 9 := by obtain ⟨_, _, _, _, _, _, _, _, _, x8⟩ := hD; exact x8
      have ew : f_X11_worthGiven c T f = gsum (gvW c G) (G' 36) n := by
        unfold f_X11_worthGiven
        rw [t4 1 (by decide) (by decide), g16, st_nat]
        have kc : ∀ i, i < 12 → T (c + i) = G (c + i) := fun i hi => by rw [t4 _ (by omega) (by omega)]; exact hk0 _ (fun a ha => by simp only [List.mem_cons, List.not_mem_nil, or_false] at ha; omega)
        have key : ∀ m, m ≤ n → fd (g_X11_worthGiven_4 c T f) 0 m = gsum (gvW c G) (G' 36) m := by
          intro m
          induction m with
          | zero => intro _; rfl
          | succ m ih =>
            intro hm
            rw [fd_s, ih (by omega)]
            unfold g_X11_worthGiven_4
            rw [cl_of a1 (by omega), t1 m (by omega), if_pos (by omega)]
            have ow : f_X1_worthOf c T (G' 36 m) = gvW c G m (G' 36 m) := by
              unfold gvW
              have e0 : T c = G c := kc 0 (by omega)
              rcases u2 m (by omega) with e | ⟨k, e, e2, e3, _⟩
              · rw [if_pos e, e, worth_none]
              · rw [if_neg (by omega), e, st_nat, at_worth (by rw [e0]; exact d3.2) (by rw [e0]; omega), kc 8 (by omega)]
            rw [ow]
            have r1 := gsum_r (a := gvW c G) (bst := G' 36) (m := m) (u := 9999) (fun b hb => hw b (by omega))
            have r2 := hw m (by omega)
            show w32 (gsum (gvW c G) (G' 36) m + gvW c G m (G' 36 m)) = gsum (gvW c G) (G' 36) m + gvW c G m (G' 36 m)
            exact w32_i (by omega) (by omega)
        exact key n (Nat.le_refl _)
      have e70 : H2 64 70 = gsum (gvW c G) (G' 36) n := by omega
      show some (mI (H2 64 70)) = some (mI (f_X11_worthGiven c T f))
      rw [ew, e70]
theorem made_r (h : Cpl c G) : f_X4_isMade G f = 1 ↔ (0 ≤ f ∧ f < 26) ∧ ¬ G 104 f.toNat = 0 := by
  have q1 := h.2.2.2.1.1
  by_cases hf : 0 ≤ f ∧ f < 26
  · rw [made_f hf, q1]
    by_cases z : G 23 f.toNat = 0
    · rw [if_pos z]
      exact ⟨fun y => absurd y (by decide), fun y => absurd z y.2⟩
    · rw [if_neg z]
      exact ⟨fun _ => ⟨hf, z⟩, fun _ => rfl⟩
  · rw [made_no hf]
    exact ⟨fun y => absurd y (by decide), fun y => absurd y.1 hf⟩
theorem full_r {T : mG} (hTB : rbX G T) : f_X12_isFull T f = f_X12_isFull G f := by
  have t64 : T 64 = G 64 := hTB 64 (by decide) (by decide)
  have e1 : ∀ x, f_X12_isForce T x f = f_X12_isForce G x f := fun x => force_r (hTB 74 (by decide) (by decide)) (hTB 75 (by decide) (by decide)) (by rw [t64])
  have e2 : g_X12_isFull_4 T f = g_X12_isFull_4 G f := by funext j s; unfold g_X12_isFull_4; rw [e1]
  unfold f_X12_isFull
  rw [e2, t64, hTB 72 (by decide) (by decide)]
theorem moved_eq (h : Cpl c G) (hf : 0 ≤ f ∧ f < 26) (hn9 : n ≤ 9) {G' : mG} (g16 : G' 1 6 = (n : Int)) (g29 : G' 29 4 = (n : Int)) (hG : ∀ k, k ∈ ([9, 10, 11, 22] : List Nat) → G' k = G k) : f_X11_movedBy G' f nf = gsum (gvO 1 G f nf) (G' 36) n := by
  obtain ⟨g1, g2, ⟨g3, g4, g5, g6⟩, g7, g8⟩ := h.1.2.1
  unfold f_X11_movedBy
  rw [g16, st_nat]
  have key : ∀ m, m ≤ n → fd (g_X11_movedBy_5 G' f nf) 0 m = gsum (gvO 1 G f nf) (G' 36) m := by
    intro m
    induction m with
    | zero => intro _; rfl
    | succ m ih =>
      intro hm
      rw [fd_s, ih (by omega)]
      have el : f_X3_isLost G' ((m : Nat) : Int) f nf = f_X12_isLost G ((m : Nat) : Int) f nf := by
        rw [lost_eq, g3, g4, g5]
        unfold f_X3_isLost
        rw [hG 9 (by decide), hG 10 (by decide), hG 11 (by decide)]
      have ec : f_X8_clauseFor G' ((m : Nat) : Int) = G' 36 m := by
        unfold f_X8_clauseFor
        rw [if_neg (by omega), if_neg (by rw [g29]; omega), if_neg (by omega), st_nat]
      unfold g_X11_movedBy_5
      rw [el, ec, cl_of hf (by omega), hG 22 (by decide)]
      have r1 := gsum_r (a := gvO 1 G f nf) (bst := G' 36) (m := m) (u := 1) (fun b hb => gv_O b hb)
      show _ = gsum (gvO 1 G f nf) (G' 36) m + gvO 1 G f nf m (G' 36 m)
      unfold gvO at r1 ⊢
      by_cases z1 : G' 36 m = G 22 (9 * f.toNat + m)
      · rw [if_pos z1, if_neg (fun y => y.2.2 z1)]; omega
      · rw [if_neg z1]
        by_cases z2 : f_X12_isLost G ((m : Nat) : Int) f nf = 0
        · rw [if_neg (show ¬ ¬ f_X12_isLost G ((m : Nat) : Int) f nf = 0 from fun q => q z2), if_pos ⟨rfl, z2, z1⟩, w32_i (by omega) (by omega)]
        · rw [if_pos z2, if_neg (fun y => z2 y.2.1)]; omega
  exact key n (Nat.le_refl _)
theorem pm_mend (h : Cpl c G) (f nf : Int) : bth 60 M_X11_mend M_X12_mend [mI f, mI nf] G := by
  have hc := Cpl_c h
  have hl := Cpl_l h
  obtain ⟨p1, p2, p3, p9, p10, p11, p12, p13, p14⟩ := id h.1.1
  obtain ⟨g1, g2, g3, g7, g8⟩ := id h.1.2.1
  obtain ⟨d1, d2, d3, d4, d5, d6, d7, d8, d9⟩ := id h.2.2.1
  obtain ⟨q1, q2, q3⟩ := id h.2.2.2.1
  obtain ⟨nk, hnk⟩ : ∃ nk : Nat, (nk : Int) = G c 12 := ⟨(G c 12).toNat, by omega⟩
  obtain ⟨n, hn⟩ : ∃ n : Nat, G 1 6 = (n : Int) := ⟨(G 1 6).toNat, by omega⟩
  have h44 : G 64 44 = (n : Int) := by rw [p2]; exact hn
  have hfa : G 64 51 ≤ 300 := by rw [g2]; exact g1.2
  have md := made_r (f := f) h
  have dl : ∀ k : Nat, k < 40 → (fun w : Nat => f_X1_amountOf c G ((w : Nat) : Int)) k = f_X1_amountOf c G ((k : Nat) : Int) := fun _ _ => rfl
  have rb : ∀ Gm : mG, (∀ k, k ≠ 118 → Gm k = G k) → rbX G Gm := fun Gm hGm k _ h2 => hGm k h2
  refine sp_X11_mend (n := n) hc (Cpl_p h) d1.2 (by omega) hn d3.2 h.2.2.2.2.1 g1.2 (allD (by decide)) (fun a1 a2 a3 HA hA1 hA2 => ?_) (fun a0 => ?_) (fun a1 a2 a3 => ?_) (fun a1 a2 a3 HA hA1 hA2 G' hL => ?_)
  · rw [loP1_V]
    exact (plan_sF0 h hn hnk (md.mp a1).1 a3 (Or.inr rfl) hA1 hA2).1
  · refine ⟨-1, rfl, sp_X12_mend (n := n) (nk := nk) (bv := opV G nk) (lf := fun w => f_X1_amountOf c G ((w : Nat) : Int)) hl (by rw [d2]; exact d1.2) (by omega) h44 hfa (fun b1 b2 Gm hGm => fdH_of h hn hnk b1 (by rw [← g2]; exact b2) (rb Gm hGm) dl) (allD (by decide)) (fun _ => ⟨rfl, c, h⟩) (fun b1 b2 b3 => ?_) (fun b1 b2 b3 => ?_)⟩
    · rw [g2] at b2; exact absurd ⟨md.mpr ⟨b1, b3⟩, b2⟩ a0
    · rw [g2] at b2; exact absurd ⟨md.mpr ⟨b1, b3⟩, b2⟩ a0
  · refine ⟨-2, rfl, sp_X12_mend (n := n) (nk := nk) (bv := opV G nk) (lf := fun w => f_X1_amountOf c G ((w : Nat) : Int)) hl (by rw [d2]; exact d1.2) (by omega) h44 hfa (fun b1 b2 Gm hGm => fdH_of h hn hnk b1 (by rw [← g2]; exact b2) (rb Gm hGm) dl) (allD (by decide)) (fun b => absurd ⟨(md.mp a1).1, by rw [g2]; exact a2, (md.mp a1).2⟩ b) (fun _ _ _ _ => ⟨rfl, c, h⟩) (fun _ _ _ b3 => ?_)⟩
    have := (full_eq (f := f) h).mp b3
    omega
  · have hf := (md.mp a1).1
    have hm1 : G 23 f.toNat = 1 := by
      have h104 := (md.mp a1).2
      rw [q1] at h104
      rcases (q3 f.toNat (by omega)).1 with e | e
      · exact absurd e h104
      · exact e
    obtain ⟨s1, s2, s3, s4, s5⟩ := plan_sF0 (nf := nf) h hn hnk hf a3 (Or.inr rfl) hA1 hA2
    have hk0 : ∀ k, (∀ a ∈ ([24, 25, 29, 30, 31, 32, 33, 34, 35, 36, 37, 38, 39] : List Nat), k ≠ a) → G' k = G k := fun k hk => plan_k1 hA1 hL hk
    rw [loP1_V] at hL
    generalize e_X8_countTakers (fd (loV 1 c f nf) HA n) = HT at *
    have g16 : G' 1 6 = (n : Int) := by rw [hk0 1 (by decide)]; exact hn
    have g29 : G' 29 4 = (n : Int) := by rw [hL.1.2 4 (by decide)]; exact s5
    have ev := moved_eq (nf := nf) h hf (by omega) g16 g29 (fun k hk => hk0 k (fun a ha => by simp only [List.mem_cons, List.not_mem_nil, or_false] at ha hk; omega))
    obtain ⟨t1, t2, t3, t4⟩ := tako_eq g16 (by omega) g29 hf
    generalize e_X11_takeOver G' f = T at *
    have hTB : rbX G T := fun k h1 _ => by rw [t4 k (by omega) (by omega), hk0 k (fun a ha => by simp only [List.mem_cons, List.not_mem_nil, or_false] at ha; omega)]
    have t64 : T 64 = G 64 := hTB 64 (by decide) (by decide)
    have t104 : T 104 = G 104 := hTB 104 (by decide) (by decide)
    have rbT : ∀ Gm : mG, (∀ k, k ≠ 118 → Gm k = T k) → rbX G Gm := fun Gm hGm k h1 h2 => by rw [hGm k h2, hTB k h1 h2]
    refine ⟨_, rfl, sp_X12_mend (n := n) (nk := nk) (bv := opV G nk) (lf := HT 33) (by rw [t64]; exact hl) (by rw [t64, hTB 72 (by decide) (by decide), d2]; exact d1.2) (by omega) (by rw [t64]; exact h44) (by rw [t64]; exact hfa) (fun b1 b2 Gm hGm => fdH_of h hn hnk b1 a2 (rbT Gm hGm) s4) (allD (by decide)) (fun b => absurd ⟨hf, by rw [t64, g2]; exact a2, by rw [t104]; exact (md.mp a1).2⟩ b) (fun _ _ _ b3 => ?_) (fun _ _ _ _ Gm hGm hG8 H1 H2 hP hD => ?_)⟩
    · rw [full_r hTB] at b3
      exact absurd ((full_eq h).mpr a3) b3
    · obtain ⟨u1, u2, u3⟩ := plan_best h hn hnk hf (Or.inr ⟨rfl, hm1⟩) s2 s3 s1 hL (rbT Gm hGm) (fun _ b hb => by rw [hG8 b hb, lost_r (hTB 100 (by decide) (by decide)) (hTB 101 (by decide) (by decide)) (hTB 102 (by decide) (by decide))]) hP hD
      refine ⟨?_, c, cpl_given h hn hnk hf hk0 t1 t2 t3 t4 hGm hD u1 u2⟩
      have hos := gsum_r (a := gvO 1 G f nf) (bst := G' 36) (m := n) (u := 1) (fun b hb => gv_O b hb)
      rw [gv_split] at u3
      have hx8 : 0 ≤ H2 64 71 ∧ H2 64 71 ≤ 9 := by obtain ⟨_, _, _, _, _, _, _, _, _, x8⟩ := hD; exact x8
      have e71 : H2 64 71 = gsum (gvO 1 G f nf) (G' 36) n := by omega
      show some (mI (H2 64 71)) = some (mI (f_X11_movedBy G' f nf))
      rw [ev, e71]
end GM2
