/-! ===== ground and refund ===== -/
theorem days_to {G H : mG} {b f n y : Int} (h0 : H 100 = G 100) (h1 : H 101 = G 101) (h2 : H 102 = G 102) (h3 : H 103 = G 103) : f_X12_days H b f n y = f_X12_days G b f n y := by
  have e : ∀ d, f_X12_shownOn H b f d n = f_X12_shownOn G b f d n := by
    intro d
    have e1 : g_X12_shownOn_9 H b f d n = g_X12_shownOn_9 G b f d n := by unfold g_X12_shownOn_9; rw [h0, h1, h2, h3]
    unfold f_X12_shownOn
    rw [e1, h0]
  unfold f_X12_days
  refine fd_congr (fun j s _ => ?_)
  unfold g_X12_days_6
  rw [e]
theorem rf_eq (G : mG) (b f nf : Int) : (e_X12_rf G b f nf) 106 0 = G 94 b.toNat ∧ (e_X12_rf G b f nf) 106 1 = G 95 b.toNat ∧ (e_X12_rf G b f nf) 106 2 = G 96 b.toNat ∧ (e_X12_rf G b f nf) 106 3 = f_X12_days G b f nf 1 ∧ (e_X12_rf G b f nf) 106 4 = f_X12_days G b f nf 2 ∧ ∃ H2 : mG, (∀ k, k ≠ 106 → H2 k = G k) ∧ (e_X12_rf G b f nf) 106 5 = f_X12_late H2 b f nf := by
  obtain ⟨a1, a2, a3, a4, a5, a6, a7⟩ := asks_eq G b
  unfold e_X12_rf
  refine ⟨?_, ?_, ?_, ?_, ?_, _, ?_, gs_at _ _ _ _⟩
  · rw [gs_at_ne (by decide), gs_at_ne (by decide), gs_at_ne (by decide)]; exact a1
  · rw [gs_at_ne (by decide), gs_at_ne (by decide), gs_at_ne (by decide)]; exact a2
  · rw [gs_at_ne (by decide), gs_at_ne (by decide), gs_at_ne (by decide)]; exact a3
  · rw [gs_at_ne (by decide), gs_at_ne (by decide)]
    refine (gs_at _ _ _ _).trans ?_
    exact days_to (a7 100 (by decide)) (a7 101 (by decide)) (a7 102 (by decide)) (a7 103 (by decide))
  · rw [gs_at_ne (by decide)]
    refine (gs_at _ _ _ _).trans ?_
    exact days_to (by rw [gs_ne (by decide)]; exact a7 100 (by decide)) (by rw [gs_ne (by decide)]; exact a7 101 (by decide)) (by rw [gs_ne (by decide)]; exact a7 102 (by decide)) (by rw [gs_ne (by decide)]; exact a7 103 (by decide))
  · intro k hk
    rw [gs_ne hk, gs_ne hk]
    exact a7 k hk
/-- what the judge regards of a course -/
theorem course_eq (G : mG) (x : Int) : (e_X5_regardCourse G x) 24 5 = f_X2_daysOf G 1 ∧ (e_X5_regardCourse G x) 24 6 = f_X2_daysOf G 2 ∧ (e_X5_regardCourse G x) 24 7 = x ∧ (∀ i, i ≠ 5 → i ≠ 6 → i ≠ 7 → (e_X5_regardCourse G x) 24 i = G 24 i) ∧ ∀ k, k ≠ 24 → (e_X5_regardCourse G x) k = G k := by
  have e : ∀ H : mG, H 28 = G 28 → f_X2_daysOf H 2 = f_X2_daysOf G 2 := by
    intro H h
    unfold f_X2_daysOf
    refine fd_congr (fun j s _ => ?_)
    unfold g_X2_daysOf_4
    rw [h]
  unfold e_X5_regardCourse
  rw [e _ (gs_ne (by decide))]
  refine ⟨?_, ?_, gs_at _ _ _ _, fun i h1 h2 h3 => ?_, fun k hk => ?_⟩
  · rw [gs_at_ne (by decide), gs_at_ne (by decide), gs_at]
  · rw [gs_at_ne (by decide), gs_at]
  · rw [gs_at_ne h3, gs_at_ne h2, gs_at_ne h1]
  · rw [gs_ne hk, gs_ne hk, gs_ne hk]
section GRD
variable {c : Nat} {G : mG} {f : Int} {n nk m : Nat}
/-- a class heap in which only judge and course differ -/
def grX (G s : mG) : Prop := ∀ k, ¬ k ∈ ([24, 25, 26, 27, 28] : List Nat) → s k = G k
theorem ground_eq (h : Cpl c G) (hn : G 1 6 = (n : Int)) (hnk : (nk : Int) = G c 12) (hf : 0 ≤ f ∧ f < 26) (hm : (m : Int) ≤ G 8 4) (hg : G 23 f.toNat = 1) {b : Nat} (hb : b < n) {s : mG} (hs : grX G s) {G1 : mG} (hG1 : ∀ k, 64 ≤ k → k ≠ 106 → k ≠ 107 → G1 k = G k) :
    (G 22 (9 * f.toNat + b) = -1 → r_X11_groundOf c s (b : Int) f (m : Int) = (-1, s)) ∧ (∀ v : Nat, G 22 (9 * f.toNat + b) = (v : Int) → (r_X11_groundOf c s (b : Int) f (m : Int)).1 = fs (pR (e_X12_rf G1 (b : Int) f (m : Int)) 3 (b : Int) (G 78 (rfL G + v))) nk) ∧ grX G (r_X11_groundOf c s (b : Int) f (m : Int)).2 := by
  have hc := Cpl_c h
  obtain ⟨p1, p2, ⟨p3, p4, p5, p6, p7, p8⟩, p9, p10, p11, p12, p13, p14⟩ := id h.1.1
  obtain ⟨g1, g2, ⟨g3, g4, g5, g6⟩, g7, g8⟩ := id h.1.2.1
  obtain ⟨d1, d2, d3, d4, d5, d6, d7, d8, d9⟩ := id h.2.2.1
  have t3 := (h.2.2.2.1.2.2 f.toNat (by omega)).2.2.1 b (by omega)
  have ec : f_X4_clauseOf s (b : Int) f = G 22 (9 * f.toNat + b) := by rw [cl_of hf (by omega), hs 22 (by decide)]
  have kc : ∀ i, i < 12 → s (c + i) = G (c + i) := fun i hi => hs _ (by simp only [List.mem_cons, List.not_mem_nil, or_false]; omega)
  have fr : grX G (r_X11_groundOf c s (b : Int) f (m : Int)).2 := fun k hk => by
    rw [fr_X11_groundOf (fun a ha e => hk (by rw [e]; exact ha))]
    exact hs k hk
  refine ⟨fun hv => ?_, fun v hv => ?_, fr⟩
  · unfold r_X11_groundOf
    rw [ec, hv, fa_own_none, if_neg (fun z => z rfl)]
  · have hvk : (v : Int) < G c 12 := by rw [hv] at t3; omega
    have s12 : s c 12 ≤ 40 := by rw [show s c = G c from kc 0 (by omega)]; exact d3.2
    have svk : (v : Int) < s c 12 := by rw [show s c = G c from kc 0 (by omega)]; exact hvk
    have eo : f_X1_ownerOf c s (f_X4_clauseOf s (b : Int) f) = G (c + 5) v := by rw [ec, hv, at_owner s12 svk, kc 5 (by omega)]
    have hk := d6 v hvk
    unfold r_X11_groundOf
    rw [eo, if_pos (show ¬ G (c + 5) v = -1 by have := hk.1.2; omega)]
    show (r_X5_firstHolding c _ 23 (G (c + 5) v)).1 = _
    -- the heaps on the way
    have fF : fOK (s 9) (s 12) m := fun i _ => by rw [hs 9 (by decide), hs 12 (by decide)]; exact ⟨g7 i, g8 i⟩
    have ff := follow_eq (G := s) (b := (b : Int)) (f := f) (n := m) fF (by rw [hs 8 (by decide)]; exact hm) (by rw [hs 8 (by decide)]; omega)
    rw [hs 9 (by decide), hs 10 (by decide), hs 11 (by decide), hs 12 (by decide)] at ff
    have kF : ∀ k, ¬ k ∈ ([26, 27, 28] : List Nat) → (e_X2_follow s (b : Int) f (m : Int)) k = s k := fun k hk => fr_X2_follow (fun a ha e => hk (by rw [e]; exact ha))
    generalize e_X2_follow s (b : Int) f (m : Int) = F at ff kF
    obtain ⟨r1, r2, r3, r4, r5, r6, r7, r8⟩ := regard_eq (G := F) (b := (b : Int)) (by rw [kF 1 (by decide), hs 1 (by decide)]; omega)
    rw [st_nat, kF 2 (by decide), hs 2 (by decide)] at r1
    rw [st_nat, kF 3 (by decide), hs 3 (by decide)] at r2
    rw [st_nat, kF 4 (by decide), hs 4 (by decide)] at r3
    rw [st_nat, kF 5 (by decide), hs 5 (by decide)] at r4
    generalize e_X5_regard F (b : Int) = R at r1 r2 r3 r4 r5 r6 r7 r8
    have kR : ∀ k, ¬ k ∈ ([24, 25, 26, 27, 28] : List Nat) → R k = G k := fun k hk => by
      simp only [List.mem_cons, List.not_mem_nil, or_false] at hk
      rw [r8 k (by omega), kF k (by simp only [List.mem_cons, List.not_mem_nil, or_false]; omega)]
      exact hs k (by simp only [List.mem_cons, List.not_mem_nil, or_false]; omega)
    obtain ⟨o1, o2, o3, o4, o5⟩ := course_eq R (f_X11_lateOf R (b : Int) f)
    generalize hE : e_X5_regardCourse R (f_X11_lateOf R (b : Int) f) = E at o1 o2 o3 o4 o5
    have kE : ∀ i, i < 12 → E (c + i) = G (c + i) := fun i hi => by
      rw [o5 _ (by omega)]
      exact kR _ (by simp only [List.mem_cons, List.not_mem_nil, or_false]; omega)
    obtain ⟨e1, e2, e3, e4, e5, H2, e6, e7⟩ := rf_eq G1 (b : Int) f (m : Int)
    have G100 : G1 100 = G 9 := (hG1 100 (by decide) (by decide) (by decide)).trans g3
    have G101 : G1 101 = G 10 := (hG1 101 (by decide) (by decide) (by decide)).trans g4
    have G102 : G1 102 = G 11 := (hG1 102 (by decide) (by decide) (by decide)).trans g5
    have G103 : G1 103 = G 12 := (hG1 103 (by decide) (by decide) (by decide)).trans g6
    have ed : ∀ x, f_X2_daysOf R x = f_X12_days G1 (b : Int) f (m : Int) x := fun x => days_eq (fun i _ => by rw [G100, G103]; exact ⟨g7 i, g8 i⟩) (fun d hd => by rw [G100, G101, G102, G103, r8 28 (by decide)]; exact ff.1 d hd)
    have el : f_X11_lateOf R (b : Int) f = f_X12_late H2 (b : Int) f (m : Int) := late_eq h hn hf hb (fun k hk => kR k (by simp only [List.mem_cons, List.not_mem_nil, or_false] at hk ⊢; omega)) (by rw [r8 26 (by decide)]; exact ff.2) (fun k hk => by
      simp only [List.mem_cons, List.not_mem_nil, or_false] at hk
      rw [e6 k (by omega), hG1 k (by omega) (by omega) (by omega)])
    rw [fh_eq hc (cB_to h.2.2.2.2.1 (kE 0 (by omega)) (kE 9 (by omega)) (kE 10 (by omega)))]
    rw [← show G 78 (rfL G + v) = G (c + 5) v from hk.1.1]
    refine cp_fs h kE (fun k hk => ?_) ?_ (Or.inr ⟨rfl, rfl⟩) hnk ?_ ?_ ?_ ?_ ?_ ?_ ?_ ?_
    · simp only [List.mem_cons, List.not_mem_nil, or_false] at hk
      rw [fr_X12_rf (by omega), hG1 k (by omega) (by omega) (by omega)]
    · rw [fr_X12_rf (by decide), hG1 64 (by decide) (by decide) (by decide)]
    · rw [fr_X12_rf (by decide), hG1 97 (by decide) (by decide) (by decide), p6]; exact p11 _
    · rw [o4 1 (by decide) (by decide) (by decide), r1, e1, st_nat, hG1 94 (by decide) (by decide) (by decide), p3]
    · rw [o4 2 (by decide) (by decide) (by decide), r2, e2, st_nat, hG1 95 (by decide) (by decide) (by decide), p4]
    · rw [o4 3 (by decide) (by decide) (by decide), r3, e3, st_nat, hG1 96 (by decide) (by decide) (by decide), p5]
    · rw [o4 4 (by decide) (by decide) (by decide), r4, fr_X12_rf (by decide), st_nat, hG1 97 (by decide) (by decide) (by decide), p6]
    · rw [o1, e4, ed]
    · rw [o2, e5, ed]
    · rw [o3, e7, el]
end GRD
