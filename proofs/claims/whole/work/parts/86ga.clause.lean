/-! ===== wip/whole/gen86g.py: want, walked ===== -/
section CLV2
variable {c : Nat} {L : Int} {r : Nat → Int} {F : mG} {K S : Nat} {G0 : mG} {t n m p l qq q : Nat} {s H s1 H1 : mG} {Q : Option mV → mG → Prop} {cp : Int}
set_option maxHeartbeats 8000000 in
theorem cl_want (hc : c = 40 ∨ c = 52) (hS : S ≤ 1) (hm : m < 40) (hn1 : 1 ≤ n) (hcp : cp = (n : Int) - 1) (h : J8 8 c L r F K S G0 t n m p l qq s H) (ho : OC c n m p 18 9 s s1) (hh : OH S n m l qq 0 H H1) (hs : SM c L r F K (t + 1) 9 s1 H1) (hB : ∀ H', BadF F S G0 H' → Q none H') (hQ : ∀ (t' p' l' qq' : Nat) (s' H' : mG), t < t' → J8 8 c L r F K S G0 t' n (m + 1) p' l' qq' s' H' → Q none H') : W2 o_X12 M_X12_tellClause (inN [64, 72, 73, 74, 75, 76, 77, 78, 79, 80, 81, 82, 83, 84, 85, 86, 87, 88, 89, 90, 91, 92, 93]) (q + 12) Q 204 [some (mR 69), some (mI cp), none, some (mI ((40 * S + m : Nat) : Int)), none, none, none, none] [] H1 := by
  have hT := hs.2.2.2.1
  have h11 := hT.2.1
  have h600 := hT.2.2.2.1
  have hj := h.jb
  have hr : ∀ {k' : Int} {X : Int}, ¬ X = 1 → ¬ X = 8 → ¬ km k' = 5 → ∀ A : mG, A 15 8 = X → f_X7_lacksRoomFor c A (km k') = 0 := fun h1 h2 h3 A hA => by rw [rom_c (by rw [hA]; exact h1) (by rw [hA]; exact h2), if_neg (fun q => h3 q.1)]
  refine tl_204 (by omega) ?_
  rcases turn_must (k := 2) (X' := 10) hc hs (Fr_q hm h.fr hh.fh) (by decide) (by decide) (fun A kd hA => by rw [fol_9 hA, show km 2 = 3 from by decide]) (hr (by decide) (by decide) (by decide)) (by decide) with hb | ⟨e0, e1, e2, e3, e4, A1, a1, a2, a3, a4, a5⟩
  · simp only [must_bad hb.1]
    exact tl_249b hb.1.1 (hB _ hb)
  rw [e1]
  rcases turn_must (k := 25) (X' := 11) hc a5 e3 (by decide) (by decide) (fun A kd hA => by rw [fol_10 hA, show km 25 = 19 from by decide]) (hr (by decide) (by decide) (by decide)) (by decide) with hb | ⟨f0, f1, f2, f3, f4, A2, b1, b2, b3, b4, b5⟩
  · simp only [must_bad hb.1]
    exact tl_249b hb.1.1 (hB _ hb)
  rw [f1]
  rcases turn_must (k := 2) (X' := 12) hc b5 f3 (by decide) (by decide) (fun A kd hA => by rw [fol_11 hA, show km 2 = 3 from by decide]) (hr (by decide) (by decide) (by decide)) (by decide) with hb | ⟨g0, g1, g2, g3, g4, A3, c1, c2, c3, c4, c5⟩
  · simp only [must_bad hb.1]
    exact tl_249b hb.1.1 (hB _ hb)
  rw [g1]
  rcases turn_must (k := 26) (X' := 13) hc c5 g3 (by decide) (by decide) (fun A kd hA => by rw [fol_12 hA, show km 26 = 20 from by decide]) (hr (by decide) (by decide) (by decide)) (by decide) with hb | ⟨i0, i1, i2, i3, i4, A4, d1, d2, d3, d4, d5⟩
  · simp only [must_bad hb.1]
    exact tl_249b hb.1.1 (hB _ hb)
  rw [i1]
  rcases turn_must (k := 2) (X' := 7) hc d5 i3 (by decide) (by decide) (fun A kd hA => by rw [fol_13 hA, show km 2 = 3 from by decide]) (hr (by decide) (by decide) (by decide)) (by decide) with hb | ⟨j0, j1, j2, j3, j4, A5, m1, m2, m3, m4, m5⟩
  · exact tl_249b hb.1.1 (hB _ hb)
  rw [j1, h11, gs_at, gs_at]
  -- the class's heaps
  have A18 : A1 15 8 = 9 := by rw [a1 15 (by decide)]; exact hs.2.2.1
  have A28 : A2 15 8 = 10 := by rw [b1 15 (by decide), gs_at]
  have A38 : A3 15 8 = 11 := by rw [c1 15 (by decide), gs_at]
  have A48 : A4 15 8 = 12 := by rw [d1 15 (by decide), gs_at]
  have A58 : A5 15 8 = 13 := by rw [m1 15 (by decide), gs_at]
  have v1r := tkV_r (L := L) (r := r) rfl e0
  have v2r := tkV_r (L := L) (r := r) rfl g0
  have v3r := tkV_r (L := L) (r := r) rfl j0
  have n1 : f_X10_number A1 = tkV (tb L r) (tkQ (tb L r) (t + 1)) := a3 rfl
  have n2 : f_X10_number A3 = tkV (tb L r) (tkQ (tb L r) (t + 1 + 1 + 1)) := c3 rfl
  have n3 : f_X10_number A5 = tkV (tb L r) (tkQ (tb L r) (t + 1 + 1 + 1 + 1 + 1)) := m3 rfl
  rw [note_9 A18, n1, n9_eq] at b1
  rw [note_10 A28] at c1
  rw [note_11 A38, n2, nd_eq] at d1
  rw [note_12 A48] at m1
  rw [note_13 A58, n3] at m5
  -- the reference's rows
  have rk1 := rT_k hT
  rw [h11, st_nat] at rk1
  have rk3 := rT_k f2
  rw [gs_at, st_nat, gs_ne (by decide), gs_ne (by decide), gs_ne (by decide), gs_ne (by decide), gs_ne (by decide), gs_ne (by decide), gs_ne (by decide), gs_ne (by decide)] at rk3
  have rk5 := rT_k i2
  rw [gs_at, st_nat] at rk5
  simp only [gs_ne (show (67 : Nat) ≠ 64 by decide), gs_ne (show (68 : Nat) ≠ 64 by decide), gs_ne (show (69 : Nat) ≠ 64 by decide), gs_ne (show (70 : Nat) ≠ 64 by decide)] at rk5
  have x1 : H1 69 (t + 1) = tkV (tb L r) (tkQ (tb L r) (t + 1)) := rk1.2.2.1 e0
  have x2 : H1 69 (t + 1 + 1 + 1) = tkV (tb L r) (tkQ (tb L r) (t + 1 + 1 + 1)) := rk3.2.2.1 g0
  have x3 : H1 69 (t + 1 + 1 + 1 + 1 + 1) = tkV (tb L r) (tkQ (tb L r) (t + 1 + 1 + 1 + 1 + 1)) := rk5.2.2.1 j0
  have y1 : H1 68 (t + 1) = ((tkQ (tb L r) (t + 1) : Nat) : Int) := rk1.2.1
  have y2 : H1 68 (t + 1 + 1 + 1) = ((tkQ (tb L r) (t + 1 + 1 + 1) : Nat) : Int) := rk3.2.1
  have m13 := m5.2.2.2.2
  have mT := m5.2.2.2.1
  have M5row : ∀ a, a ≠ 64 → (gs (gs (gs (gs (gs H1 64 11 ((t + 1 + 1 : Nat) : Int)) 64 11 ((t + 1 + 1 + 1 : Nat) : Int)) 64 11 ((t + 1 + 1 + 1 + 1 : Nat) : Int)) 64 11 ((t + 1 + 1 + 1 + 1 + 1 : Nat) : Int)) 64 11 ((t + 1 + 1 + 1 + 1 + 1 + 1 : Nat) : Int)) a = H1 a := fun a ha => by rw [gs_ne ha, gs_ne ha, gs_ne ha, gs_ne ha, gs_ne ha]
  have M564 : ∀ i, i ≠ 11 → (gs (gs (gs (gs (gs H1 64 11 ((t + 1 + 1 : Nat) : Int)) 64 11 ((t + 1 + 1 + 1 : Nat) : Int)) 64 11 ((t + 1 + 1 + 1 + 1 : Nat) : Int)) 64 11 ((t + 1 + 1 + 1 + 1 + 1 : Nat) : Int)) 64 11 ((t + 1 + 1 + 1 + 1 + 1 + 1 : Nat) : Int)) 64 i = H1 64 i := fun i hi => by rw [gs_at_ne hi, gs_at_ne hi, gs_at_ne hi, gs_at_ne hi, gs_at_ne hi]
  have M5fh : frm (insQ S m l qq) H (gs (gs (gs (gs (gs H1 64 11 ((t + 1 + 1 : Nat) : Int)) 64 11 ((t + 1 + 1 + 1 : Nat) : Int)) 64 11 ((t + 1 + 1 + 1 + 1 : Nat) : Int)) 64 11 ((t + 1 + 1 + 1 + 1 + 1 : Nat) : Int)) 64 11 ((t + 1 + 1 + 1 + 1 + 1 + 1 : Nat) : Int)) := frm_gs (frm_gs (frm_gs (frm_gs (frm_gs hh.fh (insQ_64 (by decide))) (insQ_64 (by decide))) (insQ_64 (by decide))) (insQ_64 (by decide))) (insQ_64 (by decide))
  generalize (gs (gs (gs (gs (gs H1 64 11 ((t + 1 + 1 : Nat) : Int)) 64 11 ((t + 1 + 1 + 1 : Nat) : Int)) 64 11 ((t + 1 + 1 + 1 + 1 : Nat) : Int)) 64 11 ((t + 1 + 1 + 1 + 1 + 1 : Nat) : Int)) 64 11 ((t + 1 + 1 + 1 + 1 + 1 + 1 : Nat) : Int)) = M5 at *
  refine tl_249 (by omega) (by omega) (fun y => absurd y (by omega)) (fun _ => ?_)
  rw [M5row 69 (by decide), x1, x2, x3]
  generalize hv1 : tkV (tb L r) (tkQ (tb L r) (t + 1)) = v1 at *
  generalize hv2 : tkV (tb L r) (tkQ (tb L r) (t + 1 + 1 + 1)) = v2 at *
  generalize hv3 : tkV (tb L r) (tkQ (tb L r) (t + 1 + 1 + 1 + 1 + 1)) = v3 at *
  generalize hq1 : ((tkQ (tb L r) (t + 1) : Nat) : Int) = q1 at *
  generalize hq2 : ((tkQ (tb L r) (t + 1 + 1 + 1) : Nat) : Int) = q2 at *
  -- the rows with the want's numbers
  have W79 : (gs (gs (gs M5 79 (40 * S + m) v1) 80 (40 * S + m) v2) 81 (40 * S + m) v3) 79 (40 * S + m) = v1 := by rw [gs_ne (by decide), gs_ne (by decide), gs_at]
  have W80 : (gs (gs (gs M5 79 (40 * S + m) v1) 80 (40 * S + m) v2) 81 (40 * S + m) v3) 80 (40 * S + m) = v2 := by rw [gs_ne (by decide), gs_at]
  have W81 : (gs (gs (gs M5 79 (40 * S + m) v1) 80 (40 * S + m) v2) 81 (40 * S + m) v3) 81 (40 * S + m) = v3 := gs_at _ _ _ _
  have W80o : ∀ i, i ≠ 40 * S + m → (gs (gs (gs M5 79 (40 * S + m) v1) 80 (40 * S + m) v2) 81 (40 * S + m) v3) 80 i = H1 80 i := fun i hi => by rw [gs_ne (by decide), gs_at_ne hi, gs_ne (by decide), M5row 80 (by decide)]
  have Wrow : ∀ a, a ≠ 64 → a ≠ 79 → a ≠ 80 → a ≠ 81 → (gs (gs (gs M5 79 (40 * S + m) v1) 80 (40 * S + m) v2) 81 (40 * S + m) v3) a = H1 a := fun a z1 z2 z3 z4 => by rw [gs_ne z4, gs_ne z3, gs_ne z2, M5row a z1]
  have W64 : (gs (gs (gs M5 79 (40 * S + m) v1) 80 (40 * S + m) v2) 81 (40 * S + m) v3) 64 = M5 64 := by rw [gs_ne (by decide), gs_ne (by decide), gs_ne (by decide)]
  have Wfh : frm (insQ S m l qq) H (gs (gs (gs M5 79 (40 * S + m) v1) 80 (40 * S + m) v2) 81 (40 * S + m) v3) := frm_gs (frm_gs (frm_gs M5fh (by unfold insQ; omega)) (by unfold insQ; omega)) (by unfold insQ; omega)
  have Wsm : SM c L r F K (t + 1 + 1 + 1 + 1 + 1 + 1) 7 (gs (e_X1_setWorth c A5 v3) 15 8 7) (gs (gs (gs M5 79 (40 * S + m) v1) 80 (40 * S + m) v2) 81 (40 * S + m) v3) := SM_to m5 (fun k _ _ => by rw [gs_ne (by omega), gs_ne (by omega), gs_ne (by omega)]) (by rw [W64]) (by rw [W64])
  generalize (gs (gs (gs M5 79 (40 * S + m) v1) 80 (40 * S + m) v2) 81 (40 * S + m) v3) = W0 at *
  have k68 := Wrow 68 (by decide) (by decide) (by decide) (by decide)
  have hdup : ∀ a k, k < m → (a = 77 ∨ a = 78 ∨ a = 80) → W0 a (40 * S + k) = H a (40 * S + k) := by
    intro a k hk ha
    have hh77 := OH_fs hh hk ha
    rcases ha with w | w | w <;> subst w
    · rw [Wrow 77 (by decide) (by decide) (by decide) (by decide)]; exact hh77
    · rw [Wrow 78 (by decide) (by decide) (by decide) (by decide)]; exact hh77
    · rw [W80o _ (fun q => absurd hk (by have := Nat.add_left_cancel q; rw [this]; exact Nat.lt_irrefl m))]; exact hh77
  have W19 : W0 64 19 = (S : Int) := by rw [W64, M564 19 (by decide), hh.fh 64 19 (by unfold insQ; omega), Fr_64 h.fr (by decide)]; exact h.r19
  have W13 : W0 64 13 = 0 := by rw [W64]; exact m13
  have k1 := want_cls (v3 := v3) (A5 := A5) hc hm hn1 hcp h ho a1 a2 b1 c1 c2 d1 m1 v2r.1 hdup
  refine want_296 (b0 := (H1 64 15, H1 64 16)) (q1 := q1) (q2 := q2) hS hm (by omega) W19 W13 (by rw [k68]; exact y1) (by rw [k68]; exact y2) W79 W80 v1r.1 v2r.1 (by rw [W64, M564 15 (by decide), M564 16 (by decide)]) ?_
  exact want_end hc hS hm hn1 h ho hh (by omega) k1.1 Wsm v1r.1 v2r.1 v3r W79 W80 W81 Wrow (fun i hi => by rw [W64]; exact M564 i hi) Wfh k1.2 hB hQ
end CLV2
