/-! ===== a campaign, walked ===== -/
section CMS
variable {c : Nat} {L : Int} {r : Nat → Int} {F : mG} {K S : Nat} {G0 : mG} {t n m p l qq q : Nat} {s H : mG} {Q : Option mV → mG → Prop}
set_option maxHeartbeats 8000000 in
/-- behind the seven words of a campaign's head -/
theorem camp_81 {A1 A2 A3 A4 A5 A6 A7 M7 : mG} (hc : c = 40 ∨ c = 52) (hS : S ≤ 1) (nn : n < 8) (h : J8 1 c L r F K S G0 t n m p l qq s H) (hM : ∀ a, a ≠ 64 → M7 a = H a) (h64 : ∀ i, i ≠ 11 → M7 64 i = H 64 i) (k1 : tkK (tb L r) (tkQ (tb L r) (t + 1)) = 1) (k3 : tkK (tb L r) (tkQ (tb L r) (t + 1 + 1 + 1)) = 2) (k5 : tkK (tb L r) (tkQ (tb L r) (t + 1 + 1 + 1 + 1 + 1)) = 2)
    (a1 : ∀ k, k ≠ 20 → A1 k = s k) (a2 : ∀ k, k ≠ 20 → A2 k = (gs A1 15 8 2) k) (st2 : f_X10_start A2 = ((tkQ (tb L r) (t + 1) : Nat) : Int)) (nm2 : f_X10_name A2 = tkN (tb L r) (tkQ (tb L r) (t + 1))) (a3 : ∀ k, k ≠ 20 → A3 k = (gs (e_X7_noteCampaign c A2) 15 8 3) k) (a4 : ∀ k, k ≠ 20 → A4 k = (gs A3 15 8 4) k) (a5 : ∀ k, k ≠ 20 → A5 k = (gs (e_X1_setFrom c A4 (tkV (tb L r) (tkQ (tb L r) (t + 1 + 1 + 1)))) 15 8 5) k) (a6 : ∀ k, k ≠ 20 → A6 k = (gs A5 15 8 6) k) (st6 : f_X10_start A6 = ((tkQ (tb L r) (t + 1 + 1 + 1 + 1 + 1) : Nat) : Int)) (a7 : ∀ k, k ≠ 20 → A7 k = (gs (e_X7_noteLast c A6 (tkV (tb L r) (tkQ (tb L r) (t + 1 + 1 + 1 + 1 + 1)))) 15 8 7) k) (hs : SM c L r F K (t + 1 + 1 + 1 + 1 + 1 + 1 + 1) 8 (gs A7 15 8 8) M7)
    (hB : ∀ H', BadF F S G0 H' → Q none H') (hQ : ∀ (t' m' p' l' qq' : Nat) (s' H' : mG), t < t' → J8 1 c L r F K S G0 t' (n + 1) m' p' l' qq' s' H' → Q none H') : W2 o_X12 M_X12_tellCampaign (inN [64, 72, 73, 74, 75, 76, 77, 78, 79, 80, 81, 82, 83, 84, 85, 86, 87, 88, 89, 90, 91, 92, 93]) (q + 14) Q 81 [some (mR 69), some (mI ((t + 1 : Nat) : Int)), some (mI ((t + 1 + 1 + 1 : Nat) : Int)), some (mI ((t + 1 + 1 + 1 + 1 + 1 : Nat) : Int)), none, none] [] M7 := by
  have hT7 := hs.2.2.2.1
  have h13 := hs.2.2.2.2
  have hK := hT7.2.2.1
  have h600 := hT7.2.2.2.1
  have e19 : M7 64 19 = (S : Int) := by rw [h64 19 (by decide), Fr_64 h.fr (by decide)]; exact h.r19
  have e72 : M7 72 S = (n : Int) := by rw [hM 72 (by decide)]; exact h.r72
  have rk1 := hT7.1 (t + 1) (by omega)
  have rk3 := hT7.1 (t + 1 + 1 + 1) (by omega)
  have rk5 := hT7.1 (t + 1 + 1 + 1 + 1 + 1) (by omega)
  have kc := camp_cls (S := S) (W0 := M7) hc nn h.c11 (fun k hk => by rw [hM 73 (by decide)]; exact h.jb.nam k hk) a1 a2 st2 nm2 a3 a4 a5 a6 st6 a7
  refine tm_81 (by omega) (fun y => absurd y (by omega)) (fun _ => ?_)
  have q1 : w32 ((w32 (8 * (M7 64 19))) + (M7 72 (Int.toNat (M7 64 19)))) = ((8 * S + n : Nat) : Int) := by
    rw [e19, st_nat, e72, w32_i (x := 8 * ((S : Nat) : Int)) (by omega) (by omega), w32_i (by omega) (by omega)]; omega
  have q2 : w32 (8 * (M7 64 19)) = ((8 * S + 0 : Nat) : Int) := by rw [e19, w32_i (by omega) (by omega)]; omega
  rw [q1, q2]
  clear q1 q2
  refine camp_117 hS nn ⟨by omega, by omega, by omega⟩ h13 e19 e72 rk1.2.1 (rk1.2.2.2 k1) (rk3.2.2.1 k3) (rk5.2.2.1 k5) rk5.2.1 (fun V hV => ?_)
  have e15 := h64 15 (by decide)
  have e16 := h64 16 (by decide)
  rw [e15, e16] at hV
  have hV2 : ∀ k, 67 ≤ k → k ≤ 70 → V k = M7 k := fun k z1 z2 => hV.1 k (by omega) (by omega) (by omega) (by omega) (by omega)
  have hsV : SM c L r F K (t + 1 + 1 + 1 + 1 + 1 + 1 + 1) 8 (gs A7 15 8 8) V := SM_to hs hV2 (hV.2.1 11 (by decide) (by decide)) (hV.2.1 13 (by decide) (by decide))
  have hJ := camp_J8 hc hS nn h (by omega) (by rw [k1]; decide) kc.1 kc.2 hM h64 hV hsV
  exact camp_loop (t := t) hc hS (by omega) hB hQ 601 (t + 1 + 1 + 1 + 1 + 1 + 1 + 1) (by omega) (by omega) m p l qq _ V hJ
set_option maxHeartbeats 8000000 in
/-- a campaign, told by both -/
theorem sp_camp {D : Nat → Bool} (hD : ∀ k, D k = false → inN [64, 72, 73, 74, 75, 76, 77, 78, 79, 80, 81, 82, 83, 84, 85, 86, 87, 88, 89, 90, 91, 92, 93] k = false) (hc : c = 40 ∨ c = 52) (hS : S ≤ 1) (h : J8 1 c L r F K S G0 t n m p l qq s H) (h0 : ¬ tkK (tb L r) (tkQ (tb L r) t) = 0) (hB : ∀ H', BadF F S G0 H' → Q none H') (hQ : ∀ (t' m' p' l' qq' : Nat) (s' H' : mG), t < t' → J8 1 c L r F K S G0 t' (n + 1) m' p' l' qq' s' H' → Q none H') : P2 D (q + 14) M_X12_tellCampaign [mR 69] H Q := by
  have hT := h.sm.2.2.2.1
  have h11 := hT.2.1
  have h600 := hT.2.2.2.1
  have kk := (rT_k hT).1
  have e19 : H 64 19 = (S : Int) := by rw [Fr_64 h.fr (by decide)]; exact h.r19
  have k72 : H 72 (Int.toNat (H 64 19)) = (n : Int) := by rw [e19, st_nat]; exact h.r72
  obtain ⟨tf1, tf2⟩ := turn_first hc h h0
  have hr : ∀ {k' : Int} {X : Int}, ¬ X = 1 → ¬ X = 8 → ¬ km k' = 5 → ∀ A : mG, A 15 8 = X → f_X7_lacksRoomFor c A (km k') = 0 := fun h1 h2 h3 A hA => by rw [rom_c (by rw [hA]; exact h1) (by rw [hA]; exact h2), if_neg (fun q => h3 q.1)]
  refine tm_0 hD (by omega) (by omega) (fun y1 y2 => ?_) (fun y => ?_)
  · rw [kk] at y1
    have hb := tf1 y1.2 (by omega)
    refine tm_28 hb.2.2 ?_
    simp only [must_bad hb.1]
    exact tm_81b hb.1.1 (hB _ hb)
  have z13 := h.sm.2.2.2.2
  have y' : ¬ (tkK (tb L r) (tkQ (tb L r) t) = 20 ∧ n = 8) := by
    rw [kk] at y
    omega
  clear y
  refine tm_28 (by omega) ?_
  rcases tf2 y' with hb | ⟨nn, a0, a3, A1, a1, a5⟩
  · simp only [must_bad hb.1]
    exact tm_81b hb.1.1 (hB _ hb)
  rw [a0]
  rcases turn_must (k := 1) (X' := 3) hc a5 a3 (by decide) (by decide) (fun A kd hA => by rw [fol_2 hA, show km 1 = 2 from by decide]) (hr (by decide) (by decide) (by decide)) (by decide) with hb | ⟨b00, b0, b02, b3, b04, A2, b1, b2, bn, bm, b5⟩
  · simp only [must_bad hb.1]
    exact tm_81b hb.1.1 (hB _ hb)
  rw [b0]
  rcases turn_must (k := 21) (X' := 4) hc b5 b3 (by decide) (by decide) (fun A kd hA => by rw [fol_3 hA, show km 21 = 15 from by decide]) (hr (by decide) (by decide) (by decide)) (by decide) with hb | ⟨c00, c0, c02, c3, c04, A3, c1, c2, cn, cm, c5⟩
  · simp only [must_bad hb.1]
    exact tm_81b hb.1.1 (hB _ hb)
  rw [c0]
  rcases turn_must (k := 2) (X' := 5) hc c5 c3 (by decide) (by decide) (fun A kd hA => by rw [fol_4 hA, show km 2 = 3 from by decide]) (hr (by decide) (by decide) (by decide)) (by decide) with hb | ⟨d00, d0, d02, d3, d04, A4, d1, d2, dn, dm, d5⟩
  · simp only [must_bad hb.1]
    exact tm_81b hb.1.1 (hB _ hb)
  rw [d0]
  rcases turn_must (k := 22) (X' := 6) hc d5 d3 (by decide) (by decide) (fun A kd hA => by rw [fol_5 hA, show km 22 = 16 from by decide]) (hr (by decide) (by decide) (by decide)) (by decide) with hb | ⟨e00, e0, e02, e3, e04, A5, e1, e2, en, em, e5⟩
  · simp only [must_bad hb.1]
    exact tm_81b hb.1.1 (hB _ hb)
  rw [e0]
  rcases turn_must (k := 2) (X' := 7) hc e5 e3 (by decide) (by decide) (fun A kd hA => by rw [fol_6 hA, show km 2 = 3 from by decide]) (hr (by decide) (by decide) (by decide)) (by decide) with hb | ⟨f00, f0, f02, f3, f04, A6, f1, f2, fn, fm, f5⟩
  · simp only [must_bad hb.1]
    exact tm_81b hb.1.1 (hB _ hb)
  rw [f0]
  rcases turn_must (k := 4) (X' := 8) hc f5 f3 (by decide) (by decide) (fun A kd hA => by rw [fol_7 hA, show km 4 = 4 from by decide]) (hr (by decide) (by decide) (by decide)) (by decide) with hb | ⟨g00, g0, g02, g3, g04, A7, g1, g2, gn, gm, g5⟩
  · exact tm_81b hb.1.1 (hB _ hb)
  rw [g0]
  have A28 : A2 15 8 = 2 := by rw [b1 15 (by decide), gs_at]
  have A38 : A3 15 8 = 3 := by rw [c1 15 (by decide), gs_at]
  have A48 : A4 15 8 = 4 := by rw [d1 15 (by decide), gs_at]
  have A58 : A5 15 8 = 5 := by rw [e1 15 (by decide), gs_at]
  have A68 : A6 15 8 = 6 := by rw [f1 15 (by decide), gs_at]
  have A78 : A7 15 8 = 7 := by rw [g1 15 (by decide), gs_at]
  have n4 : f_X10_number A4 = tkV (tb L r) (tkQ (tb L r) (t + 1 + 1 + 1)) := dn rfl
  have n6 : f_X10_number A6 = tkV (tb L r) (tkQ (tb L r) (t + 1 + 1 + 1 + 1 + 1)) := fn rfl
  rw [note_2 A28] at c1
  rw [note_3 A38] at d1
  rw [note_4 A48, n4] at e1
  rw [note_5 A58] at f1
  rw [note_6 A68, n6] at g1
  rw [note_7 A78] at g5
  rw [gs_at, gs_at, gs_at]
  have M5row : ∀ a, a ≠ 64 → (gs (gs (gs (gs (gs (gs (gs H 64 11 ((t + 1 : Nat) : Int)) 64 11 ((t + 1 + 1 : Nat) : Int)) 64 11 ((t + 1 + 1 + 1 : Nat) : Int)) 64 11 ((t + 1 + 1 + 1 + 1 : Nat) : Int)) 64 11 ((t + 1 + 1 + 1 + 1 + 1 : Nat) : Int)) 64 11 ((t + 1 + 1 + 1 + 1 + 1 + 1 : Nat) : Int)) 64 11 ((t + 1 + 1 + 1 + 1 + 1 + 1 + 1 : Nat) : Int)) a = H a := fun a ha => by rw [gs_ne ha, gs_ne ha, gs_ne ha, gs_ne ha, gs_ne ha, gs_ne ha, gs_ne ha]
  have M564 : ∀ i, i ≠ 11 → (gs (gs (gs (gs (gs (gs (gs H 64 11 ((t + 1 : Nat) : Int)) 64 11 ((t + 1 + 1 : Nat) : Int)) 64 11 ((t + 1 + 1 + 1 : Nat) : Int)) 64 11 ((t + 1 + 1 + 1 + 1 : Nat) : Int)) 64 11 ((t + 1 + 1 + 1 + 1 + 1 : Nat) : Int)) 64 11 ((t + 1 + 1 + 1 + 1 + 1 + 1 : Nat) : Int)) 64 11 ((t + 1 + 1 + 1 + 1 + 1 + 1 + 1 : Nat) : Int)) 64 i = H 64 i := fun i hi => by rw [gs_at_ne hi, gs_at_ne hi, gs_at_ne hi, gs_at_ne hi, gs_at_ne hi, gs_at_ne hi, gs_at_ne hi]
  exact camp_81 hc hS nn h M5row M564 b00 d00 f00 a1 b1 b2 (bm rfl) c1 d1 e1 f1 f2 g1 g5 hB hQ
end CMS
