/-! ===== a clause, told by both ===== -/
section CLH
variable {c : Nat} {L : Int} {r : Nat → Int} {F : mG} {K S : Nat} {G0 : mG} {t n m p l qq q : Nat} {s H : mG} {Q : Option mV → mG → Prop} {kd so X' : Int}
/-- a clause begins: the first token taken -/
theorem cl_open (hc : c = 40 ∨ c = 52) (hS : S ≤ 1) (hm : m < 40) (h : J8 8 c L r F K S G0 t n m p l qq s H) (hkd : tkK (tb L r) (tkQ (tb L r) t) = kd) (hX : (kd = 24 ∧ X' = 9) ∨ (kd = 27 ∧ X' = 17) ∨ (kd = 28 ∧ X' = 14) ∨ (kd = 29 ∧ X' = 15)) {H0 : mG} (hH : (gs (gs (gs H 78 (40 * S + m) ((n : Int) - 1)) 82 (40 * S + m) ((l : Nat) : Int)) 77 (40 * S + m) so) = H0) :
    BadF F S G0 (e_X12_next H0) ∨ ∃ s1 : mG, OC c n m p (km kd) X' s s1 ∧ OH S n m l qq so H (e_X12_next H0) ∧ SM c L r F K (t + 1) X' s1 (e_X12_next H0) := by
  obtain ⟨k1, k2, k3⟩ := cl_begin hc h hkd hX
  have hoh := oh_begin (so := so) hS h
  rw [hH] at hoh
  obtain ⟨hcs, hF, hX8, hT, h13⟩ := h.sm
  have h600 := hT.2.2.2.1
  have g64 : ∀ i, H0 64 i = H 64 i := fun i => by rw [← hH, gs_ne (by decide), gs_ne (by decide), gs_ne (by decide)]
  have gr : ∀ k, 67 ≤ k → k ≤ 70 → H0 k = H k := fun k h1 h2 => by rw [← hH, gs_ne (by omega), gs_ne (by omega), gs_ne (by omega)]
  have hT0 : rT (tb L r) K t H0 := rT_to hT gr (g64 11)
  have z13 : H0 64 13 = 0 := by rw [g64]; exact h13
  by_cases z6 : t = 600
  · rw [nx_end hT0.2.1 z6]
    exact Or.inl (BadF_fail (by decide) (k2 z6) hT0 z13 (Fr_q hm h.fr hoh.fh))
  · have t6 : t < 600 := by omega
    rw [nx_go hT0.2.1 t6]
    obtain ⟨s1, ho, q1, q2⟩ := k3 hm t6
    have hk0 : ¬ tkK (tb L r) (tkQ (tb L r) t) = 0 := by omega
    exact Or.inr ⟨s1, ho, OH_11 hoh, q1, q2, ho.w8, rT_nx hT0 hk0 t6 (fun k _ _ => gs_ne (by omega)) (gs_at _ _ _ _), by rw [gs_at_ne (by decide)]; exact z13⟩
theorem BadF_84 {M : mG} {v : Int} (hS : S ≤ 1) (hm : m < 40) (hb : BadF F S G0 M) : BadF F S G0 (gs M 84 (40 * S + m) v) := by
  refine ⟨Bad_to hb.1 (by rw [gs_ne (by decide)]) (by rw [gs_ne (by decide)]), Fr_gs hb.2.1 (by unfold ins; omega), ?_⟩
  rw [gs_ne (by decide)]
  exact hb.2.2
set_option maxHeartbeats 8000000 in
theorem tl_434b {M : mG} {cp : Int} (hS : S ≤ 1) (hm : m < 40) (hB : ∀ H', BadF F S G0 H' → Q none H') (hb : BadF F S G0 M) : W2 o_X12 M_X12_tellClause (inN [64, 72, 73, 74, 75, 76, 77, 78, 79, 80, 81, 82, 83, 84, 85, 86, 87, 88, 89, 90, 91, 92, 93]) (q + 12) Q 434 [some (mR 69), some (mI cp), none, some (mI ((40 * S + m : Nat) : Int)), none, none, none, none] [] M := by
  refine tl_434 hb.2.2 ?_
  simp only [must_bad hb.1]
  have hb2 := hb.2.2
  generalize M 64 11 = g at hb2 ⊢
  obtain ⟨i, rfl⟩ := Int.eq_ofNat_of_zero_le hb2.1
  exact tl_451 (by omega) (by omega) (fun _ => hB _ hb) (fun q => absurd hb.1.1 (by omega))
set_option maxHeartbeats 8000000 in
/-- a clause, told by both -/
theorem sp_clause {D : Nat → Bool} {cp : Int} (hD : ∀ k, D k = false → inN [64, 72, 73, 74, 75, 76, 77, 78, 79, 80, 81, 82, 83, 84, 85, 86, 87, 88, 89, 90, 91, 92, 93] k = false) (hc : c = 40 ∨ c = 52) (hS : S ≤ 1) (hn1 : 1 ≤ n) (hcp : cp = (n : Int) - 1) (h : J8 8 c L r F K S G0 t n m p l qq s H) (h23 : ¬ tkK (tb L r) (tkQ (tb L r) t) = 23) (hB : ∀ H', BadF F S G0 H' → Q none H') (hQ : ∀ (t' p' l' qq' : Nat) (s' H' : mG), t < t' → J8 8 c L r F K S G0 t' n (m + 1) p' l' qq' s' H' → Q none H') : P2 D (q + 12) M_X12_tellClause [mR 69, mI cp] H Q := by
  subst hcp
  have hSM := h.sm
  obtain ⟨hcs, hF, hX8, hT, h13⟩ := hSM
  have h11 := hT.2.1
  have h600 := hT.2.2.2.1
  have hj := h.jb
  have hm40 := hj.hn.2
  have e19 : H 64 19 = (S : Int) := by rw [Fr_64 h.fr (by decide)]; exact h.r19
  have k76 : H 76 (Int.toNat (H 64 19)) = (m : Int) := by rw [e19, st_nat]; exact h.r76
  have k85 : H 85 (Int.toNat (H 64 19)) = (l : Int) := by rw [e19, st_nat]; exact hj.r85
  have kk := (rT_k hT).1
  have hA8 : ∀ A : mG, (∀ k, k ≠ 20 → A k = s k) → A 15 8 = 8 := fun A hA => by rw [hA 15 (by decide)]; exact hX8
  refine tl_0 hD h13 (by omega) (by omega) (by omega) (fun y => ?_) (fun y1 y2 => ?_) (fun y1 y2 => ?_)
  · rw [kk] at y
    have kd := km_d (tkK (tb L r) (tkQ (tb L r) t))
    have hkk := tkK_r (tb L r) (tkQ (tb L r) t)
    have n1 : ¬ km (tkK (tb L r) (tkQ (tb L r) t)) = 17 := by omega
    have n2 : ¬ km (tkK (tb L r) (tkQ (tb L r) t)) = 18 := by omega
    have n3 : ¬ km (tkK (tb L r) (tkQ (tb L r) t)) = 21 := by omega
    have n4 : ¬ km (tkK (tb L r) (tkQ (tb L r) t)) = 22 := by omega
    have n5 : ¬ km (tkK (tb L r) (tkQ (tb L r) t)) = 23 := by omega
    clear kd hkk
    obtain ⟨t1, _⟩ := turn (fo := -1) hc ⟨hcs, hF, hX8, hT, h13⟩ (by decide) rfl (fun A hA => by rw [fol_8 (hA8 A hA), fC, if_neg n1, if_neg n2, if_neg n3, if_neg n4, if_neg n5])
    exact hB _ (BadF_fail (by decide) (t1 rfl) hT h13 h.fr)
  · rw [kk] at y1
    have hm : m = 40 := by omega
    have hsto : Sto (tb L r) F t 2 := by
      rcases y1 with e | e | e | e
      · exact (cl_begin (X' := 9) hc h e (by decide)).1 hm
      · exact (cl_begin (X' := 17) hc h e (by decide)).1 hm
      · exact (cl_begin (X' := 14) hc h e (by decide)).1 hm
      · exact (cl_begin (X' := 15) hc h e (by decide)).1 hm
    exact hB _ (BadF_fail (by decide) hsto hT h13 h.fr)
  · have hm : m < 40 := by omega
    refine tl_81 h13 (by omega) (by omega) (by omega) y1 (fun so hso => ?_)
    clear y1
    rw [kk] at hso
    have ee : w32 ((w32 (40 * (H 64 19))) + (H 76 (Int.toNat (H 64 19)))) = ((40 * S + m : Nat) : Int) := by
      rw [k76, e19, w32_i (x := 40 * ((S : Nat) : Int)) (by omega) (by omega), w32_i (by omega) (by omega)]; omega
    rw [ee, st_nat, k85]
    clear ee
    have T0 : 0 ≤ (gs (gs (gs H 78 (40 * S + m) ((n : Int) - 1)) 82 (40 * S + m) ((l : Nat) : Int)) 77 (40 * S + m) so) 64 11 ∧ (gs (gs (gs H 78 (40 * S + m) ((n : Int) - 1)) 82 (40 * S + m) ((l : Nat) : Int)) 77 (40 * S + m) so) 64 11 ≤ 600 := by
      rw [gs_ne (by decide), gs_ne (by decide), gs_ne (by decide)]; omega
    have T77 : (gs (gs (gs H 78 (40 * S + m) ((n : Int) - 1)) 82 (40 * S + m) ((l : Nat) : Int)) 77 (40 * S + m) so) 77 (40 * S + m) = so := gs_at _ _ _ _
    generalize hH0 : (gs (gs (gs H 78 (40 * S + m) ((n : Int) - 1)) 82 (40 * S + m) ((l : Nat) : Int)) 77 (40 * S + m) so) = H0 at T0 T77 ⊢
    have he : 40 * S + m < 80 := by omega
    rcases hso with ⟨e1, e2⟩ | ⟨e1, e2⟩ | ⟨e1, e2⟩ | ⟨e1, e2⟩ <;> subst e1
    · refine tl_167 T0 he (fun _ => ?_) (fun y => absurd y (by omega)) (fun y => absurd y (by omega)) (fun y => absurd y (by omega))
      rcases cl_open (X' := 9) hc hS hm h e2 (by decide) hH0 with hb | ⟨s1, ho, hh, hs⟩
      · refine tl_204 hb.2.2 ?_
        simp only [must_bad hb.1]
        exact tl_249b hb.1.1 (hB _ hb)
      · rw [show km 24 = 18 from by decide] at ho
        exact cl_want hc hS hm hn1 rfl h ho hh hs hB hQ
    · refine tl_167 T0 he (fun y => absurd y (by omega)) (fun _ => ?_) (fun y => absurd y (by omega)) (fun y => absurd y (by omega))
      rcases cl_open (X' := 17) hc hS hm h e2 (by decide) hH0 with hb | ⟨s1, ho, hh, hs⟩
      · refine tl_409 (R := fun M => M = e_X12_next H0) (fun Q' hQ' => ?_) (fun H2 hR => ?_)
        · have := hb.1.1
          exact cd_0 (q := q + 2) (fun _ hk => hk) (cd_4b (by omega) (hQ' _ rfl))
        · subst hR
          exact bad_494 h.r19 hS hm hB hb
      · rw [show km 27 = 21 from by decide] at ho
        have hO := oc_bar h ho hh hs
        exact tl_409 (occ_cond hc hS hm h hO (by omega)) (fun H2 hR => occ_494 hc hS hm hn1 h hO (by omega) hB hQ hR)
    · refine tl_167 T0 he (fun y => absurd y (by omega)) (fun y => absurd y (by omega)) (fun _ => ?_) (fun y => absurd y (by omega))
      rcases cl_open (X' := 14) hc hS hm h e2 (by decide) hH0 with hb | ⟨s1, ho, hh, hs⟩
      · refine tl_416 hb.2.2 he ?_
        exact bad_494 h.r19 hS hm hB (BadF_must (BadF_84 hS hm hb))
      · rw [show km 28 = 22 from by decide] at ho
        exact cl_beside hc hS hm hn1 h ho hh hs hB hQ
    · refine tl_167 T0 he (fun y => absurd y (by omega)) (fun y => absurd y (by omega)) (fun y => absurd y (by omega)) (fun _ => ?_)
      rcases cl_open (X' := 15) hc hS hm h e2 (by decide) hH0 with hb | ⟨s1, ho, hh, hs⟩
      · exact tl_434b hS hm hB hb
      · rw [show km 29 = 23 from by decide] at ho
        exact cl_refund hc hS hm hn1 h ho hh hs hB hQ
end CLH
