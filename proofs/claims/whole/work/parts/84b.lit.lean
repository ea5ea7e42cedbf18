/-! ===== wip/whole/gen84b.py: the literal and the condition, walked ===== -/
section LTX
variable {c : Nat} {L : Int} {r : Nat → Int} {F : mG} {K S k P0 q0 l0 q : Nat} {s0 H0 : mG} {t sh P qq l : Nat} {s H : mG} {Q : Option mV → mG → Prop} {o : Int}
theorem sp_lit {D : Nat → Bool} (hD : ∀ k, D k = false → inN [64, 72, 73, 74, 75, 76, 77, 78, 79, 80, 81, 82, 83, 84, 85, 86, 87, 88, 89, 90, 91, 92, 93] k = false) (hc : c = 40 ∨ c = 52) (hk : k < 40) (hS : S ≤ 1) (h19 : H 64 19 = (S : Int)) (h : CI c L r F K S k P0 q0 l0 s0 H0 t sh P qq l s H) (ho : o = if shO sh = true then 1 else 0) (hB : ∀ H', BdR F S q0 l0 H0 H' → Q none H') (hQ : ∀ (t' qq' : Nat) (X : Int) (s' H' : mG), t < t' → LI c L r F K S k P0 q0 l0 s0 H0 t' sh qq' l X s' H' → Q none H') : P2 D (q + 7) M_X12_literal [mR 69, mI o] H Q := by
  have hSM := h.sm
  have hT := hSM.2.2.2.1
  have h11 := hT.2.1
  have h600 := hT.2.2.2.1
  have hkd := (rT_k hT).1
  have hwl := shW_le (sh := sh)
  have hwr := shB_r h.sb
  obtain ⟨k1, k2, k3, k4, k5⟩ := h.cs0
  have hp := h.hp
  have hq := h.hq
  have hl := h.hl
  refine lt_00 (R := XR c L r F K S k P qq (shW sh) s H t) hD hSM.2.2.2.2 (by omega) (fun y => ?_) (fun y Q' hQ' => ?_) (fun H2 hR2 => ?_)
  · rw [hkd] at y
    exact lt_near hc hk hS h19 h ho y hB hQ
  · rw [hkd] at y
    exact sp_expr (q := q + 1) (fun _ hk => hk) hc hk hS (by omega) (fun i hi => by rcases hwr i hi with e | e <;> rw [e] <;> decide) (Or.inl rfl) hSM (fun _ => y) k1 k2 k3 h.r39 k4 h.d0 h.ro (by omega) (by omega) hQ'
  · rcases hR2 with hb | ⟨t1, n, m, s1, H1, ht1, hb, nop, e⟩
    · have hb2 := BdR_of h.fh hq.1 hb
      exact lt_83b hb2.2.2 hb2.1.1 (lt_bad140 (BdR_next hb2) hB)
    · have hb0 := hb
      obtain ⟨hSM1, hXI, hb1, hb3, hf1, hf2, hb4⟩ := hb0
      have hT1 := hSM1.2.2.2.1
      have h131 := hSM1.2.2.2.2
      have h601 := hT1.2.2.2.1
      obtain ⟨cf1, cf2⟩ := cO_fr (z := 0) m H1
      have hmm := XI_m hXI
      have fE := cO_frm (q0 := qq) (z := 0) hS m H1 (700 * S + qq + n) hXI.cr (by omega) (by omega)
      have hT2 : rT (tb L r) K t1 H2 := by rw [e]; exact rT_to hT1 (fun a _ _ => cf1 a (by omega) (by omega) (by omega)) (cf2 11 (by decide) (by decide))
      have h132 : H2 64 13 = 0 := by rw [e, cf2 13 (by decide) (by decide)]; exact h131
      have hf2R : frm (insR S q0 l0) H0 H2 := by rw [e]; exact frm_tr h.fh (frm_mono (frm_tr hf2 fE) (insE_R hq.1))
      have hkd2 := (rT_k hT2).1
      have hkk := tkK_r (tb L r) (tkQ (tb L r) t1)
      have h112 := hT2.2.1
      refine lt_83 (by omega) (by omega) (by rw [hkd2]; omega) (fun y => absurd y (by omega)) (fun _ y => ?_) (fun _ y => ?_)
      · rw [hkd2] at y
        exact lt_bad140 (BdR_next (BdR_fail (by decide) (cmp_bad hc h hb nop y) hT2 h132 hf2R)) hB
      · rw [hkd2] at y
        obtain ⟨m1, m2⟩ := cmp_mid hc hk hS h ht1 hb rfl y
        by_cases z6 : t1 = 600
        · rw [nx_end h112 z6]
          exact lt_bad140 (BdR_fail (by decide) (m1 z6) hT2 h132 hf2R) hB
        · obtain ⟨s2, n1, hm⟩ := m2 (by omega)
          rw [← e] at hm
          rw [nx_go h112 (by omega), hkd2, hm.r39, w32_i (by omega) (by omega)]
          have hbas : ∀ i, i < shW sh + 1 → crk (s2 19 i) ≤ 3 := by
            intro i hi
            by_cases z : i = shW sh
            · rw [z, hm.top, crk_v, if_neg (by have := km_d (tkK (tb L r) (tkQ (tb L r) t1)); omega), if_neg (by have := km_d (tkK (tb L r) (tkQ (tb L r) t1)); omega), if_pos (by have := km_d (tkK (tb L r) (tkQ (tb L r) t1)); omega)]; decide
            · rw [hm.bas i (by omega)]
              rcases hwr i (by omega) with e | e <;> rw [e] <;> decide
          have hp2 := hm.hp
          have hq2 := hm.hq
          have fH2 := hm.fh
          refine lt_140 (R := XR c L r F K S k (P + n1) (qq + n1) (shW sh + 1) s2 (gs H2 64 11 ((t1 + 1 : Nat) : Int)) (t1 + 1)) (fun Q' hQ' => ?_) (fun H3 hR3 => ?_)
          · exact sp_expr (q := q + 1) (fun _ hk => hk) hc hk hS (by omega) hbas (Or.inr rfl) hm.sm (fun q => absurd q (by decide)) hm.c12 hm.c13 hm.c10 (by rw [hm.r39]; congr 1; omega) hm.w5 hm.d0 hm.ro (by omega) (by omega) hQ'
          · rcases hR3 with hb5 | ⟨t3, n3, m3, s3, H5, ht3, hb5, nop3, e3⟩
            · have hb6 := BdR_of (S := S) (q0 := q0) (l0 := l0) (H0 := H0) (frm_gs hf2R (k := 64) (i := 11) (v := ((t1 + 1 : Nat) : Int)) (insR_64 (by decide))) (by omega) hb5
              exact lt_144b hb6.1.1 (hB _ hb6)
            · obtain ⟨qq', hLI⟩ := cmp_end (o := o) hc hk hS h y hm (by omega) ht3 hb5 nop3 ho
              rw [← e3, h.r39] at hLI
              obtain ⟨hSM5, hXI5, hc1, hc3, hg1, hg2, hc4⟩ := hb5
              have h605 := hSM5.2.2.2.1.2.2.2.1
              have hmm5 := XI_m hXI5
              have fE5 := cO_frm (q0 := qq + n1) (z := 0) hS m3 H5 (700 * S + (qq + n1) + n3) hXI5.cr (by omega) (by omega)
              obtain ⟨cg1, cg2⟩ := cO_fr (z := 0) m3 H5
              have f3 : frm (insE S (qq + n1)) (gs H2 64 11 ((t1 + 1 : Nat) : Int)) H3 := by rw [e3]; exact frm_tr hg2 fE5
              have x19 : H3 64 19 = (S : Int) := by
                rw [f3 64 19 (by unfold insE; omega), fH2 64 19 (by unfold insE; omega)]; exact h19
              have x85 : H3 85 S = (l : Int) := by
                rw [f3 85 S (by unfold insE; omega), fH2 85 S (by unfold insE; omega)]; exact h.r85
              have x13 : H3 64 13 = 0 := by rw [e3, cg2 13 (by decide) (by decide)]; exact hSM5.2.2.2.2
              refine lt_144 ?_ (by omega) (by rw [x19, st_nat, x85]; omega) (fun y => absurd y (by omega)) (fun _ => ?_)
              · rw [ho]; cases shO sh <;> decide
              · rw [stL_eq x19 hS x85 (by omega), h.r39]
                exact hQ _ _ _ _ _ (by omega) hLI
/-- the condition, from one literal to the next -/
theorem cond_loop (hc : c = 40 ∨ c = 52) (hk : k < 40) (hS : S ≤ 1) (h19 : H0 64 19 = (S : Int)) (hB : ∀ H', BdR F S q0 l0 H0 H' → Q none H') (hQ : ∀ (t' sh qq' l : Nat) (X : Int) (s' H' : mG), t < t' → LI c L r F K S k P0 q0 l0 s0 H0 t' sh qq' l X s' H' → ¬ (tkK (tb L r) (tkQ (tb L r) t') = 31 ∨ tkK (tb L r) (tkQ (tb L r) t') = 32) → Q none H') : ∀ N t1 sh P qq l o s H, 601 - t1 ≤ N → t ≤ t1 → CI c L r F K S k P0 q0 l0 s0 H0 t1 sh P qq l s H → o = (if shO sh = true then (1 : Int) else 0) → W2 o_X12 M_X12_condition (inN [64, 72, 73, 74, 75, 76, 77, 78, 79, 80, 81, 82, 83, 84, 85, 86, 87, 88, 89, 90, 91, 92, 93]) (q + 9) Q 4 [some (mR 69), some (mI o), some (mI 1)] [] H := by
  intro N
  induction N with
  | zero =>
    intro t1 sh P qq l o s H hN _ h _
    have := h.sm.2.2.2.1.2.2.2.1
    omega
  | succ N ih =>
    intro t1 sh P qq l o s H hN h0 h ho
    have hf := h.fh 64 19 (by unfold insR; omega)
    refine cd_4 (R := fun H' => BdR F S q0 l0 H0 H' ∨ ∃ (t' qq' : Nat) (X : Int) (s' : mG), t1 < t' ∧ LI c L r F K S k P0 q0 l0 s0 H0 t' sh qq' l X s' H') h.sm.2.2.2.2 (fun Q' hQ' => ?_) (fun H2 hR2 => ?_)
    · exact sp_lit (q := q + 1) (fun _ hk => hk) hc hk hS (by rw [hf]; exact h19) h ho (fun H' hb => hQ' H' (Or.inl hb)) (fun t' qq' X s' H' ht hL => hQ' H' (Or.inr ⟨t', qq', X, s', ht, hL⟩))
    · rcases hR2 with hb | ⟨t', qq', X, s', ht, hL⟩
      · have hp := hb.1.1
        exact cd_20 hb.2.2 (fun y => absurd y (by omega)) (fun y => absurd y (by omega)) (fun x _ => cd_4c (hB _ hb))
      · have hT := hL.sm.2.2.2.1
        have h13 := hL.sm.2.2.2.2
        have h11 := hT.2.1
        have h600 := hT.2.2.2.1
        have hkd := (rT_k hT).1
        refine cd_20 (by omega) (fun _ y => ?_) (fun _ y => ?_) (fun x y => cd_4c ?_)
        · rw [hkd] at y
          rcases li_next hc hk hL rfl (Or.inl y) with hb | ⟨s2, P2, sh2, e, hC⟩
          · have hp := hb.1.1
            exact cd_4b (by omega) (hB _ hb)
          · exact ih (t' + 1) sh2 P2 qq' (l + 1) 1 s2 _ (by omega) (by omega) hC (by rw [e, y]; rfl)
        · rw [hkd] at y
          rcases li_next hc hk hL rfl (Or.inr y) with hb | ⟨s2, P2, sh2, e, hC⟩
          · have hp := hb.1.1
            exact cd_4b (by omega) (hB _ hb)
          · exact ih (t' + 1) sh2 P2 qq' (l + 1) 0 s2 _ (by omega) (by omega) hC (by rw [e, y]; rfl)
        · rw [hkd] at y
          exact hQ _ _ _ _ _ _ _ (by omega) hL (fun q => y ⟨h13, q⟩)
theorem sp_cond {D : Nat → Bool} (hD : ∀ k, D k = false → inN [64, 72, 73, 74, 75, 76, 77, 78, 79, 80, 81, 82, 83, 84, 85, 86, 87, 88, 89, 90, 91, 92, 93] k = false) (hc : c = 40 ∨ c = 52) (hk : k < 40) (hS : S ≤ 1) (h19 : H0 64 19 = (S : Int)) (h : CI c L r F K S k P0 q0 l0 s0 H0 t 0 P qq l s H) (hB : ∀ H', BdR F S q0 l0 H0 H' → Q none H') (hQ : ∀ (t' sh qq' l : Nat) (X : Int) (s' H' : mG), t < t' → LI c L r F K S k P0 q0 l0 s0 H0 t' sh qq' l X s' H' → ¬ (tkK (tb L r) (tkQ (tb L r) t') = 31 ∨ tkK (tb L r) (tkQ (tb L r) t') = 32) → Q none H') : P2 D (q + 9) M_X12_condition [mR 69] H Q := by
  refine cd_0 hD ?_
  exact cond_loop (t := t) hc hk hS h19 hB hQ (601 - t) t 0 P qq l 1 s H (Nat.le_refl _) (Nat.le_refl t) h rfl
end LTX
