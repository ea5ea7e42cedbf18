/-! ===== behind a unit; the expression ===== -/
section EXB
variable {c : Nat} {L : Int} {r : Nat → Int} {F : mG} {K S k p0 q0 w0 : Nat} {s0 H0 : mG} {t n m d : Nat} {s H : mG}
theorem rl_base {x : Int} {w : Nat} {z : mG} (hb : ∀ i, i < w → crk (z 19 i) < x) : rl c x w z = z := by
  cases w with
  | zero => rfl
  | succ w => rw [rl_s, if_neg (by have := hb w (by omega); omega)]
theorem be_fol {x : Int} {A : mG} (hA : A 15 8 = 21) : f_X7_follow A x = if 4 ≤ crk x then 20 else if 0 < A 15 6 then (if x = 6 then 21 else -1) else if A 15 7 = 0 then (if crk x = 3 then 20 else -1) else f_X7_followLiteral A x := by rw [fol_21 hA, fB]
theorem stB_close (hc : c = 40 ∨ c = 52) (hk : k < 40) (hS : S ≤ 1) (hw0 : w0 ≤ 3) (h : BeU c L r F K S k p0 q0 w0 s0 H0 t s H n m d) (hk7 : tkK (tb L r) (tkQ (tb L r) t) = 7) (hd : 0 < d) {B : mG} (hB : cO 0 m H = B) :
    BdV F S q0 H0 (e_X12_next (gs (gs B 64 43 (w32 ((B 64 43) - 1))) 64 12 (w32 ((B 64 12) - 1)))) ∨ ∃ (s' : mG) (n' m' d' : Nat), BeU c L r F K S k p0 q0 w0 s0 H0 (t + 1) s' (e_X12_next (gs (gs B 64 43 (w32 ((B 64 43) - 1))) 64 12 (w32 ((B 64 12) - 1)))) n' m' d' := by
  obtain ⟨hSM, hXI, hb1, hb2, hf1, hf2, hb3⟩ := h
  have hmm := XI_m hXI
  obtain ⟨hcs, hF, hX8, hT, h13⟩ := hSM
  have h600 := hT.2.2.2.1
  have hA8 : ∀ A : mG, (∀ k, k ≠ 20 → A k = s k) → A 15 8 = 21 := fun A hA => by rw [hA 15 (by decide)]; exact hX8
  have hA6 : ∀ A : mG, (∀ k, k ≠ 20 → A k = s k) → A 15 6 = (d : Int) := fun A hA => by rw [hA 15 (by decide)]; exact hXI.dl
  obtain ⟨t1, t2, t3, t4, _⟩ := turn (fo := 21) hc ⟨hcs, hF, hX8, hT, h13⟩ (by omega) hk7 (fun A hA => by rw [show km 7 = 6 from by decide, be_fol (hA8 A hA), if_neg (by decide), if_pos (by rw [hA6 A hA]; omega), if_pos rfl])
  obtain ⟨cf1, cf2⟩ := cO_fr (z := 0) m H
  -- the release on both sides, from any heap like s
  have key : ∀ A : mG, (∀ k, k ≠ 20 → A k = s k) → ∃ (n' j e : Nat) (s2 : mG), d = e + 1 ∧ n ≤ n' ∧ n' + (j + 1 - d) = n + (m - d) ∧ j + 1 ≤ m ∧ e_X7_release c A 1 = s2 ∧ XI c S k p0 q0 w0 n' (j + 1) (e + 1) 1 s2 B ∧ B 93 j = 6 ∧ frm (insX c k p0) A s2 ∧ frm (insE S q0) H B ∧ (∀ i, i < w0 → s2 19 i = A 19 i) := by
    intro A hA
    have hXA := XI_A hXI hA hc
    obtain ⟨n', m', s2, i1, i2, i3, i4, i5, i6, i7, i8, i9, i10⟩ := XI_rel (x := 1) (z := 0) hc hk (Or.inl ⟨rfl, by decide, by decide⟩) hS m n A H hXA (by omega) (by omega)
    rw [hB] at i5 i8
    have hm' := XI_m i5
    rcases i6 with z | ⟨z1, z2, z3⟩
    · omega
    · obtain ⟨j, rfl⟩ : ∃ j, m' = j + 1 := ⟨m' - 1, by omega⟩
      obtain ⟨e, rfl⟩ : ∃ e, d = e + 1 := ⟨d - 1, by omega⟩
      rw [show j + 1 - 1 = j from rfl] at z2
      refine ⟨n', j, e, s2, rfl, i3, i4, i2, ?_, i5, ?_, i7, i8, i9⟩
      · rw [release_rl hXA.wl (by omega), i1, z3]
      · rw [← hB, cf1 93 (by decide) (by decide) (by decide)]
        rcases z2 with q | q
        · exact q
        · exact absurd q.1 (by decide)
  obtain ⟨n', j, e, s2, rfl, k2, k3, k4, k5, k6, k7, k8, k9, k10⟩ := key s (fun _ _ => rfl)
  have e43 := k6.wr
  have e12 := k6.dr
  have d6 := k6.d6
  rw [e43, e12, show w32 (((j + 1 : Nat) : Int) - 1) = ((j : Nat) : Int) from by rw [w32_i (by omega) (by omega)]; omega, show w32 (((e + 1 : Nat) : Int) - 1) = ((e : Nat) : Int) from by rw [w32_i (by omega) (by omega)]; omega]
  have hBr : ∀ k, k ≠ 64 → k ≠ 91 → k ≠ 92 → B k = H k := fun k h1 h2 h3 => by rw [← hB]; exact cf1 k h1 h2 h3
  have hB64 : ∀ i, i ≠ 39 → i ≠ 43 → B 64 i = H 64 i := fun i h1 h2 => by rw [← hB]; exact cf2 i h1 h2
  have hT1 : rT (tb L r) K t (gs (gs B 64 43 ((j : Nat) : Int)) 64 12 ((e : Nat) : Int)) := rT_to hT (fun k _ _ => by rw [gs_ne (by omega), gs_ne (by omega)]; exact hBr k (by omega) (by omega) (by omega)) (by rw [gs_at_ne (by decide), gs_at_ne (by decide)]; exact hB64 11 (by decide) (by decide))
  have h131 : (gs (gs B 64 43 ((j : Nat) : Int)) 64 12 ((e : Nat) : Int)) 64 13 = 0 := by rw [gs_at_ne (by decide), gs_at_ne (by decide), hB64 13 (by decide) (by decide)]; exact h13
  have hf3 : frm (insE S q0) H0 (gs (gs B 64 43 ((j : Nat) : Int)) 64 12 ((e : Nat) : Int)) := frm_gs (frm_gs (frm_tr hf2 k9) (insE_64 (by decide))) (insE_64 (by decide))
  by_cases z6 : t = 600
  · rw [nx_end hT1.2.1 z6]
    obtain ⟨x1, x2, x3, x4, x5, _⟩ := fx_fail (gs (gs B 64 43 ((j : Nat) : Int)) 64 12 ((e : Nat) : Int)) 2
    refine Or.inl ⟨BdU_of (by decide) (t2 (by decide) (by decide) z6) hT1 h131 hf3, ?_, j, 700 * S + q0 + n', ?_, by omega, ?_, by omega, by omega⟩
    · rw [x2, gs_at]; omega
    · rw [x5, gs_at_ne (by decide), gs_at]
    · rw [x4, gs_at_ne (by decide), gs_at_ne (by decide)]; exact k6.cr
  · rw [nx_go hT1.2.1 (by omega)]
    obtain ⟨A, b1, b2, b3, b4, b5, b6⟩ := t4 (by decide) (by decide) (by omega) (fun A hA => by rw [rom_c (by rw [hA8 A hA]; decide) (by rw [hA8 A hA]; decide), if_neg (fun q => absurd q.1 (by decide))])
    obtain ⟨n2, j2, e2, s3, l1, l2, l3, l4, l5, l6, l7, l8, l9, l10⟩ := key A b1
    have ee : e2 = e := by omega
    subst ee
    have ej : j2 = j := by
      have q1 := l6.wr
      rw [e43] at q1
      omega
    subst ej
    have e55 := l6.wl
    have e66 := l6.dl
    have en : gs (e_X7_note c A (km 7)) 15 8 21 = gs (gs (gs s3 15 5 ((w0 + j2 : Nat) : Int)) 15 6 ((e2 : Nat) : Int)) 15 8 21 := by
      rw [note_21 (hA8 A b1), show km 7 = 6 from by decide, behind_close, l5, e55, e66, show w32 (((w0 + (j2 + 1) : Nat) : Int) - 1) = ((w0 + j2 : Nat) : Int) from by rw [w32_i (by omega) (by omega)]; omega, show w32 (((e2 + 1 : Nat) : Int) - 1) = ((e2 : Nat) : Int) from by rw [w32_i (by omega) (by omega)]; omega]
      unfold mMax
      by_cases y0 : (0 : Int) < ((w0 + j2 : Nat) : Int)
      · rw [if_pos y0]
      · rw [if_neg y0, show ((w0 + j2 : Nat) : Int) = 0 from by omega]
    rw [en] at b5 b6
    refine Or.inr ⟨_, n2, j2, e2, ⟨b5, b6, gs_at _ _ _ _, ?_, ?_⟩, XI_close hc l6 l7, by omega, by omega, ?_, frm_gs hf3 (insE_64 (by decide)), ?_⟩
    · exact rT_nx hT1 (by omega) (by omega) (fun k _ _ => gs_ne (by omega)) (gs_at _ _ _ _)
    · rw [gs_at_ne (by decide)]; exact h131
    · exact frm_gs (frm_gs (frm_gs (frm_tr (frX_A hf1 b1) l8) (Or.inr (Or.inr (Or.inl ⟨rfl, Or.inl rfl⟩)))) (Or.inr (Or.inr (Or.inl ⟨rfl, Or.inr (Or.inl rfl)⟩)))) (Or.inr (Or.inr (Or.inl ⟨rfl, Or.inr (Or.inr rfl)⟩)))
    · intro i hi
      rw [gs_ne (by decide), gs_ne (by decide), gs_ne (by decide), l10 i hi, b1 19 (by decide)]
      exact hb3 i hi
theorem stB_op (hc : c = 40 ∨ c = 52) (hk : k < 40) (hS : S ≤ 1) (hw0 : w0 ≤ 3) (hbs : ∀ i, i < w0 → crk (s0 19 i) ≤ 3) (h : BeU c L r F K S k p0 q0 w0 s0 H0 t s H n m d) {kd z : Int} (hkd : tkK (tb L r) (tkQ (tb L r) t) = kd) (hk8 : kd = 8 ∨ kd = 9 ∨ kd = 10) (hz : z = 0 ∧ ¬ kd = 10 ∨ z = 1 ∧ kd = 10) {B : mG} (hB : cO z m H = B) :
    BdU F S q0 H0 (e_X12_next (gs (gs B 93 (Int.toNat (B 64 43)) kd) 64 43 (w32 ((B 64 43) + 1)))) ∨ ∃ s', AtU c L r F K S k p0 q0 w0 s0 H0 (t + 1) s' (e_X12_next (gs (gs B 93 (Int.toNat (B 64 43)) kd) 64 43 (w32 ((B 64 43) + 1)))) := by
  obtain ⟨hSM, hXI, hb1, hb2, hf1, hf2, hb3⟩ := h
  have hmm := XI_m hXI
  obtain ⟨hcs, hF, hX8, hT, h13⟩ := hSM
  have h600 := hT.2.2.2.1
  have hA8 : ∀ A : mG, (∀ k, k ≠ 20 → A k = s k) → A 15 8 = 21 := fun A hA => by rw [hA 15 (by decide)]; exact hX8
  have hkm : (kd = 8 ∧ km kd = 7) ∨ (kd = 9 ∧ km kd = 8) ∨ (kd = 10 ∧ km kd = 9) := by
    rcases hk8 with e | e | e
    · exact Or.inl ⟨e, by rw [e]; decide⟩
    · exact Or.inr (Or.inl ⟨e, by rw [e]; decide⟩)
    · exact Or.inr (Or.inr ⟨e, by rw [e]; decide⟩)
  have hcr : (kd = 10 ∧ crk (km kd) = 5) ∨ (¬ kd = 10 ∧ crk (km kd) = 4) := by
    rcases hk8 with e | e | e
    · exact Or.inr ⟨by omega, by rw [e]; decide⟩
    · exact Or.inr ⟨by omega, by rw [e]; decide⟩
    · exact Or.inl ⟨e, by rw [e]; decide⟩
  obtain ⟨t1, t2, t3, t4, _⟩ := turn (fo := 20) hc ⟨hcs, hF, hX8, hT, h13⟩ (by omega) hkd (fun A hA => by rw [be_fol (hA8 A hA), if_pos (by omega)])
  obtain ⟨cf1, cf2⟩ := cO_fr (z := z) m H
  have key : ∀ A : mG, (∀ k, k ≠ 20 → A k = s k) → ∃ (n' m' : Nat) (s2 : mG), n ≤ n' ∧ n' + (m' - d) = n + (m - d) ∧ m' ≤ m ∧ e_X7_release c A (crk (km kd)) = s2 ∧ XI c S k p0 q0 w0 n' m' d 1 s2 B ∧ (m' = 0 ∨ (0 < m' ∧ (B 93 (m' - 1) = 6 ∨ (kd = 10 ∧ ¬ B 93 (m' - 1) = 10)))) ∧ frm (insX c k p0) A s2 ∧ frm (insE S q0) H B ∧ (∀ i, i < w0 → s2 19 i = A 19 i) := by
    intro A hA
    have hXA := XI_A hXI hA hc
    obtain ⟨n', m', s2, i1, i2, i3, i4, i5, i6, i7, i8, i9, i10⟩ := XI_rel (x := crk (km kd)) (z := z) hc hk (by omega) hS m n A H hXA (by omega) (by omega)
    rw [hB] at i5 i8
    have h93 : B 93 = H 93 := by rw [← hB]; exact cf1 93 (by decide) (by decide) (by decide)
    have hrl : rl c (crk (km kd)) (w0 + m') s2 = s2 := by
      rcases i6 with q | ⟨_, _, q⟩
      · rw [q]
        exact rl_base (fun i hi => by have q1 := hbs i hi; rw [i9 i hi, hA 19 (by decide), hb3 i hi]; omega)
      · exact q
    refine ⟨n', m', s2, i3, i4, i2, ?_, i5, ?_, i7, i8, i9⟩
    · rw [release_rl hXA.wl (by omega), i1, hrl]
    · rw [h93]
      rcases i6 with q | ⟨q1, q2, _⟩
      · exact Or.inl q
      · refine Or.inr ⟨q1, ?_⟩
        rcases q2 with q | q
        · exact Or.inl q
        · exact Or.inr ⟨by omega, q.2⟩
  obtain ⟨n', m', s2, k2, k3, k4, k5, k6, k7, k8, k9, k10⟩ := key s (fun _ _ => rfl)
  have e43 := k6.wr
  have d6 := k6.d6
  rw [e43, st_nat, w32_nat (by omega)]
  have hBr : ∀ k, k ≠ 64 → k ≠ 91 → k ≠ 92 → B k = H k := fun k h1 h2 h3 => by rw [← hB]; exact cf1 k h1 h2 h3
  have hB64 : ∀ i, i ≠ 39 → i ≠ 43 → B 64 i = H 64 i := fun i h1 h2 => by rw [← hB]; exact cf2 i h1 h2
  have hT1 : rT (tb L r) K t (gs (gs B 93 m' kd) 64 43 ((m' + 1 : Nat) : Int)) := rT_to hT (fun k _ _ => by rw [gs_ne (by omega), gs_ne (by omega)]; exact hBr k (by omega) (by omega) (by omega)) (by rw [gs_at_ne (by decide), gs_ne (by decide)]; exact hB64 11 (by decide) (by decide))
  have h131 : (gs (gs B 93 m' kd) 64 43 ((m' + 1 : Nat) : Int)) 64 13 = 0 := by rw [gs_at_ne (by decide), gs_ne (by decide), hB64 13 (by decide) (by decide)]; exact h13
  have hf3 : frm (insE S q0) H0 (gs (gs B 93 m' kd) 64 43 ((m' + 1 : Nat) : Int)) := frm_gs (frm_gs (frm_tr hf2 k9) (Or.inr (Or.inl rfl))) (insE_64 (by decide))
  by_cases z6 : t = 600
  · rw [nx_end hT1.2.1 z6]
    exact Or.inl (BdU_of (by decide) (t2 (by decide) (by decide) z6) hT1 h131 hf3)
  · rw [nx_go hT1.2.1 (by omega)]
    obtain ⟨A, b1, b2, b3, b4, b5, b6⟩ := t4 (by decide) (by omega) (by omega) (fun A hA => by rw [rom_c (by rw [hA8 A hA]; decide) (by rw [hA8 A hA]; decide), if_neg (fun q => absurd q.1 (by omega))])
    obtain ⟨n2, m2, s3, l2, l3, l4, l5, l6, l7, l8, l9, l10⟩ := key A b1
    have ej : m2 = m' := by
      have q1 := l6.wr
      rw [e43] at q1
      omega
    subst ej
    have hmm2 := XI_m l6
    have en : gs (e_X7_note c A (km kd)) 15 8 20 = gs (gs (gs s3 19 (w0 + m2) (km kd)) 15 5 ((w0 + m2 + 1 : Nat) : Int)) 15 8 20 := by
      rw [note_21 (hA8 A b1), behind_op (by omega), l5, hold_eq l6.wl (by omega)]
    rw [en] at b5 b6
    refine Or.inr ⟨_, n2, m2 + 1, d, 20, Or.inr rfl, ⟨b5, b6, gs_at _ _ _ _, ?_, ?_⟩, fun q => absurd q (by decide), XI_hold hc l6 hk8 l7, by omega, by omega, ?_, frm_gs hf3 (insE_64 (by decide)), ?_⟩
    · exact rT_nx hT1 (by omega) (by omega) (fun k _ _ => gs_ne (by omega)) (gs_at _ _ _ _)
    · rw [gs_at_ne (by decide)]; exact h131
    · exact frm_gs (frm_gs (frm_gs (frm_tr (frX_A hf1 b1) l8) (Or.inr (Or.inl rfl))) (Or.inr (Or.inr (Or.inl ⟨rfl, Or.inl rfl⟩)))) (Or.inr (Or.inr (Or.inl ⟨rfl, Or.inr (Or.inr rfl)⟩)))
    · intro i hi
      rw [gs_ne (by decide), gs_ne (by decide), gs_at_ne (by omega), l10 i hi, b1 19 (by decide)]
      exact hb3 i hi
/-- brackets are open, and what comes isn't theirs -/
theorem stB_bad (hc : c = 40 ∨ c = 52) (hS : S ≤ 1) (h : BeU c L r F K S k p0 q0 w0 s0 H0 t s H n m d) (hk7 : ¬ tkK (tb L r) (tkQ (tb L r) t) = 7) (hk8 : ¬ (tkK (tb L r) (tkQ (tb L r) t) = 8 ∨ tkK (tb L r) (tkQ (tb L r) t) = 9 ∨ tkK (tb L r) (tkQ (tb L r) t) = 10)) (hd : 0 < d) : BdU F S q0 H0 (cO 0 m (e_X12_fail H 1)) := by
  obtain ⟨hSM, hXI, hb1, hb2, hf1, hf2, hb3⟩ := h
  have hmm := XI_m hXI
  obtain ⟨hcs, hF, hX8, hT, h13⟩ := hSM
  have h600 := hT.2.2.2.1
  have hkk := tkK_r (tb L r) (tkQ (tb L r) t)
  have kk := km_d (tkK (tb L r) (tkQ (tb L r) t))
  have k6 : ¬ km (tkK (tb L r) (tkQ (tb L r) t)) = 6 := by omega
  have k78 : ¬ (km (tkK (tb L r) (tkQ (tb L r) t)) = 7 ∨ km (tkK (tb L r) (tkQ (tb L r) t)) = 8) := by omega
  have k9 : ¬ km (tkK (tb L r) (tkQ (tb L r) t)) = 9 := by omega
  clear kk
  have hA8 : ∀ A : mG, (∀ k, k ≠ 20 → A k = s k) → A 15 8 = 21 := fun A hA => by rw [hA 15 (by decide)]; exact hX8
  have hA6 : ∀ A : mG, (∀ k, k ≠ 20 → A k = s k) → A 15 6 = (d : Int) := fun A hA => by rw [hA 15 (by decide)]; exact hXI.dl
  have hcr : ¬ 4 ≤ crk (km (tkK (tb L r) (tkQ (tb L r) t))) := by
    rw [crk_v, if_neg k78, if_neg k9]
    by_cases y1 : 10 ≤ km (tkK (tb L r) (tkQ (tb L r) t)) ∧ km (tkK (tb L r) (tkQ (tb L r) t)) ≤ 13
    · rw [if_pos y1]; decide
    · rw [if_neg y1]
      by_cases y2 : km (tkK (tb L r) (tkQ (tb L r) t)) = 25
      · rw [if_pos y2]; decide
      · rw [if_neg y2]
        by_cases y3 : km (tkK (tb L r) (tkQ (tb L r) t)) = 26
        · rw [if_pos y3]; decide
        · rw [if_neg y3]; decide
  obtain ⟨t1, _⟩ := turn (fo := -1) hc ⟨hcs, hF, hX8, hT, h13⟩ (by omega) rfl (fun A hA => by rw [be_fol (hA8 A hA), if_neg hcr, if_pos (by rw [hA6 A hA]; omega), if_neg k6])
  have hb := BdU_of (by decide) (t1 rfl) hT h13 hf2
  obtain ⟨x1, x2, x3, x4, x5, _⟩ := fx_fail H 1
  have hf4 := cO_frm (q0 := q0) (z := 0) hS m (e_X12_fail H 1) (700 * S + q0 + n) (by rw [x4]; exact hXI.cr) (by omega) (by omega)
  obtain ⟨cf1, cf2⟩ := cO_fr (z := 0) m (e_X12_fail H 1)
  obtain ⟨u1, u2, u3, u4⟩ := hb
  exact ⟨Bad_to u1 (cf2 13 (by decide) (by decide)) (cf2 14 (by decide) (by decide)), frm_tr u2 hf4, by rw [cf2 11 (by decide) (by decide)]; exact u3, by rw [cf2 11 (by decide) (by decide)]; exact u4⟩
end EXB
