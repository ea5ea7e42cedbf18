/-! ===== wip/whole/gen79.py: the expression, walked ===== -/
section EXW
variable {c : Nat} {L : Int} {r : Nat → Int} {F : mG} {K S k p0 q0 w0 t0 q : Nat} {s0 H0 : mG} {Q : Option mV → mG → Prop}
theorem ex_bad12 {B : Int} {H : mG} (hQ : ∀ H', XR c L r F K S k p0 q0 w0 s0 H0 t0 H' → Q none H') (h : BdU F S q0 H0 H) : W2 o_X12 M_X12_expression (inN [64, 72, 73, 74, 75, 76, 77, 78, 79, 80, 81, 82, 83, 84, 85, 86, 87, 88, 89, 90, 91, 92, 93]) (q + 5) Q 12 [some (mR 69), some (mI B), some (mI 1), none, none] [] H := by
  have := h.1.1
  exact ex_12b (by omega) (hQ H (Or.inl h))
theorem ex_bad200 {H : mG} (hS : S ≤ 1) (hQ : ∀ H', XR c L r F K S k p0 q0 w0 s0 H0 t0 H' → Q none H') (h : BdV F S q0 H0 H) : W2 o_X12 M_X12_expression (inN [64, 72, 73, 74, 75, 76, 77, 78, 79, 80, 81, 82, 83, 84, 85, 86, 87, 88, 89, 90, 91, 92, 93]) (q + 5) Q 200 [some (mR 69), some (mI 0), none, none, none] [] H := by
  obtain ⟨hb, ho, m, P, h1, h2, h3, h4, h5⟩ := h
  obtain ⟨u1, u2, u3, u4⟩ := hb
  have hp := u1.1
  have hr : XR c L r F K S k p0 q0 w0 s0 H0 t0 (cO 0 m H) := by
    have hf4 := cO_frm (q0 := q0) (z := 0) hS m H P h3 h4 (by omega)
    obtain ⟨cf1, cf2⟩ := cO_fr (z := 0) m H
    exact Or.inl ⟨Bad_to u1 (cf2 13 (by decide) (by decide)) (cf2 14 (by decide) (by decide)), frm_tr u2 hf4, by rw [cf2 11 (by decide) (by decide)]; exact u3, by rw [cf2 11 (by decide) (by decide)]; exact u4⟩
  refine ex_200 (m := m) ⟨u3, u4⟩ (by omega) h1 h2 (fun z _ => by have := cO_43 (z := z) m H h1; omega) (by omega) ho (fun y => absurd y (by omega)) (fun _ _ _ => ?_) (fun _ _ _ => hQ _ hr) (fun z _ y => absurd y (by omega))
  rw [fail_bad hp]
  exact hQ _ hr
theorem expr_loop (hc : c = 40 ∨ c = 52) (hk : k < 40) (hS : S ≤ 1) (hw0 : w0 ≤ 3) (hbs : ∀ i, i < w0 → crk (s0 19 i) ≤ 3) (hQ : ∀ H', XR c L r F K S k p0 q0 w0 s0 H0 t0 H' → Q none H') : ∀ N : Nat,
    (∀ (t : Nat) (s H : mG), 601 - t ≤ N → t0 ≤ t → AtU c L r F K S k p0 q0 w0 s0 H0 t s H → W2 o_X12 M_X12_expression (inN [64, 72, 73, 74, 75, 76, 77, 78, 79, 80, 81, 82, 83, 84, 85, 86, 87, 88, 89, 90, 91, 92, 93]) (q + 5) Q 12 [some (mR 69), some (mI 0), some (mI 1), none, none] [] H) ∧ (∀ (t n m d : Nat) (s H : mG), 601 - t ≤ N → t0 < t → BeU c L r F K S k p0 q0 w0 s0 H0 t s H n m d → W2 o_X12 M_X12_expression (inN [64, 72, 73, 74, 75, 76, 77, 78, 79, 80, 81, 82, 83, 84, 85, 86, 87, 88, 89, 90, 91, 92, 93]) (q + 5) Q 200 [some (mR 69), some (mI 0), none, none, none] [] H) := by
  intro N
  induction N with
  | zero =>
    refine ⟨fun t s H hN _ h => ?_, fun t n m d s H hN _ h => ?_⟩
    · obtain ⟨n, m, d, X, _, hSM, _⟩ := h
      have := hSM.2.2.2.1.2.2.2.1
      omega
    · have := h.1.2.2.2.1.2.2.2.1
      omega
  | succ N ih =>
    obtain ⟨ihA, ihB⟩ := ih
    refine ⟨fun t s H hN h0 h => ?_, fun t n m d s H hN h0 h => ?_⟩
    · have h2 := h
      obtain ⟨n, m, d, X, hX, hSM, h33, hXI, hb1, hb2, _⟩ := h2
      have hmm := XI_m hXI
      have hT := hSM.2.2.2.1
      have h11 := hT.2.1
      have h600 := hT.2.2.2.1
      have hkd := (rT_k hT).1
      have hvv := (rT_k hT).2.2.1
      have e43 := hXI.wr
      have e39 := hXI.cr
      have e12 := hXI.dr
      have d6 := hXI.d6
      refine ex_12 hSM.2.2.2.2 (by omega) (by omega) (by omega) (by omega) (fun y1 y2 => ?_) (fun y1 y2 => ?_) (fun y1 y2 y3 => ?_) (fun y1 => ?_) (fun y1 => ?_)
      · rw [hkd] at y1
        exact hQ _ (Or.inl ((stA_open hc hS hw0 h y1).1 y2))
      · rw [hkd] at y1
        rcases (stA_open hc hS hw0 h y1).2 y2 _ rfl with z | ⟨s', z⟩
        · exact ex_bad12 hQ z
        · exact ihA (t + 1) s' _ (by omega) (by omega) z
      · rw [hkd] at y1 y2 y3
        exact hQ _ (Or.inl (stA_bad hc h y1 y2 y3))
      · rw [hkd] at y1
        rw [hkd, w32_i (by omega) (by omega)]
        rcases stA_unit (k1 := 1) (v := tkK (tb L r) (tkQ (tb L r) t) - 34) hc hk hS h (Or.inr ⟨y1.1, y1.2, rfl, rfl⟩) with z | ⟨s', n', m', d', z⟩
        · exact ex_bad200 hS hQ z
        · exact ihB (t + 1) n' m' d' s' _ (by omega) (by omega) z
      · rw [hkd] at y1
        rw [hvv y1]
        rcases stA_unit (k1 := 0) (v := tkV (tb L r) (tkQ (tb L r) t)) hc hk hS h (Or.inl ⟨y1, rfl, rfl⟩) with z | ⟨s', n', m', d', z⟩
        · exact ex_bad200 hS hQ z
        · exact ihB (t + 1) n' m' d' s' _ (by omega) (by omega) z
    · have h2 := h
      obtain ⟨hSM, hXI, hb1, hb2, _⟩ := h2
      have hmm := XI_m hXI
      have hT := hSM.2.2.2.1
      have h11 := hT.2.1
      have h600 := hT.2.2.2.1
      have hkd := (rT_k hT).1
      have h13 := hSM.2.2.2.2
      have e43 := hXI.wr
      have e39 := hXI.cr
      have e12 := hXI.dr
      have d6 := hXI.d6
      refine ex_200 (m := m) (by omega) (by omega) e43 (by omega) (fun z _ => by have := cO_43 (z := z) m H e43; omega) (by omega) (by omega) (fun _ y1 y2 A hA => ?_) (fun y1 y2 y3 => ?_) (fun y1 y2 y3 => ?_) (fun z y1 _ y2 y3 A hA => ?_)
      · rw [hkd] at y1
        rcases stB_close hc hk hS hw0 h y1 (by omega) hA with z | ⟨s', n', m', d', z⟩
        · exact ex_bad200 hS hQ z
        · exact ihB (t + 1) n' m' d' s' _ (by omega) (by omega) z
      · rw [hkd] at y1 y2
        exact hQ _ (Or.inl (stB_bad hc hS h (fun q => y1 ⟨h13, q, y3⟩) (fun q => y2 ⟨h13, q⟩) (by omega)))
      · rw [hkd] at y2
        have hd : d = 0 := by omega
        subst hd
        exact hQ _ (Or.inr ⟨t, n, m, s, H, by omega, h, fun q => y2 ⟨h13, q⟩, rfl⟩)
      · rw [hkd] at y2 y3
        rw [hkd]
        rcases stB_op hc hk hS hw0 hbs h rfl y2 y3 hA with z | ⟨s', z⟩
        · exact ex_bad12 hQ z
        · exact ihA (t + 1) s' _ (by omega) (by omega) z
/-- the reference's expression against the class's turns -/
theorem sp_expr {D : Nat → Bool} {t : Nat} {s H : mG} {X : Int} (hD : ∀ k, D k = false → inN [64, 72, 73, 74, 75, 76, 77, 78, 79, 80, 81, 82, 83, 84, 85, 86, 87, 88, 89, 90, 91, 92, 93] k = false) (hc : c = 40 ∨ c = 52) (hk : k < 40) (hS : S ≤ 1) (hw0 : w0 ≤ 3) (hbs : ∀ i, i < w0 → crk (s 19 i) ≤ 3) (hX : X = 17 ∨ X = 20) (hSM : SM c L r F K t X s H) (h33 : X = 17 → ¬ tkK (tb L r) (tkQ (tb L r) t) = 33) (h12 : s c 12 = ((k + 1 : Nat) : Int)) (h13 : s c 13 = (p0 : Int)) (h10 : s (c + 10) k = (p0 : Int)) (h39 : H 64 39 = ((700 * S + q0 : Nat) : Int)) (h5 : s 15 5 = (w0 : Int)) (h6 : s 15 6 = 0) (ho : H 64 12 = 0) (hp : p0 + w0 ≤ t) (hq : q0 ≤ t) (hQ : ∀ H', XR c L r F K S k p0 q0 w0 s H t H' → Q none H') : P2 D (q + 5) M_X12_expression [mR 69] H Q := by
  refine ex_0 hD ?_
  rw [ho]
  obtain ⟨hcs, hF, hX8, hT, hf⟩ := hSM
  refine (expr_loop hc hk hS hw0 hbs hQ (601 - t)).1 t s _ (Nat.le_refl _) (Nat.le_refl t) ⟨0, 0, 0, X, hX, ⟨hcs, hF, hX8, rT_to hT (fun k _ _ => gs_ne (by omega)) (gs_at_ne (by decide)), by rw [gs_at_ne (by decide)]; exact hf⟩, h33, ?_, by omega, by omega, frm_rf, frm_gs frm_rf (insE_64 (by decide)), fun _ _ => rfl⟩
  refine ⟨h12, h13, h10, by rw [gs_at_ne (by decide)]; exact h39, fun i hi => absurd hi (by omega), h5, gs_at _ _ _ _, fun i hi => absurd hi (by omega), h6, by rw [gs_at_ne (by decide)]; exact ho, by omega, rfl, fun i hi => ?_, fun va => ⟨[], rfl, rfl⟩, fun va i hi => ?_⟩
  · rw [show i = 0 from by omega]; exact Nat.zero_le _
  · rw [show i = 0 from by omega]; exact ⟨[], rfl, by decide⟩
end EXW
