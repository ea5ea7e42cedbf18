/-! ===== the expression's loops ===== -/
/-- both stopped in an expression -/
def BdU (F : mG) (S q0 : Nat) (H0 H : mG) : Prop := Bad F H ∧ frm (insE S q0) H0 H ∧ 0 ≤ H 64 11 ∧ H 64 11 ≤ 600
def BdV (F : mG) (S q0 : Nat) (H0 H : mG) : Prop := BdU F S q0 H0 H ∧ (0 ≤ H 64 12 ∧ H 64 12 ≤ 6) ∧ ∃ m P : Nat, H 64 43 = (m : Int) ∧ m ≤ 46 ∧ H 64 39 = (P : Int) ∧ 700 * S + q0 ≤ P ∧ P + m < 700 * S + 700
/-- both before a unit -/
def AtU (c : Nat) (L : Int) (r : Nat → Int) (F : mG) (K S k p0 q0 w0 : Nat) (s0 H0 : mG) (t : Nat) (s H : mG) : Prop :=
  ∃ (n m d : Nat) (X : Int), (X = 17 ∨ X = 20) ∧ SM c L r F K t X s H ∧ (X = 17 → ¬ tkK (tb L r) (tkQ (tb L r) t) = 33) ∧ XI c S k p0 q0 w0 n m d 0 s H ∧ p0 + n + (m - d) + w0 ≤ t ∧ q0 + n + (m - d) ≤ t ∧ frm (insX c k p0) s0 s ∧ frm (insE S q0) H0 H ∧ (∀ i, i < w0 → s 19 i = s0 19 i)
/-- both behind a unit -/
def BeU (c : Nat) (L : Int) (r : Nat → Int) (F : mG) (K S k p0 q0 w0 : Nat) (s0 H0 : mG) (t : Nat) (s H : mG) (n m d : Nat) : Prop :=
  SM c L r F K t 21 s H ∧ XI c S k p0 q0 w0 n m d 1 s H ∧ p0 + n + (m - d) + w0 ≤ t ∧ q0 + n + (m - d) ≤ t ∧ frm (insX c k p0) s0 s ∧ frm (insE S q0) H0 H ∧ (∀ i, i < w0 → s 19 i = s0 19 i)
/-- what is behind an expression -/
def XR (c : Nat) (L : Int) (r : Nat → Int) (F : mG) (K S k p0 q0 w0 : Nat) (s0 H0 : mG) (t0 : Nat) (H' : mG) : Prop :=
  BdU F S q0 H0 H' ∨ ∃ (t n m : Nat) (s H : mG), t0 < t ∧ BeU c L r F K S k p0 q0 w0 s0 H0 t s H n m 0 ∧ ¬ (tkK (tb L r) (tkQ (tb L r) t) = 8 ∨ tkK (tb L r) (tkQ (tb L r) t) = 9 ∨ tkK (tb L r) (tkQ (tb L r) t) = 10) ∧ H' = cO 0 m H
section EXL
variable {c : Nat} {L : Int} {r : Nat → Int} {F : mG} {K S k p0 q0 w0 : Nat} {s0 H0 : mG} {t : Nat} {s H : mG}
theorem frX_A {A : mG} (h : frm (insX c k p0) s0 s) (hA : ∀ k, k ≠ 20 → A k = s k) : frm (insX c k p0) s0 A := frm_tr h (frm_row hA (fun _ => Or.inl rfl))
theorem BdU_of {e : Int} (he : 0 < e) (h1 : Sto (tb L r) F t e) (h2 : rT (tb L r) K t H) (h3 : H 64 13 = 0) (hf : frm (insE S q0) H0 H) : BdU F S q0 H0 (e_X12_fail H e) := by
  refine ⟨bad_fail he h1 h2 h3, ?_, ?_⟩
  · unfold e_X12_fail
    exact ite_P (P := fun x : mG => frm (insE S q0) H0 x) (frm_gs (frm_gs hf (insE_64 (by decide))) (insE_64 (by decide))) hf
  · have e1 := h2.2.1
    have e2 := h2.2.2.2.1
    rw [(fx_fail H e).1]
    omega
theorem BdU_gs {a i : Nat} {v : Int} (h : BdU F S q0 H0 H) (hi : insE S q0 a i) (h64 : ¬ (a = 64 ∧ (i = 11 ∨ i = 13 ∨ i = 14))) : BdU F S q0 H0 (gs H a i v) := by
  obtain ⟨h1, h2, h3, h4⟩ := h
  have key : ∀ j, (j = 11 ∨ j = 13 ∨ j = 14) → (gs H a i v) 64 j = H 64 j := by
    intro j hj
    by_cases y : 64 = a
    · subst y
      exact gs_at_ne (by omega)
    · rw [gs_ne y]
  exact ⟨Bad_to h1 (key 13 (by decide)) (key 14 (by decide)), frm_gs h2 hi, by rw [key 11 (by decide)]; exact h3, by rw [key 11 (by decide)]; exact h4⟩
theorem tkV_r {b : Nat → Int} {q : Nat} (hb : b = tb L r) (h : tkK b q = 2) : 0 ≤ tkV b q ∧ tkV b q ≤ 9999 := by
  subst hb
  have h2 : wk (tkN (tb L r) q) = 1 ∨ (20 ≤ wk (tkN (tb L r) q) ∧ wk (tkN (tb L r) q) ≤ 39) := by rcases wk_at (x := tkN (tb L r) q) with ⟨e, _⟩ | ⟨i, _, _, e⟩ <;> omega
  have h3 := sgK_r (x := tb L r q) (y := tb L r (q + 1))
  have h4 : tkI (tb L r) q ≤ 4 := by
    unfold tkK at h
    by_cases z0 : tb L r q = -1
    · rw [if_pos z0] at h; omega
    · rw [if_neg z0] at h
      by_cases z1 : tcL (tb L r q) = true
      · rw [if_pos z1] at h
        by_cases z2 : 8 < tkW (tb L r) q
        · rw [if_pos z2] at h; omega
        · rw [if_neg z2] at h; omega
      · rw [if_neg z1] at h
        by_cases z2 : tcD (tb L r q) = true
        · rw [if_pos z2] at h
          by_cases z3 : 4 < tkI (tb L r) q
          · rw [if_pos z3] at h; omega
          · omega
        · rw [if_neg z2] at h; omega
  have h5 := vlF_r (f := fun i => tb L r (q + i) - 48) (n := tkI (tb L r) q) (fun i hi => by have := tcD_r (tkI_all hi); omega)
  have h6 : ∀ m, m < 5 → p10 m ≤ 10000 := by decide
  have h7 := h6 _ (show tkI (tb L r) q < 5 by omega)
  unfold tkV
  omega
/-- the class's follow and note before a unit -/
theorem at_fol {X x : Int} {A : mG} (hX : X = 17 ∨ X = 20) (hA : A 15 8 = X) (h27 : X = 17 → ¬ x = 27) : f_X7_follow A x = if x = 5 then 20 else if x = 3 ∨ (28 ≤ x ∧ x ≤ 33) then 21 else -1 := by
  rcases hX with e | e
  · rw [e] at hA
    rw [fol_17 hA, if_pos (h27 e), fU]
  · rw [e] at hA
    rw [fol_20 hA, fU]
theorem at_note {X x : Int} {A : mG} (hX : X = 17 ∨ X = 20) (hA : A 15 8 = X) : e_X7_note c A x = e_X7_noteUnit c A x (f_X10_number A) := by
  rcases hX with e | e
  · rw [e] at hA
    exact note_17 hA
  · rw [e] at hA
    exact note_20 hA
theorem at_room {X x : Int} {A : mG} (hX : X = 17 ∨ X = 20) (hA : A 15 8 = X) : f_X7_lacksRoomFor c A x = if x = 5 ∧ 6 ≤ A 15 6 then 1 else 0 := rom_c (by omega) (by omega)
theorem km_d (k : Int) : (20 ≤ k ∧ km k = k - 6) ∨ (6 ≤ k ∧ k < 20 ∧ km k = k - 1) ∨ (k = 4 ∧ km k = 4) ∨ (k = 3 ∧ km k = 0) ∨ (k < 6 ∧ ¬ k = 4 ∧ ¬ k = 3 ∧ km k = k + 1) := by
  unfold km
  by_cases h1 : 20 ≤ k
  · rw [if_pos h1]; exact Or.inl ⟨h1, rfl⟩
  · rw [if_neg h1]
    by_cases h2 : 6 ≤ k
    · rw [if_pos h2]; exact Or.inr (Or.inl ⟨h2, by omega, rfl⟩)
    · rw [if_neg h2]
      by_cases h3 : k = 4
      · rw [if_pos h3]; exact Or.inr (Or.inr (Or.inl ⟨h3, rfl⟩))
      · rw [if_neg h3]
        by_cases h4 : k = 3
        · rw [if_pos h4]; exact Or.inr (Or.inr (Or.inr (Or.inl ⟨h4, rfl⟩)))
        · rw [if_neg h4]; exact Or.inr (Or.inr (Or.inr (Or.inr ⟨by omega, h3, h4, rfl⟩)))
theorem ne19 (hc : c = 40 ∨ c = 52) : (19 : Nat) ≠ c ∧ (19 : Nat) ≠ c + 10 ∧ (19 : Nat) ≠ c + 11 := by omega
theorem ne15 (hc : c = 40 ∨ c = 52) : (15 : Nat) ≠ c ∧ (15 : Nat) ≠ c + 10 ∧ (15 : Nat) ≠ c + 11 := by omega
theorem cm_var {kd : Int} (h1 : 34 ≤ kd) (h2 : kd ≤ 39) : w32 (w32 (km kd * 10000) + 0) = cmE 1 (kd - 34) := by
  unfold cmE
  rw [if_neg (by decide), if_pos rfl, km_v, if_pos (by omega), w32_i (x := (kd - 6) * 10000) (by omega) (by omega), w32_i (by omega) (by omega)]
  omega
theorem cm_int {v : Int} (h1 : 0 ≤ v) (h2 : v ≤ 9999) : w32 (w32 (3 * 10000) + v) = cmE 0 v := by
  unfold cmE
  rw [if_pos rfl, show w32 (3 * 10000) = 30000 from by decide, w32_i (by omega) (by omega)]
theorem stA_open (hc : c = 40 ∨ c = 52) (hS : S ≤ 1) (hw0 : w0 ≤ 3) (h : AtU c L r F K S k p0 q0 w0 s0 H0 t s H) (hk6 : tkK (tb L r) (tkQ (tb L r) t) = 6) :
    (H 64 12 = 6 → BdU F S q0 H0 (e_X12_fail H 2)) ∧ (¬ H 64 12 = 6 → ∀ H2, H2 = gs (gs (e_X12_next (gs H 64 12 (w32 ((H 64 12) + 1)))) 93 (Int.toNat ((e_X12_next (gs H 64 12 (w32 ((H 64 12) + 1)))) 64 43)) 6) 64 43 (w32 (((e_X12_next (gs H 64 12 (w32 ((H 64 12) + 1)))) 64 43) + 1)) → (BdU F S q0 H0 H2 ∨ (∃ s', AtU c L r F K S k p0 q0 w0 s0 H0 (t + 1) s' H2))) := by
  obtain ⟨n, m, d, X, hX, hSM, h33, hXI, hb1, hb2, hf1, hf2, hb3⟩ := h
  have hmm := XI_m hXI
  obtain ⟨hcs, hF, hX8, hT, h13⟩ := hSM
  have h11 := hT.2.1
  have h600 := hT.2.2.2.1
  have hA8 : ∀ A : mG, (∀ k, k ≠ 20 → A k = s k) → A 15 8 = X := fun A hA => by rw [hA 15 (by decide)]; exact hX8
  have hA6 : ∀ A : mG, (∀ k, k ≠ 20 → A k = s k) → A 15 6 = (d : Int) := fun A hA => by rw [hA 15 (by decide)]; exact hXI.dl
  obtain ⟨t1, t2, t3, t4, _⟩ := turn (fo := 20) hc ⟨hcs, hF, hX8, hT, h13⟩ (by omega) hk6 (fun A hA => by rw [show km 6 = 5 from by decide, at_fol hX (hA8 A hA) (fun _ => by decide), if_pos rfl])
  have hd := hXI.dr
  refine ⟨fun h6 => ?_, fun h6 H2 e2 => ?_⟩
  · exact BdU_of (by decide) (t3 (by decide) (by decide) (fun A hA => by rw [at_room hX (hA8 A hA), hA6 A hA, show km 6 = 5 from by decide, if_pos ⟨rfl, by omega⟩]; decide)) hT h13 hf2
  · have e43 : (gs H 64 12 (w32 ((H 64 12) + 1))) 64 43 = (m : Int) := by rw [gs_at_ne (by decide)]; exact hXI.wr
    have hd6 := hXI.d6
    rw [nx_43, e43, st_nat, w32_nat (by omega), hd, w32_nat (by omega)] at e2
    have hT1 : rT (tb L r) K t (gs H 64 12 ((d + 1 : Nat) : Int)) := rT_to hT (fun k _ _ => gs_ne (by omega)) (gs_at_ne (by decide))
    have hf3 : frm (insE S q0) H0 (gs H 64 12 ((d + 1 : Nat) : Int)) := frm_gs hf2 (insE_64 (by decide))
    by_cases z6 : t = 600
    · rw [nx_end hT1.2.1 z6] at e2
      rw [e2]
      exact Or.inl (BdU_gs (BdU_gs (BdU_of (by decide) (t2 (by decide) (by decide) z6) hT1 (by rw [gs_at_ne (by decide)]; exact h13) hf3) (Or.inr (Or.inl rfl)) (by omega)) (insE_64 (by decide)) (by omega))
    · rw [nx_go hT1.2.1 (by omega)] at e2
      obtain ⟨A, b1, b2, b3, b4, b5, b6⟩ := t4 (by decide) (by decide) (by omega) (fun A hA => by rw [at_room hX (hA8 A hA), hA6 A hA, if_neg (by omega)])
      have hXA := XI_A hXI b1 hc
      have en : gs (e_X7_note c A (km 6)) 15 8 20 = gs (gs (gs (gs A 19 (w0 + m) 5) 15 5 ((w0 + m + 1 : Nat) : Int)) 15 6 ((d + 1 : Nat) : Int)) 15 8 20 := by
        rw [at_note hX (hA8 A b1), show km 6 = 5 from by decide, unit_open, hold_eq hXA.wl (by omega)]
        have e6 : (gs (gs A 19 (w0 + m) 5) 15 5 ((w0 + m + 1 : Nat) : Int)) 15 6 = (d : Int) := by rw [gs_at_ne (by decide), gs_ne (by decide)]; exact hXA.dl
        rw [e6, w32_nat (by omega)]
      rw [en] at b5 b6
      refine Or.inr ⟨_, n, m + 1, d + 1, 20, Or.inr rfl, ⟨b5, b6, gs_at _ _ _ _, ?_, ?_⟩, fun q => absurd q (by decide), by rw [e2]; exact XI_open hc hXA (by omega) hw0, by omega, by omega, ?_, ?_, ?_⟩
      · rw [e2]
        exact rT_nx hT1 (by omega) (by omega) (fun k _ _ => by rw [gs_ne (by omega), gs_ne (by omega), gs_ne (by omega)]) (by rw [gs_at_ne (by decide), gs_ne (by decide), gs_at])
      · rw [e2, gs_at_ne (by decide), gs_ne (by decide), gs_at_ne (by decide), gs_at_ne (by decide)]; exact h13
      · exact frm_gs (frm_gs (frm_gs (frm_gs (frX_A hf1 b1) (Or.inr (Or.inl rfl))) (Or.inr (Or.inr (Or.inl ⟨rfl, Or.inl rfl⟩)))) (Or.inr (Or.inr (Or.inl ⟨rfl, Or.inr (Or.inl rfl)⟩)))) (Or.inr (Or.inr (Or.inl ⟨rfl, Or.inr (Or.inr rfl)⟩)))
      · rw [e2]
        exact frm_gs (frm_gs (frm_gs hf3 (insE_64 (by decide))) (Or.inr (Or.inl rfl))) (insE_64 (by decide))
      · intro i hi
        rw [gs_ne (by decide), gs_ne (by decide), gs_ne (by decide), gs_at_ne (by omega), b1 19 (by decide)]
        exact hb3 i hi
theorem stA_bad (hc : c = 40 ∨ c = 52) (h : AtU c L r F K S k p0 q0 w0 s0 H0 t s H) (h6 : ¬ tkK (tb L r) (tkQ (tb L r) t) = 6) (h2 : ¬ tkK (tb L r) (tkQ (tb L r) t) = 2) (hv : ¬ (34 ≤ tkK (tb L r) (tkQ (tb L r) t) ∧ tkK (tb L r) (tkQ (tb L r) t) ≤ 39)) : BdU F S q0 H0 (e_X12_fail H 1) := by
  obtain ⟨n, m, d, X, hX, hSM, h33, hXI, hb1, hb2, hf1, hf2, hb3⟩ := h
  obtain ⟨hcs, hF, hX8, hT, h13⟩ := hSM
  have hkk := tkK_r (tb L r) (tkQ (tb L r) t)
  have hA8 : ∀ A : mG, (∀ k, k ≠ 20 → A k = s k) → A 15 8 = X := fun A hA => by rw [hA 15 (by decide)]; exact hX8
  have kk := km_d (tkK (tb L r) (tkQ (tb L r) t))
  have k27 : km (tkK (tb L r) (tkQ (tb L r) t)) = 27 → tkK (tb L r) (tkQ (tb L r) t) = 33 := by omega
  have k5 : ¬ km (tkK (tb L r) (tkQ (tb L r) t)) = 5 := by omega
  have k3 : ¬ (km (tkK (tb L r) (tkQ (tb L r) t)) = 3 ∨ (28 ≤ km (tkK (tb L r) (tkQ (tb L r) t)) ∧ km (tkK (tb L r) (tkQ (tb L r) t)) ≤ 33)) := by omega
  clear kk
  obtain ⟨t1, _⟩ := turn (fo := -1) hc ⟨hcs, hF, hX8, hT, h13⟩ (by omega) rfl (fun A hA => by
    rw [at_fol hX (hA8 A hA) (fun q y => h33 q (k27 y)), if_neg k5, if_neg k3])
  exact BdU_of (by decide) (t1 rfl) hT h13 hf2
theorem stA_unit (hc : c = 40 ∨ c = 52) (hk : k < 40) (hS : S ≤ 1) (h : AtU c L r F K S k p0 q0 w0 s0 H0 t s H) {k1 v : Int} (hu : (tkK (tb L r) (tkQ (tb L r) t) = 2 ∧ k1 = 0 ∧ v = tkV (tb L r) (tkQ (tb L r) t)) ∨ (34 ≤ tkK (tb L r) (tkQ (tb L r) t) ∧ tkK (tb L r) (tkQ (tb L r) t) ≤ 39 ∧ k1 = 1 ∧ v = tkK (tb L r) (tkQ (tb L r) t) - 34)) :
    BdV F S q0 H0 (e_X12_next (e_X12_emit H k1 v)) ∨ ∃ (s' : mG) (n m d : Nat), BeU c L r F K S k p0 q0 w0 s0 H0 (t + 1) s' (e_X12_next (e_X12_emit H k1 v)) n m d := by
  obtain ⟨n, m, d, X, hX, hSM, h33, hXI, hb1, hb2, hf1, hf2, hb3⟩ := h
  have hmm := XI_m hXI
  obtain ⟨hcs, hF, hX8, hT, h13⟩ := hSM
  have h600 := hT.2.2.2.1
  have hkk := tkK_r (tb L r) (tkQ (tb L r) t)
  have hA8 : ∀ A : mG, (∀ k, k ≠ 20 → A k = s k) → A 15 8 = X := fun A hA => by rw [hA 15 (by decide)]; exact hX8
  have kk := km_d (tkK (tb L r) (tkQ (tb L r) t))
  have k27 : km (tkK (tb L r) (tkQ (tb L r) t)) = 27 → tkK (tb L r) (tkQ (tb L r) t) = 33 := by omega
  have k5 : ¬ km (tkK (tb L r) (tkQ (tb L r) t)) = 5 := by omega
  have k3 : (km (tkK (tb L r) (tkQ (tb L r) t)) = 3 ∨ (28 ≤ km (tkK (tb L r) (tkQ (tb L r) t)) ∧ km (tkK (tb L r) (tkQ (tb L r) t)) ≤ 33)) := by omega
  have kne : ¬ tkK (tb L r) (tkQ (tb L r) t) = 3 ∧ ¬ tkK (tb L r) (tkQ (tb L r) t) = 0 := by omega
  have kv : 34 ≤ tkK (tb L r) (tkQ (tb L r) t) ∧ tkK (tb L r) (tkQ (tb L r) t) ≤ 39 → 28 ≤ km (tkK (tb L r) (tkQ (tb L r) t)) ∧ km (tkK (tb L r) (tkQ (tb L r) t)) ≤ 33 := by omega
  clear kk
  have hok : okE k1 v ∧ (k1 = 0 ∨ k1 = 1) := by
    rcases hu with ⟨e1, e2, e3⟩ | ⟨e1, e2, e3, e4⟩
    · have := tkV_r rfl e1
      exact ⟨Or.inl ⟨e2, by omega, by omega⟩, Or.inl e2⟩
    · exact ⟨Or.inr (Or.inl ⟨e3, by omega, by omega⟩), Or.inr e3⟩
  obtain ⟨t1, t2, t3, t4, _⟩ := turn (fo := 21) hc ⟨hcs, hF, hX8, hT, h13⟩ (by omega) rfl (fun A hA => by
    rw [at_fol hX (hA8 A hA) (fun q y => h33 q (k27 y)), if_neg k5, if_pos k3])
  obtain ⟨f1, f2, f3, f4, f5, f6⟩ := emit_f (x := k1) (y := v) hXI.cr (by omega)
  have hT1 : rT (tb L r) K t (e_X12_emit H k1 v) := rT_to hT (fun k _ _ => f6 k (by omega) (by omega) (by omega)) (f5 11 (by decide))
  have hf3 : frm (insE S q0) H0 (e_X12_emit H k1 v) := emit_frm hf2 hXI.cr (by omega) (by omega)
  have h131 : (e_X12_emit H k1 v) 64 13 = 0 := by rw [f5 13 (by decide)]; exact h13
  by_cases z6 : t = 600
  · rw [nx_end hT1.2.1 z6]
    obtain ⟨x1, x2, x3, x4, x5, _⟩ := fx_fail (e_X12_emit H k1 v) 2
    have d6 := hXI.d6
    have dr := hXI.dr
    refine Or.inl ⟨BdU_of (by decide) (t2 (by decide) (by decide) z6) hT1 h131 hf3, ?_, m, 700 * S + q0 + n + 1, ?_, by omega, ?_, by omega, by omega⟩
    · rw [x2, f5 12 (by decide)]; omega
    · rw [x5, f5 43 (by decide)]; exact hXI.wr
    · rw [x4]; exact f1
  · rw [nx_go hT1.2.1 (by omega)]
    obtain ⟨A, b1, b2, b3, b4, b5, b6⟩ := t4 (by decide) kne.1 (by omega) (fun A hA => by rw [at_room hX (hA8 A hA), if_neg (fun q => k5 q.1)])
    have hXA := XI_A hXI b1 hc
    obtain ⟨x, y, en, exy⟩ : ∃ x y : Int, e_X7_note c A (km (tkK (tb L r) (tkQ (tb L r) t))) = e_X1_addCode c A x y ∧ w32 (w32 (x * 10000) + y) = cmE k1 v := by
      rcases hu with ⟨e1, e2, e3⟩ | ⟨e1, e2, e3, e4⟩
      · have hv := tkV_r rfl e1
        refine ⟨3, f_X10_number A, ?_, ?_⟩
        · rw [at_note hX (hA8 A b1), e1, show km 2 = 3 from by decide, unit_int]
        · have := b3 e1
          rw [show f_X10_number A = v from by unfold f_X10_number; rw [this, e3], e2]
          exact cm_int (by omega) (by omega)
      · refine ⟨km (tkK (tb L r) (tkQ (tb L r) t)), 0, ?_, ?_⟩
        · rw [at_note hX (hA8 A b1), unit_var (kv ⟨e1, e2⟩)]
        · rw [e3, e4]
          exact cm_var e1 e2
    rw [en] at b5 b6
    refine Or.inr ⟨_, n + 1, m, d, ⟨b5, b6, gs_at _ _ _ _, ?_, ?_⟩, XI_unit hc hk hXA (by omega) (by omega) hok.1 hok.2 exy, by omega, by omega, ?_, frm_gs hf3 (insE_64 (by decide)), ?_⟩
    · exact rT_nx hT1 kne.2 (by omega) (fun k _ _ => gs_ne (by omega)) (gs_at _ _ _ _)
    · rw [gs_at_ne (by decide)]; exact h131
    · exact frm_gs (code_frm (frX_A hf1 b1) hXA.cl (by omega) hXA.c12 hk (by omega)) (Or.inr (Or.inr (Or.inl ⟨rfl, Or.inr (Or.inr rfl)⟩)))
    · intro i hi
      obtain ⟨_, _, _, _, _, _, g7⟩ := code_f (x := x) (y := y) hXA.cl (by omega) hXA.c12 hk
      rw [gs_ne (by decide), g7 19 (ne19 hc).1 (ne19 hc).2.1 (ne19 hc).2.2, b1 19 (by decide)]
      exact hb3 i hi
end EXL
