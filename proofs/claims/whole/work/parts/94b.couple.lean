/-! ===== a text without a fault comes into force ===== -/
section CPS
variable {c S n m p l qq t : Nat} {L : Int} {r : Nat → Int} {F H0 G1 H M G : mG}
theorem rv_lt {k : Nat} (h : 0 ≤ rv n F k) : ∃ x : Nat, x < n ∧ rv n F k = (x : Int) := by
  rcases fs_r (fun x => decide (F 16 x = F 17 k)) n with ⟨v1, v2⟩ | ⟨x, x1, x2, x3, x4⟩
  · have v : rv n F k = -1 := v1
    omega
  · exact ⟨x, x1, x2⟩
theorem lW_lok {j : Nat} (hS : S ≤ 1) (hq : qq ≤ 600) (hj : j < 600) (h : LOK S 0 qq H (600 * S + j)) : lW H (600 * S + j) := by
  obtain ⟨⟨h1, h2, h3, h4⟩, h5, h6⟩ := h
  have ed : (600 * S + j) / 600 = S := by omega
  unfold lW
  rw [ed]
  refine ⟨fun y => ?_, fun y => ⟨?_, (h6 y).1, (h6 y).2⟩, ⟨by omega, h2, h3, by omega⟩, h5⟩
  · have := h5 y
    omega
  · omega
theorem CK_lW {k : Nat} (hS : S ≤ 1) (hq : qq ≤ 600) (hl : l ≤ 600) (h : CK c S n p l qq k F H) (hk : F (c + 4) k = 21 ∨ F (c + 4) k = 23) : (0 ≤ H 82 (40 * S + k) ∧ H 82 (40 * S + k) ≤ 600 ∧ H 83 (40 * S + k) ≤ 600) ∧ ∀ j : Nat, j < (H 83 (40 * S + k) - H 82 (40 * S + k)).toNat → lW H (600 * S + (H 82 (40 * S + k)).toNat + j) := by
  have hcod := h.cod.2
  refine ⟨by omega, fun j hj => ?_⟩
  have w := (h.wei hk).1 ((H 82 (40 * S + k)).toNat + j) (by omega) (by omega)
  rw [Nat.add_assoc]
  exact lW_lok hS hq (by omega) w
theorem lW_row {x : Nat} (h : lW H0 x) (e : ∀ a, 86 ≤ a → a ≤ 92 → M a = H0 a) : lW M x := lW_to h (e 86 (by decide) (by decide)) (e 87 (by decide) (by decide)) (e 88 (by decide) (by decide)) (e 89 (by decide) (by decide)) (e 91 (by decide) (by decide)) (e 92 (by decide) (by decide))
set_option maxHeartbeats 8000000 in
theorem cpC_new (hc : c = 40 ∨ c = 52) (hS : S ≤ 1) (hre : RE c L r F S G1 t n m p l qq H0 H) (hz0 : (fd (g_X7_settleRivals_2 c F) F m) 15 10 = 0) (mc : ∀ j, j < 12 → M (c + j) = (fd (g_X7_settleRivals_2 c F) F m) (c + j)) (mr : ∀ k, 72 ≤ k → k ≤ 92 → M k = H k) : cpC c M S ∧ cB c M ∧ (M 64 18 = (S : Int) → rW M) := by
  obtain ⟨a1, jb, f11, f12, r72, r76, st, hfr, h13, h19, h600, h02⟩ := hre
  generalize fd (g_X7_settleRivals_2 c F) F m = z at *
  have f10 := st.bm.1 hz0
  have hn8 := jb.hn
  have hp := jb.hp
  have cc3 : ∀ j, j < 12 → j ≠ 3 → c + j ≠ 15 ∧ c + j ≠ c + 3 := fun j _ _ => by omega
  have ec : ∀ j, j < 12 → j ≠ 3 → M (c + j) = F (c + j) := fun j h1 h2 => by rw [mc j h1, st.za _ (cc3 j h1 h2).1 (cc3 j h1 h2).2]
  have e0 : M c = F c := ec 0 (by decide) (by decide)
  have er : ∀ k, 72 ≤ k → k ≤ 92 → k ≠ 79 → M k = H0 k := fun k h1 h2 h3 => by rw [mr k h1 h2, st.ha k (by omega) h3]
  have e79 : ∀ k, k < m → ¬ H0 77 (40 * S + k) = 2 → M 79 (40 * S + k) = H0 79 (40 * S + k) := fun k h1 h2 => by rw [mr 79 (by decide) (by decide)]; exact st.h79 _ (fun y => h2 y.2.2)
  have eriv : ∀ k, k < m → F (c + 4) k = 22 → M 79 (40 * S + k) = rv n F k := fun k h1 h2 => by rw [mr 79 (by decide) (by decide)]; exact st.riv k h1 h2
  have esrt : ∀ k, k < m → (H0 77 (40 * S + k) = 2 ↔ F (c + 4) k = 22) ∧ ((F (c + 4) k = 21 ∨ F (c + 4) k = 23) ↔ (H0 77 (40 * S + k) = 1 ∨ H0 77 (40 * S + k) = 3)) := by
    intro k hk
    rcases (jb.cla k hk).srt with ⟨s1, s2, _⟩ | ⟨s1, s2, _⟩ | ⟨s1, s2, _⟩ | ⟨s1, s2, _⟩ <;> rw [s1, s2] <;> decide
  have m11 : M c 11 = (n : Int) := by rw [e0]; exact f11
  have m12 : M c 12 = (m : Int) := by rw [e0]; exact f12
  refine ⟨?_, ?_, fun h18 => ?_⟩
  · unfold cpC
    rw [m11, m12, er 72 (by decide) (by decide) (by decide), er 76 (by decide) (by decide) (by decide), ec 1 (by decide) (by decide), ec 2 (by decide) (by decide), ec 4 (by decide) (by decide), ec 5 (by decide) (by decide), ec 7 (by decide) (by decide)]
    refine ⟨by omega, r72, by omega, r76, fun x hx => ?_, fun k hk => ?_, fun k j hk hj => jb.uni f10 k j (by omega) (by omega), fun x y hx hy => ?_, fun k hk hk4 => ?_⟩
    · rw [er 74 (by decide) (by decide) (by decide), er 75 (by decide) (by decide) (by decide)]; exact jb.fro x (by omega)
    · have hkm : k < m := by omega
      have ck := jb.cla k hkm
      unfold cpK
      rw [m11, ec 4 (by decide) (by decide), ec 5 (by decide) (by decide), ec 6 (by decide) (by decide), ec 7 (by decide) (by decide), ec 8 (by decide) (by decide), er 77 (by decide) (by decide) (by decide), er 78 (by decide) (by decide) (by decide), er 80 (by decide) (by decide) (by decide), er 81 (by decide) (by decide) (by decide)]
      refine ⟨ck.own, ?_⟩
      rcases ck.srt with ⟨s1, s2, s3, s4, s5, s6, s7, s8, s9, s10⟩ | ⟨s1, s2, s3⟩ | ⟨s1, s2, s3, _⟩ | ⟨s1, s2, s3, s4, s5⟩
      · obtain ⟨b1, b2, b3⟩ := s10 f10
        exact Or.inl ⟨s1, s2, ⟨by rw [e79 k hkm (by omega)]; exact s3, b1, b2⟩, ⟨s4, s7, b3⟩, ⟨s5, s8, s9⟩⟩
      · exact Or.inr (Or.inl ⟨s1, s2, s3⟩)
      · refine Or.inr (Or.inr (Or.inl ⟨s1, s2, s3, ?_⟩))
        rw [eriv k hkm s2]
        have ok := (st.okk hz0 k hkm s2).1
        obtain ⟨x, x1, x2⟩ := rv_lt ok
        omega
      · exact Or.inr (Or.inr (Or.inr ⟨s1, s2, by rw [e79 k hkm (by omega)]; exact s3, s4, s5 f10⟩))
    · have ap := st.apa hz0 x y (by omega) (by omega)
      rw [mc 3 (by decide)]
      refine ⟨ap.1, fun w => ?_, fun ⟨k, k1, k2, k3⟩ => ap.2.mpr ⟨k, by omega, ?_⟩⟩
      · obtain ⟨k, k1, k2, k3⟩ := ap.2.mp w
        refine ⟨k, by omega, ?_⟩
        rw [er 77 (by decide) (by decide) (by decide), er 78 (by decide) (by decide) (by decide), eriv k k1 k2, (jb.cla k k1).own.1]
        exact ⟨(esrt k k1).1.mpr k2, k3⟩
      · have k1' : k < m := by omega
        rw [er 77 (by decide) (by decide) (by decide)] at k2
        have k4 := (esrt k k1').1.mp k2
        rw [er 78 (by decide) (by decide) (by decide), eriv k k1' k4, (jb.cla k k1').own.1] at k3
        exact ⟨k4, k3⟩
    · have hkm : k < m := by omega
      have w := ((jb.cla k hkm).wei hk4).2 f10
      unfold cpW
      rw [ec 9 (by decide) (by decide), ec 10 (by decide) (by decide), ec 11 (by decide) (by decide), er 82 (by decide) (by decide) (by decide), er 83 (by decide) (by decide) (by decide), er 86 (by decide) (by decide) (by decide), er 87 (by decide) (by decide) (by decide), er 88 (by decide) (by decide) (by decide), er 89 (by decide) (by decide) (by decide), er 90 (by decide) (by decide) (by decide), er 91 (by decide) (by decide) (by decide), er 92 (by decide) (by decide) (by decide)]
      intro E va mk m1 m2 m3 m4 m5 m6 m7 m8
      exact w E va mk ⟨m1, ⟨m2, m3, m4, m6, m7, m8⟩, m5⟩
  · intro x
    unfold f_X1_codeStartOf f_X1_codeEndOf f_X1_hasClause
    rw [m12]
    by_cases y1 : x < 0
    · rw [if_pos y1, if_pos rfl, if_pos rfl]; decide
    · rw [if_neg y1]
      by_cases y2 : (m : Int) ≤ x
      · rw [if_pos y2, if_pos rfl, if_pos rfl]; decide
      · rw [if_neg y2, if_neg (show ¬ 40 ≤ x by omega), if_neg (by decide), if_neg (by decide), ec 9 (by decide) (by decide), ec 10 (by decide) (by decide)]
        have ck := (jb.cla x.toNat (by omega)).cod.1
        omega
  · intro k hk hsrt
    rw [h18, st_nat] at hk hsrt ⊢
    rw [er 76 (by decide) (by decide) (by decide), r76] at hk
    rw [er 77 (by decide) (by decide) (by decide)] at hsrt
    rw [er 82 (by decide) (by decide) (by decide), er 83 (by decide) (by decide) (by decide)]
    have hkm : k < m := by omega
    obtain ⟨b1, b2⟩ := CK_lW hS (by omega) (by omega) (jb.cla k hkm) ((esrt k hkm).2.mpr hsrt)
    exact ⟨b1, fun j hj => lW_row (b2 j hj) (fun a q1 q2 => er a (by omega) (by omega) (by omega))⟩
theorem Cpl_new {c0 : Nat} (h : Cpl c0 G) (hcS : (c = 40 ∧ S = 0) ∨ (c = 52 ∧ S = 1)) (hk : RKp G M) (hre : RE c L r F S G1 t n m p l qq H0 H) (hz0 : (fd (g_X7_settleRivals_2 c F) F m) 15 10 = 0) (mc : ∀ j, j < 12 → M (c + j) = (fd (g_X7_settleRivals_2 c F) F m) (c + j)) (mr : ∀ k, 72 ≤ k → k ≤ 92 → M k = H k) (h18 : M 64 18 = (S : Int)) (h8 : M 0 8 = ((c + 5 : Nat) : Int)) (h9 : M 0 9 = ((97 - c : Nat) : Int)) (h22 : ∀ i, i < 234 → M 22 i = -1) (h23 : ∀ f, f < 26 → M 23 f = 0) (h104 : M 104 = M 23) : Cpl c M := by
  have hc : c = 40 ∨ c = 52 := by omega
  have hS : S ≤ 1 := by omega
  obtain ⟨k1, k2, k3⟩ := cpC_new hc hS hre hz0 mc mr
  refine ⟨rk_bft hk h.1, ?_, by rw [h18, st_nat]; exact k1, ?_, k2, k3 h18⟩
  · rcases hcS with ⟨e1, e2⟩ | ⟨e1, e2⟩ <;> subst e1 <;> subst e2
    · exact Or.inl ⟨rfl, h18, h8, h9⟩
    · exact Or.inr ⟨rfl, h18, h8, h9⟩
  · refine ⟨h104, fun i hi => by rw [hk.k105]; exact h.2.2.2.1.2.1 i hi, fun f hf => ⟨Or.inl (h23 f hf), fun _ b hb => h22 _ (by omega), fun b hb => Or.inl (h22 _ (by omega)), fun b hb _ => h22 _ (by omega), fun y => ?_⟩⟩
    rw [h23 f hf] at y
    exact absurd y (by decide)
end CPS
