/-! ===== the reference reads, beside the class ===== -/
theorem and_mod (x : Int) : mAnd x 255 = x % 256 := by
  unfold mAnd
  have h : (Int32.ofInt x &&& Int32.ofInt 255).toInt = ((Int32.ofInt x).toBitVec &&& (Int32.ofInt 255).toBitVec).toInt := rfl
  have e : (Int32.ofInt 255).toBitVec.toNat = 255 := by decide
  have hn : ((Int32.ofInt x).toBitVec &&& (Int32.ofInt 255).toBitVec).toNat = (Int32.ofInt x).toBitVec.toNat % 256 := by
    rw [BitVec.toNat_and, e]
    exact Nat.and_two_pow_sub_one_eq_mod _ 8
  have a4 : (Int32.ofInt x).toInt = Int.bmod ((Int32.ofInt x).toBitVec.toNat) (2 ^ 32) := BitVec.toInt_eq_toNat_bmod _
  rw [i32_toInt', ← w32_bmod] at a4
  rw [h, BitVec.toInt_eq_toNat_of_lt (by omega), hn]
  generalize (Int32.ofInt x).toBitVec.toNat = N at *
  unfold w32 at a4
  omega
theorem tb_w8 {L : Int} {r r' : Nat → Int} (h : ∀ i : Nat, (i : Int) < L → r' i = w8 (r i)) : tb L r' = tb L r := by
  funext i
  unfold tb
  by_cases z : (i : Int) < L ∧ i < 3000
  · rw [if_pos z, if_pos z, h i z.1, and_mod, and_mod, w8_e]; omega
  · rw [if_neg z, if_neg z]
/-- where the reference writes when it reads into side S -/
def insB (S k i : Nat) : Prop := (k = 64 ∧ (i = 2 ∨ i = 4 ∨ i = 10 ∨ i = 17 ∨ i = 19)) ∨ (66 ≤ k ∧ k ≤ 70) ∨ ins S k i
section RDR
variable {c : Nat} {L : Int} {r : Nat → Int} {F : mG} {K S : Nat} {G0 : mG} {q : Nat} {Q : Option mV → mG → Prop}
theorem copy_loop {A : mG} {Ln : Nat} (hL : A 64 4 = (Ln : Int)) (hl : Ln ≤ 3000) (hE : ∀ H' : mG, (∀ k, k ≠ 66 → H' k = A k) → (∀ i, i < Ln → H' 66 i = w8 (A 65 i)) → W2 o_X12 M_X12_read (inN [64, 66, 67, 68, 69, 70, 72, 73, 74, 75, 76, 77, 78, 79, 80, 81, 82, 83, 84, 85, 86, 87, 88, 89, 90, 91, 92, 93, 104]) (q + 20) Q 36 [some (mR 69), none] [] H') : ∀ d j : Nat, j + d = Ln → ∀ H : mG, (∀ k, k ≠ 66 → H k = A k) → (∀ i, i < j → H 66 i = w8 (A 65 i)) → W2 o_X12 M_X12_read (inN [64, 66, 67, 68, 69, 70, 72, 73, 74, 75, 76, 77, 78, 79, 80, 81, 82, 83, 84, 85, 86, 87, 88, 89, 90, 91, 92, 93, 104]) (q + 20) Q 10 [some (mR 69), some (mI ((j : Nat) : Int))] [] H := by
  intro d
  induction d with
  | zero =>
    intro j hj H h1 h2
    have e : j = Ln := by omega
    subst e
    have e4 : H 64 4 = (j : Int) := by rw [h1 64 (by decide)]; exact hL
    exact rd_10 (by omega) (fun _ => hE H h1 h2) (fun y => absurd y (by omega))
  | succ d ih =>
    intro j hj H h1 h2
    have e4 : H 64 4 = (Ln : Int) := by rw [h1 64 (by decide)]; exact hL
    refine rd_10 (by omega) (fun y => absurd y (by omega)) (fun _ => ?_)
    refine ih (j + 1) (by omega) _ (fun k hk => by rw [gs_ne hk]; exact h1 k hk) (fun i hi => ?_)
    by_cases y : i = j
    · subst y; rw [gs_at, h1 65 (by decide)]
    · rw [gs_at_ne y]; exact h2 i (by omega)
/-- both at the text's beginning -/
theorem J8_0 {s0 B : mG} (hcs : cs c L r 0 s0) (hF : pfin c 601 0 s0 = F) (h8 : s0 15 8 = 1) (hT : rT (tb L r) K 0 B) (h13 : B 64 13 = 0) (z : s0 c 11 = 0 ∧ s0 c 12 = 0 ∧ s0 c 13 = 0) (w : s0 15 5 = 0 ∧ s0 15 6 = 0 ∧ s0 15 10 = 0) (ap : ∀ i, i < 64 → s0 (c + 3) i = 0) (b39 : B 64 39 = ((700 * S : Nat) : Int)) (b85 : B 85 S = 0) (b12 : B 64 12 = 0) (b15 : B 64 15 = 0) (b72 : B 72 S = 0) (b76 : B 76 S = 0) (b19 : B 64 19 = (S : Int)) : J8 1 c L r F K S B 0 0 0 0 0 0 s0 B := by
  refine ⟨⟨hcs, hF, h8, hT, h13⟩, ⟨⟨by decide, by decide⟩, ⟨Nat.le_refl 0, Nat.le_refl 0, Nat.le_refl 0⟩, z.2.2, b39, b85, w.1, w.2.1, b12, fun x hx => absurd hx (Nat.not_lt_zero x), fun x hx => absurd hx (Nat.not_lt_zero x), fun k hk => absurd hk (Nat.not_lt_zero k), ap, ⟨by rw [w.2.2, b15], Or.inl w.2.2, by rw [w.2.2]; exact Int.le_refl 0⟩, fun _ k j hk => absurd hk (Nat.not_lt_zero k), fun o ho => absurd ho (Nat.not_lt_zero o), fun k hk => absurd hk (Nat.not_lt_zero k)⟩, z.1, z.2.1, b72, b76, Fr_rf, b19⟩
/-- both at the text's end, no fault of its form -/
def GE (c : Nat) (L : Int) (r : Nat → Int) (F : mG) (S : Nat) (G0 : mG) (t n m p l qq : Nat) (H : mG) : Prop := F 15 8 = 0 ∧ JB c S (tb L r) n m p l qq t F H ∧ F c 11 = (n : Int) ∧ F c 12 = (m : Int) ∧ H 72 S = (n : Int) ∧ H 76 S = (m : Int) ∧ Fr S G0 H ∧ H 64 13 = 0 ∧ t ≤ 600
theorem read_loop (hc : c = 40 ∨ c = 52) (hS : S ≤ 1) (hB : ∀ H', BadF F S G0 H' → W2 o_X12 M_X12_read (inN [64, 66, 67, 68, 69, 70, 72, 73, 74, 75, 76, 77, 78, 79, 80, 81, 82, 83, 84, 85, 86, 87, 88, 89, 90, 91, 92, 93, 104]) (q + 20) Q 139 [some (mR 69), none] [] H') (hG : ∀ (t n m p l qq : Nat) (H' : mG), GE c L r F S G0 t n m p l qq H' → W2 o_X12 M_X12_read (inN [64, 66, 67, 68, 69, 70, 72, 73, 74, 75, 76, 77, 78, 79, 80, 81, 82, 83, 84, 85, 86, 87, 88, 89, 90, 91, 92, 93, 104]) (q + 20) Q 139 [some (mR 69), none] [] H') : ∀ d t : Nat, 601 - t ≤ d → ∀ (n m p l qq : Nat) (s H : mG), J8 1 c L r F K S G0 t n m p l qq s H → W2 o_X12 M_X12_read (inN [64, 66, 67, 68, 69, 70, 72, 73, 74, 75, 76, 77, 78, 79, 80, 81, 82, 83, 84, 85, 86, 87, 88, 89, 90, 91, 92, 93, 104]) (q + 20) Q 117 [some (mR 69), none] [] H := by
  intro d
  induction d with
  | zero =>
    intro t hd n m p l qq s H h
    have := h.sm.2.2.2.1.2.2.2.1
    omega
  | succ d ih =>
    intro t hd n m p l qq s H h
    obtain ⟨hcs, hF, hX, hT, h13⟩ := h.sm
    have h11 := hT.2.1
    have h600 := hT.2.2.2.1
    have kk := (rT_k hT).1
    refine rd_117 (R := fun H2 => BadF F S G0 H2 ∨ ∃ (t' m' p' l' qq' : Nat) (s' : mG), t < t' ∧ J8 1 c L r F K S G0 t' (n + 1) m' p' l' qq' s' H2) (by omega) (fun y => ?_) (fun y Q' hQ' => ?_) (fun H2 hR => ?_)
    · have k0 : tkK (tb L r) (tkQ (tb L r) t) = 0 := by rw [← kk]; omega
      have hA8 : ∀ A : mG, (∀ k, k ≠ 20 → A k = s k) → A 15 8 = 1 := fun A hA => by rw [hA 15 (by decide)]; exact hX
      obtain ⟨_, _, _, _, t5⟩ := turn (fo := 0) hc ⟨hcs, hF, hX, hT, h13⟩ (by decide) k0 (fun A hA => by rw [fol_1 (hA8 A hA), show km 0 = 1 from by decide, if_pos rfl])
      obtain ⟨A, b1, b2⟩ := t5 rfl
      rw [note_1 (hA8 A b1)] at b2
      have hc0 : c ≠ 15 ∧ c ≠ 20 := by omega
      have eA : ∀ a, a ≠ 15 → a ≠ 20 → F a = s a := fun a q1 q2 => by rw [← b2, gs_ne q1, b1 a q2]
      refine hG t n m p l qq H ⟨by rw [← b2, gs_at], ?_, by rw [eA c hc0.1 hc0.2]; exact h.c11, by rw [eA c hc0.1 hc0.2]; exact h.c12, h.r72, h.r76, h.fr, h13, h600⟩
      exact JB_t hc h.jb eA (fun i hi => by rw [← b2, gs_at_ne hi, b1 15 (by decide)]) (fun _ _ => rfl) (fun _ _ => rfl) (Nat.le_refl t)
    · rw [kk] at y
      exact sp_camp (q := q + 5) (insub (by decide)) hc hS h y.2 (fun H' hb => hQ' H' (Or.inl hb)) (fun t' m' p' l' qq' s' H' q1 q2 => hQ' H' (Or.inr ⟨t', m', p', l', qq', s', q1, q2⟩))
    · rcases hR with hb | ⟨t', m', p', l', qq', s', q1, q2⟩
      · have b1 := hb.1.1
        exact rd_117 (R := fun _ => False) hb.2.2 (fun _ => hB H2 hb) (fun y => absurd y.1 (by omega)) (fun _ f => f.elim)
      · exact ih t' (by omega) (n + 1) m' p' l' qq' s' H2 q2
theorem give_loop {A : mG} (hE : ∀ H' : mG, (∀ k, k ≠ 104 → H' k = A k) → (∀ i, i < 26 → H' 104 i = 0) → (∀ i, 26 ≤ i → H' 104 i = A 104 i) → Q (some (mI 0)) H') : ∀ d j : Nat, j + d = 26 → ∀ H : mG, (∀ k, k ≠ 104 → H k = A k) → (∀ i, i < j → H 104 i = 0) → (∀ i, j ≤ i → H 104 i = A 104 i) → W2 o_X12 M_X12_read (inN [64, 66, 67, 68, 69, 70, 72, 73, 74, 75, 76, 77, 78, 79, 80, 81, 82, 83, 84, 85, 86, 87, 88, 89, 90, 91, 92, 93, 104]) (q + 20) Q 269 [some (mR 69), some (mI ((j : Nat) : Int))] [] H := by
  intro d
  induction d with
  | zero =>
    intro j hj H h1 h2 h3
    have e : j = 26 := by omega
    subst e
    exact rd_269 (by omega) (fun _ => hE H h1 h2 h3) (fun y => absurd y (by omega))
  | succ d ih =>
    intro j hj H h1 h2 h3
    refine rd_269 (by omega) (fun y => absurd y (by omega)) (fun _ => ?_)
    refine ih (j + 1) (by omega) _ (fun k hk => by rw [gs_ne hk]; exact h1 k hk) (fun i hi => ?_) (fun i hi => by rw [gs_at_ne (by omega)]; exact h3 i (by omega))
    by_cases y : i = j
    · subst y; rw [gs_at]
    · rw [gs_at_ne y]; exact h2 i (by omega)
/-- what reading comes to -/
def RE (c : Nat) (L : Int) (r : Nat → Int) (F : mG) (S : Nat) (G1 : mG) (t n m p l qq : Nat) (H0 H : mG) : Prop := F 15 8 = 0 ∧ JB c S (tb L r) n m p l qq t F H0 ∧ F c 11 = (n : Int) ∧ F c 12 = (m : Int) ∧ H0 72 S = (n : Int) ∧ H0 76 S = (m : Int) ∧ ST c S n m F H0 (fd (g_X7_settleRivals_2 c F) F m) H ∧ frm (insB S) G1 H ∧ H 64 13 = 0 ∧ H 64 19 = (S : Int) ∧ t ≤ 600 ∧ H 64 2 = 0
theorem read_139 {G1 H0 : mG} {t n m p l qq : Nat} (hc : c = 40 ∨ c = 52) (hS : S ≤ 1) (hfr : frm (insB S) G1 G0) (h19 : G0 64 19 = (S : Int)) (h02 : G0 64 2 = 0) (h : GE c L r F S G0 t n m p l qq H0) (h2 : ∀ H, RE c L r F S G1 t n m p l qq H0 H → 0 < H 64 15 → Q (some (mI (H 64 15))) (gs H 64 17 (H 64 16))) (h3 : ∀ H, RE c L r F S G1 t n m p l qq H0 H → H 64 15 ≤ 0 → ∀ H' : mG, (∀ k, k ≠ 104 → H' k = (gs (gs H 64 17 (-1)) 64 18 (S : Int)) k) → (∀ i, i < 26 → H' 104 i = 0) → (∀ i, 26 ≤ i → H' 104 i = H 104 i) → Q (some (mI 0)) H') : W2 o_X12 M_X12_read (inN [64, 66, 67, 68, 69, 70, 72, 73, 74, 75, 76, 77, 78, 79, 80, 81, 82, 83, 84, 85, 86, 87, 88, 89, 90, 91, 92, 93, 104]) (q + 20) Q 139 [some (mR 69), none] [] H0 := by
  obtain ⟨a1, a2, a3, a4, a5, a6, a7, a8, a9⟩ := h
  have e19 : H0 64 19 = (S : Int) := by rw [Fr_64 a7 (by decide)]; exact h19
  refine rd_139 (fun y => absurd a8 y) (fun _ => ?_)
  have ew : w32 (40 * (H0 64 19)) = ((40 * S + 0 : Nat) : Int) := by rw [e19, w32_i (by omega) (by omega)]; omega
  rw [ew]
  refine st_loop (G := F) hc hS a2 a3 a4 a5 a6 e19 a8 (fun H st => ?_) m 0 (by omega) H0 ⟨fun _ _ _ => rfl, fun _ _ _ => rfl, fun _ _ _ => rfl, fun _ _ _ => rfl, fun _ _ => rfl, a2.bqq, bmn_rf, fun k hk => absurd hk (Nat.not_lt_zero k), fun _ k hk => absurd hk (Nat.not_lt_zero k), fun _ x y hx hy => ?_⟩
  · have hfrH : frm (insB S) G1 H := by
      intro k i hi
      rw [← hfr k i hi, ← a7 k i (fun y => hi (Or.inr (Or.inr y)))]
      by_cases y1 : k = 64
      · subst y1
        exact st.h64 i (fun y => hi (Or.inr (Or.inr (ins_64 (by omega))))) (fun y => hi (Or.inr (Or.inr (ins_64 (by omega)))))
      · by_cases y2 : k = 79
        · subst y2
          exact st.h79 i (fun y => hi (Or.inr (Or.inr (by unfold ins; omega))))
        · rw [st.ha k y1 y2]
    have k13 : H 64 13 = 0 := by rw [st.h64 13 (by decide) (by decide)]; exact a8
    have k19 : H 64 19 = (S : Int) := by rw [st.h64 19 (by decide) (by decide)]; exact e19
    have hre : RE c L r F S G1 t n m p l qq H0 H := ⟨a1, a2, a3, a4, a5, a6, st, hfrH, k13, k19, a9, by rw [st.h64 2 (by decide) (by decide), Fr_64 a7 (by decide)]; exact h02⟩
    refine rd_202 (fun y => absurd y (by omega)) (fun _ y => h2 H hre y) (fun _ y => ?_)
    rw [k19]
    have e104 : (gs (gs H 64 17 (-1)) 64 18 (S : Int)) 104 = H 104 := by rw [gs_ne (by decide), gs_ne (by decide)]
    refine give_loop (A := gs (gs H 64 17 (-1)) 64 18 (S : Int)) (fun H' w1 w2 w3 => h3 H hre y H' w1 w2 (fun i hi => by rw [w3 i hi, e104])) 26 0 (by omega) _ (fun _ _ => rfl) (fun i hi => absurd hi (Nat.not_lt_zero i)) (fun _ _ => rfl)
  · have e0 : F (c + 3) (8 * x + y) = 0 := a2.apa _ (by omega)
    refine ⟨Or.inl e0, fun w => ?_, fun ⟨k, hk, _⟩ => absurd hk (Nat.not_lt_zero k)⟩
    have w2 : F (c + 3) (8 * x + y) = 1 := w
    omega
set_option maxHeartbeats 8000000 in
/-- the reference's read, with the class's read beside it -/
theorem sp_ref {D : Nat → Bool} {G1 s0 : mG} {Ln : Nat} (hD : ∀ k, D k = false → inN [64, 66, 67, 68, 69, 70, 72, 73, 74, 75, 76, 77, 78, 79, 80, 81, 82, 83, 84, 85, 86, 87, 88, 89, 90, 91, 92, 93, 104] k = false) (hc : c = 40 ∨ c = 52) (hS : S ≤ 1) (h2 : G1 64 2 = (Ln : Int)) (hL : L = (Ln : Int)) (hl : Ln ≤ 3000) (h65 : G1 65 = r) (hky : ∀ i, i < 20 → G1 71 i = ky i) (h18 : G1 64 18 = 1 - (S : Int)) (hcs : cs c L r 0 s0) (hF : pfin c 601 0 s0 = F) (h8 : s0 15 8 = 1) (z : s0 c 11 = 0 ∧ s0 c 12 = 0 ∧ s0 c 13 = 0) (w : s0 15 5 = 0 ∧ s0 15 6 = 0 ∧ s0 15 10 = 0) (ap : ∀ i, i < 64 → s0 (c + 3) i = 0)
    (q1 : ∀ H, Bad F H → frm (insB S) G1 H → H 64 2 = 0 → Q (some (mI (H 64 13))) (gs H 64 17 (H 64 14)))
    (q2 : ∀ (t n m p l qq : Nat) (H0 H : mG), RE c L r F S G1 t n m p l qq H0 H → 0 < H 64 15 → Q (some (mI (H 64 15))) (gs H 64 17 (H 64 16)))
    (q3 : ∀ (t n m p l qq : Nat) (H0 H : mG), RE c L r F S G1 t n m p l qq H0 H → H 64 15 ≤ 0 → ∀ H' : mG, (∀ k, k ≠ 104 → H' k = (gs (gs H 64 17 (-1)) 64 18 (S : Int)) k) → (∀ i, i < 26 → H' 104 i = 0) → (∀ i, 26 ≤ i → H' 104 i = H 104 i) → Q (some (mI 0)) H') : P2 D (q + 20) M_X12_read [mR 69] G1 Q := by
  refine rd_0 hD ?_
  rw [h2]
  refine copy_loop (A := gs G1 64 4 (Ln : Int)) (gs_at _ _ _ _) hl (fun H h66a h66 => ?_) Ln 0 (by omega) _ (fun _ _ => rfl) (fun i hi => absurd hi (Nat.not_lt_zero i))
  have e65 : (gs G1 64 4 (Ln : Int)) 65 = r := by rw [gs_ne (by decide)]; exact h65
  have etb : tb L (H 66) = tb L r := tb_w8 (fun i hi => by rw [h66 i (by omega), e65])
  have e4 : (gs H 64 2 0) 64 4 = L := by rw [gs_at_ne (by decide), h66a 64 (by decide), gs_at, hL]
  refine rd_36 (R := fun H2 => ∃ K, cuI (tb L r) (gs H 64 2 0) K H2 ∧ (K = 601 ∨ (1 ≤ K ∧ K ≤ 601 ∧ tkK (tb L r) (tkQ (tb L r) (K - 1)) = 0))) (fun Q' hQ' => ?_) (fun H2 hR => ?_)
  · refine sp_X12_cut (q := q + 9) (L := L) (r := H 66) e4 (gs_ne (by decide)) (by omega) (fun i hi => by rw [gs_ne (by decide), h66a 71 (by decide), gs_ne (by decide)]; exact hky i hi) (insub (by decide)) (fun K H' k1 k2 => hQ' H' ⟨K, ?_, ?_⟩)
    · rw [← etb]; exact k1
    · rw [← etb]; exact k2
  obtain ⟨K, ⟨c1, c2, c3, c4⟩, hK⟩ := hR
  have k1 : ∀ k, k ≠ 64 → ¬ (66 ≤ k ∧ k ≤ 70) → H2 k = G1 k := fun k n1 n2 => by rw [c1 k (fun a ha => by simp only [List.mem_cons, List.not_mem_nil, or_false] at ha; omega), gs_ne n1, h66a k (by omega), gs_ne n1]
  have k2 : ∀ i, i ≠ 2 → i ≠ 4 → i ≠ 10 → H2 64 i = G1 64 i := fun i n1 n2 n3 => by rw [c2 i n3, gs_at_ne n1, h66a 64 (by decide), gs_at_ne n2]
  have eS : w32 (1 - (H2 64 18)) = (S : Int) := by rw [k2 18 (by decide) (by decide) (by decide), h18, w32_i (by omega) (by omega)]; omega
  refine rd_45 (by rw [eS]; omega) ?_
  rw [eS, st_nat, w32_i (x := 700 * ((S : Nat) : Int)) (by omega) (by omega)]
  -- the heap at the beginning
  have b64 : ∀ i, i ≠ 11 → i ≠ 12 → i ≠ 13 → i ≠ 15 → i ≠ 19 → i ≠ 39 → (gs (gs (gs (gs (gs (gs (gs (gs (gs H2 64 11 0) 64 12 0) 64 13 0) 64 15 0) 64 19 (S : Int)) 72 S 0) 76 S 0) 85 S 0) 64 39 (700 * (S : Int))) 64 i = H2 64 i := fun i n1 n2 n3 n4 n5 n6 => by rw [gs_at_ne n6, gs_ne (by decide), gs_ne (by decide), gs_ne (by decide), gs_at_ne n5, gs_at_ne n4, gs_at_ne n3, gs_at_ne n2, gs_at_ne n1]
  have bk : ∀ k, k ≠ 64 → k ≠ 72 → k ≠ 76 → k ≠ 85 → (gs (gs (gs (gs (gs (gs (gs (gs (gs H2 64 11 0) 64 12 0) 64 13 0) 64 15 0) 64 19 (S : Int)) 72 S 0) 76 S 0) 85 S 0) 64 39 (700 * (S : Int))) k = H2 k := fun k n1 n2 n3 n4 => by rw [gs_ne n1, gs_ne n4, gs_ne n3, gs_ne n2, gs_ne n1, gs_ne n1, gs_ne n1, gs_ne n1, gs_ne n1]
  have b72 : (gs (gs (gs (gs (gs (gs (gs (gs (gs H2 64 11 0) 64 12 0) 64 13 0) 64 15 0) 64 19 (S : Int)) 72 S 0) 76 S 0) 85 S 0) 64 39 (700 * (S : Int))) 72 S = 0 := by rw [gs_ne (by decide), gs_ne (by decide), gs_ne (by decide), gs_at]
  have b76 : (gs (gs (gs (gs (gs (gs (gs (gs (gs H2 64 11 0) 64 12 0) 64 13 0) 64 15 0) 64 19 (S : Int)) 72 S 0) 76 S 0) 85 S 0) 64 39 (700 * (S : Int))) 76 S = 0 := by rw [gs_ne (by decide), gs_ne (by decide), gs_at]
  have b85 : (gs (gs (gs (gs (gs (gs (gs (gs (gs H2 64 11 0) 64 12 0) 64 13 0) 64 15 0) 64 19 (S : Int)) 72 S 0) 76 S 0) 85 S 0) 64 39 (700 * (S : Int))) 85 S = 0 := by rw [gs_ne (by decide), gs_at]
  have b39 : (gs (gs (gs (gs (gs (gs (gs (gs (gs H2 64 11 0) 64 12 0) 64 13 0) 64 15 0) 64 19 (S : Int)) 72 S 0) 76 S 0) 85 S 0) 64 39 (700 * (S : Int))) 64 39 = ((700 * S : Nat) : Int) := by rw [gs_at]; omega
  have b11 : (gs (gs (gs (gs (gs (gs (gs (gs (gs H2 64 11 0) 64 12 0) 64 13 0) 64 15 0) 64 19 (S : Int)) 72 S 0) 76 S 0) 85 S 0) 64 39 (700 * (S : Int))) 64 11 = 0 := by rw [gs_at_ne (by decide), gs_ne (by decide), gs_ne (by decide), gs_ne (by decide), gs_at_ne (by decide), gs_at_ne (by decide), gs_at_ne (by decide), gs_at_ne (by decide), gs_at]
  have b12 : (gs (gs (gs (gs (gs (gs (gs (gs (gs H2 64 11 0) 64 12 0) 64 13 0) 64 15 0) 64 19 (S : Int)) 72 S 0) 76 S 0) 85 S 0) 64 39 (700 * (S : Int))) 64 12 = 0 := by rw [gs_at_ne (by decide), gs_ne (by decide), gs_ne (by decide), gs_ne (by decide), gs_at_ne (by decide), gs_at_ne (by decide), gs_at_ne (by decide), gs_at]
  have b13 : (gs (gs (gs (gs (gs (gs (gs (gs (gs H2 64 11 0) 64 12 0) 64 13 0) 64 15 0) 64 19 (S : Int)) 72 S 0) 76 S 0) 85 S 0) 64 39 (700 * (S : Int))) 64 13 = 0 := by rw [gs_at_ne (by decide), gs_ne (by decide), gs_ne (by decide), gs_ne (by decide), gs_at_ne (by decide), gs_at_ne (by decide), gs_at]
  have b15 : (gs (gs (gs (gs (gs (gs (gs (gs (gs H2 64 11 0) 64 12 0) 64 13 0) 64 15 0) 64 19 (S : Int)) 72 S 0) 76 S 0) 85 S 0) 64 39 (700 * (S : Int))) 64 15 = 0 := by rw [gs_at_ne (by decide), gs_ne (by decide), gs_ne (by decide), gs_ne (by decide), gs_at_ne (by decide), gs_at]
  have b19 : (gs (gs (gs (gs (gs (gs (gs (gs (gs H2 64 11 0) 64 12 0) 64 13 0) 64 15 0) 64 19 (S : Int)) 72 S 0) 76 S 0) 85 S 0) 64 39 (700 * (S : Int))) 64 19 = (S : Int) := by rw [gs_at_ne (by decide), gs_ne (by decide), gs_ne (by decide), gs_ne (by decide), gs_at]
  have bo : ∀ i, i ≠ S → (gs (gs (gs (gs (gs (gs (gs (gs (gs H2 64 11 0) 64 12 0) 64 13 0) 64 15 0) 64 19 (S : Int)) 72 S 0) 76 S 0) 85 S 0) 64 39 (700 * (S : Int))) 72 i = H2 72 i ∧ (gs (gs (gs (gs (gs (gs (gs (gs (gs H2 64 11 0) 64 12 0) 64 13 0) 64 15 0) 64 19 (S : Int)) 72 S 0) 76 S 0) 85 S 0) 64 39 (700 * (S : Int))) 76 i = H2 76 i ∧ (gs (gs (gs (gs (gs (gs (gs (gs (gs H2 64 11 0) 64 12 0) 64 13 0) 64 15 0) 64 19 (S : Int)) 72 S 0) 76 S 0) 85 S 0) 64 39 (700 * (S : Int))) 85 i = H2 85 i := fun i n1 => ⟨by rw [gs_ne (by decide), gs_ne (by decide), gs_ne (by decide), gs_at_ne n1, gs_ne (by decide), gs_ne (by decide), gs_ne (by decide), gs_ne (by decide), gs_ne (by decide)], by rw [gs_ne (by decide), gs_ne (by decide), gs_at_ne n1, gs_ne (by decide), gs_ne (by decide), gs_ne (by decide), gs_ne (by decide), gs_ne (by decide), gs_ne (by decide)], by rw [gs_ne (by decide), gs_at_ne n1, gs_ne (by decide), gs_ne (by decide), gs_ne (by decide), gs_ne (by decide), gs_ne (by decide), gs_ne (by decide), gs_ne (by decide)]⟩
  have b02 : (gs (gs (gs (gs (gs (gs (gs (gs (gs H2 64 11 0) 64 12 0) 64 13 0) 64 15 0) 64 19 (S : Int)) 72 S 0) 76 S 0) 85 S 0) 64 39 (700 * (S : Int))) 64 2 = 0 := by rw [gs_at_ne (by decide), gs_ne (by decide), gs_ne (by decide), gs_ne (by decide), gs_at_ne (by decide), gs_at_ne (by decide), gs_at_ne (by decide), gs_at_ne (by decide), gs_at_ne (by decide), c2 2 (by decide), gs_at]
  generalize (gs (gs (gs (gs (gs (gs (gs (gs (gs H2 64 11 0) 64 12 0) 64 13 0) 64 15 0) 64 19 (S : Int)) 72 S 0) 76 S 0) 85 S 0) 64 39 (700 * (S : Int))) = B at *
  have hfr : frm (insB S) G1 B := by
    intro k i hi
    by_cases y1 : k = 64
    · subst y1
      have n1 : i ≠ 2 ∧ i ≠ 4 ∧ i ≠ 10 ∧ i ≠ 11 ∧ i ≠ 12 ∧ i ≠ 13 ∧ i ≠ 15 ∧ i ≠ 19 ∧ i ≠ 39 := by unfold insB ins at hi; omega
      rw [b64 i n1.2.2.2.1 n1.2.2.2.2.1 n1.2.2.2.2.2.1 n1.2.2.2.2.2.2.1 n1.2.2.2.2.2.2.2.1 n1.2.2.2.2.2.2.2.2, k2 i n1.1 n1.2.1 n1.2.2.1]
    · have n2 : ¬ (66 ≤ k ∧ k ≤ 70) := fun y => hi (Or.inr (Or.inl y))
      by_cases y2 : k = 72 ∨ k = 76 ∨ k = 85
      · have n3 : i ≠ S := by unfold insB ins at hi; omega
        rcases y2 with y | y | y <;> subst y
        · rw [(bo i n3).1, k1 72 y1 n2]
        · rw [(bo i n3).2.1, k1 76 y1 n2]
        · rw [(bo i n3).2.2, k1 85 y1 n2]
      · rw [bk k y1 (fun y => y2 (Or.inl y)) (fun y => y2 (Or.inr (Or.inl y))) (fun y => y2 (Or.inr (Or.inr y))), k1 k y1 n2]
  have hTR : tkR (tb L r) K B := by
    intro i hi
    rw [bk 67 (by decide) (by decide) (by decide) (by decide), bk 68 (by decide) (by decide) (by decide) (by decide), bk 69 (by decide) (by decide) (by decide) (by decide), bk 70 (by decide) (by decide) (by decide) (by decide)]
    exact c4 i hi
  have hT : rT (tb L r) K 0 B := ⟨hTR, b11, by omega, by omega, hK.elim Or.inl (fun y => Or.inr y.2.2)⟩
  have hJ := J8_0 (S := S) hcs hF h8 hT b13 z w ap b39 b85 b12 b15 b72 b76 b19
  refine read_loop hc hS (fun H' hb => ?_) (fun t n m p l qq H' hg => read_139 hc hS hfr b19 b02 hg (fun H w1 w2 => q2 t n m p l qq H' H w1 w2) (fun H w1 w2 => q3 t n m p l qq H' H w1 w2)) 601 0 (by omega) 0 0 0 0 0 s0 B hJ
  have hp := hb.1.1
  refine rd_139 (fun _ => ?_) (fun y => absurd y (by omega))
  exact rd_202 (fun _ => q1 H' hb.1 (fun k i hi => by rw [← hfr k i hi]; exact hb.2.1 k i (fun y => hi (Or.inr (Or.inr y)))) (by rw [Fr_64 hb.2.1 (by decide)]; exact b02)) (fun y => absurd y (by omega)) (fun y => absurd y (by omega))
end RDR
