/-! ===== printed by wip/whole/gen26e.py: the class's search ===== -/
theorem mMin_l {x y : Int} (h : x ≤ y) : mMin x y = x := by unfold mMin; rw [if_neg (by omega)]
theorem ok_eq {c : Nat} {G0 H Hj : mG} {b : Nat} {ah : Int} (hS : sStat G0 Hj) (h33 : Hj 33 = H 33) (h0 : Hj c = G0 c) (h3 : Hj (c + 3) = G0 (c + 3)) (w : Int) : sOk (cP c G0) b ah (H 33) w = (!(decide (f_X8_isFree Hj w = 0)) && decide (f_X8_areRivals c Hj ((b : Nat) : Int) ah (sow (cP c G0) w) = 0)) := by
  unfold sOk
  have e1 : sFree (H 33) w = !(decide (f_X8_isFree Hj w = 0)) := by
    unfold sFree f_X8_isFree
    rw [h33]
    by_cases q1 : w < 0
    · rw [if_pos q1]; simp [q1]
    · rw [if_neg q1]
      by_cases q2 : ((40 : Nat) : Int) ≤ w
      · rw [if_pos q2]
        have : ¬ w < 40 := by omega
        simp [q1, this]
      · rw [if_neg q2]
        have q3 : w < 40 := by omega
        by_cases q4 : H 33 (Int.toNat w) ≤ 0
        · rw [if_pos q4]
          have : ¬ 0 < H 33 (Int.toNat w) := by omega
          simp [q1, this]
        · rw [if_neg q4]
          have : 0 < H 33 (Int.toNat w) := by omega
          simp [q3, this]
  have e2 : (!(sbe (cP c G0) b && sap (cP c G0) ah (sow (cP c G0) w))) = decide (f_X8_areRivals c Hj ((b : Nat) : Int) ah (sow (cP c G0) w) = 0) := by
    show (!(decide (f_X0_isBesideOneAhead G0 ((b : Nat) : Int) = 1) && decide (f_X1_areApart c G0 ah (sow (cP c G0) w) = 1))) = _
    unfold f_X8_areRivals
    rw [f_bes_to (hS.k 1 (by decide)) (hS.k 6 (by decide)), f_apt_to h0 h3]
    rcases fa_bes G0 ((b : Nat) : Int) with q | q <;> rcases fa_X1_areApart c G0 ah (sow (cP c G0) w) with p | p <;> simp [q, p]
  rw [e1, e2]
set_option maxHeartbeats 4000000 in
theorem sp_X8_fill {c : Nat} (hc : c = 40 ∨ c = 52) {G0 : mG} {n : Nat} {lf0 : Nat → Int} {b0 : Nat} (hF : sF c G0 n lf0 b0) : ∀ (m b : Nat), b + m = n → b0 ≤ b → ∀ (e : Nat), m + 10 ≤ e → ∀ (D : Nat → Bool) (hD : ∀ k, D k = false → inN [29, 33, 35, 36, 38, 39] k = false) (g ah : Int) (H : mG) (Q : Option mV → mG → Prop), sStat G0 H → (∀ w, w < 40 → 0 ≤ H 33 w ∧ H 33 w ≤ lf0 w) → (-(b : Int) ≤ g ∧ g ≤ 160000 * (b : Int)) → (-1 ≤ ah ∧ ah < 8) → SI c G0 n b H → (∀ G', fPost c G0 n m b g ah H G' → Q none G') → P2 D e M_X8_fill [mR 34, mI ((b : Nat) : Int), mI g, mI ah] H Q := by
  rcases hc with rfl | rfl
  · skip
    intro m
    induction m with
    | zero =>
      intro b hb hb0 e he D hD g ah H Q hS hl hg hah hSI hQ
      obtain ⟨q, rfl⟩ : ∃ q, e = q + 10 := ⟨e - 10, by omega⟩
      have hbn : b = n := by omega
      subst hbn
      obtain ⟨f1, f2, f3, f4, f5, f6, f7, f8, f9, f10, f11, f12, f13⟩ := hF
      have e4 : H 29 4 = (b : Int) := by rw [hS.2 4 (by decide)]; exact f2
      refine MP.to (D2 := inN [29, 33, 35, 36, 38, 39]) (Q2 := Q) ?_ hD (fun v G' q _ => q)
      refine p2_vc [60] 400 oo_X8 q_X8_fill (by decide) rfl (Nat.le_of_ble_eq_true rfl) ?_
      refine ⟨fun (c1 : ((b : Nat) : Int) < 0) => ?_, fun (c1 : 0 ≤ ((b : Nat) : Int)) => ?_⟩
      · skip
        refine sp_X8_keep  (insub (by decide)) ?_
        exfalso; omega
      · skip
        refine ⟨fun (c3 : (H 29 4) ≤ ((b : Nat) : Int)) => ?_, fun (c3 : ((b : Nat) : Int) < (H 29 4)) => ?_⟩
        · skip
          refine sp_X8_keep  (insub (by decide)) ?_
          exact hQ _ (fl_leaf hS g ah)
        · skip
          exfalso; first | omega | (rw [w32_i (by omega) (by omega)] at c4; omega) | (simp (disch := omega) only [w32_i] at *; omega)
    | succ m ih =>
      intro b hb hb0 e he D hD g ah H Q hS hl hg hah hSI hQ
      obtain ⟨q, rfl⟩ : ∃ q, e = q + 10 := ⟨e - 10, by omega⟩
      have hF0 := hF
      obtain ⟨f1, f2, f3, f4, f5, f6, f7, f8, f9, f10, f11, f12, f13⟩ := hF0
      have hv : vS ah (H 33) := ⟨hah, fun w hw => (hl w hw).1⟩
      have e4 : H 29 4 = (n : Int) := by rw [hS.2 4 (by decide)]; exact f2
      have hp : H 29 3 = 45 := by rw [hS.2 3 (by decide)]; exact f3
      have h12 : H 40 12 ≤ 40 := by rw [hS.k 40 (by decide)]; exact f4.2
      have hkey := key_eq (c := 40) (by decide) hF hS (show b < n by omega) hv
      have hob := f5 b (by omega)
      have hloop : ∀ {H1 : mG}, oH 40 G0 b g ah H H1 → ∀ t j, j + t = (G0 30 b).toNat → ∀ Hj, fI 40 G0 n m b g ah H H1 j Hj → W2 o_X8 M_X8_fill (inN [29, 33, 35, 36, 38, 39]) (q + 10) Q 60 [some (mR 34), some (mI ((b : Nat) : Int)), some (mI g), some (mI ah), some (mI ((5 * b + (G0 30 b).toNat : Nat) : Int)), some (mI ((5 * b + j : Nat) : Int)), none, none, none] [] Hj := by
        intro H1 hoo t
        induction t with
        | zero =>
          intro j hj Hj hfi
          have hpj : Hj 29 3 = 45 := by rw [hfi.1.2 3 (by decide)]; exact f3
          refine w2_vc [60] 400 oo_X8 q_X8_fill ?_
          refine ⟨fun (c1 : ((5 * b + (G0 30 b).toNat : Nat) : Int) ≤ ((5 * b + j : Nat) : Int)) => ?_, fun (c1 : ((5 * b + j : Nat) : Int) < ((5 * b + (G0 30 b).toNat : Nat) : Int)) => ?_⟩
          · skip
            exact hQ _ (fI_end hF hb hS hv hSI hoo (by rw [show sop (cP 40 G0) b = j from by show (G0 30 b).toNat = j; omega]; exact hfi))
          · skip
            exfalso; first | omega | (rw [w32_i (by omega) (by omega)] at c1; omega) | (simp (disch := omega) only [w32_i] at *; omega)
        | succ t iht =>
          intro j hj Hj hfi
          have hSj := hfi.1
          have hpj : Hj 29 3 = 45 := by rw [hSj.2 3 (by decide)]; exact f3
          have hjo : j < sop (cP 40 G0) b := by show j < (G0 30 b).toNat; omega
          have hgb : -1 ≤ sgn (cP 40 G0) b j ∧ sgn (cP 40 G0) b j ≤ 160000 := (f6 b j (by omega) (by omega)).2
          have ew : Unit → Hj 31 (Int.toNat ((5 * b + j : Nat) : Int)) = scl (cP 40 G0) b j := fun _ => by rw [st_nat, hSj.k 31 (by decide)]; rfl
          have eow : Unit → f_X1_ownerOf 40 Hj (scl (cP 40 G0) b j) = sow (cP 40 G0) (scl (cP 40 G0) b j) := fun _ => f_own_to (hSj.k 40 (by decide)) (hSj.k 45 (by decide)) _
          have esum : Unit → w32 (g + (Hj 32 (Int.toNat ((5 * b + j : Nat) : Int)))) = g + sgn (cP 40 G0) b j := fun _ => by
            rw [st_nat, hSj.k 32 (by decide)]
            exact w32_i (x := g + sgn (cP 40 G0) b j) (by omega) (by omega)
          have emf : Unit → w32 ((g + sgn (cP 40 G0) b j) + (Hj 37 (Int.toNat (w32 (((b : Nat) : Int) + 1))))) = g + sgn (cP 40 G0) b j + G0 37 (b + 1) := fun _ => by
            have h37 := (f13 (b + 1) (by omega) (by omega)).2
            rw [w32_i (x := ((b : Nat) : Int) + 1) (by omega) (by omega), show Int.toNat (((b : Nat) : Int) + 1) = b + 1 by omega, hSj.k 37 (by decide)]
            exact w32_i (by omega) (by omega)
          have enx : Unit → w32 (((5 * b + j : Nat) : Int) + 1) = ((5 * b + (j + 1) : Nat) : Int) := fun _ => by rw [w32_i (by omega) (by omega)]; omega
          have eok : Unit → sOk (cP 40 G0) b ah (H 33) (scl (cP 40 G0) b j) = (!(decide (f_X8_isFree Hj (scl (cP 40 G0) b j) = 0)) && decide (f_X8_areRivals 40 Hj ((b : Nat) : Int) ah (sow (cP 40 G0) (scl (cP 40 G0) b j)) = 0)) := fun _ => ok_eq hSj hfi.2.1 (hSj.k 40 (by decide)) (hSj.k 43 (by decide)) _
          refine w2_vc [60, 76, 80, 87, 98, 151, 162, 169] 400 oo_X8 q_X8_fill ?_
          refine ⟨fun (c1 : ((5 * b + (G0 30 b).toNat : Nat) : Int) ≤ ((5 * b + j : Nat) : Int)) => ?_, fun (c1 : ((5 * b + j : Nat) : Int) < ((5 * b + (G0 30 b).toNat : Nat) : Int)) => ?_⟩
          · skip
            exfalso; first | omega | (rw [w32_i (by omega) (by omega)] at c1; omega) | (simp (disch := omega) only [w32_i] at *; omega)
          · skip
            refine ⟨(show 0 ≤ ((5 * b + j : Nat) : Int) ∧ ((5 * b + j : Nat) : Int) < ((45 : Nat) : Int) from by first | omega | (simp (disch := omega) only [w32_i]; omega)), ?_⟩
            refine (show W2 o_X8 M_X8_fill (inN [29, 33, 35, 36, 38, 39]) (q + 10) Q 76 [some (mR 34), some (mI ((b : Nat) : Int)), some (mI g), some (mI ah), some (mI ((5 * b + (G0 30 b).toNat : Nat) : Int)), some (mI ((5 * b + j : Nat) : Int)), some (mI (Hj 31 (Int.toNat ((5 * b + j : Nat) : Int)))), none, none] [] Hj from ?_)
            rw [ew ()]
            refine (show W2 o_X8 M_X8_fill (inN [29, 33, 35, 36, 38, 39]) (q + 10) Q 76 [some (mR 34), some (mI ((b : Nat) : Int)), some (mI g), some (mI ah), some (mI ((5 * b + (G0 30 b).toNat : Nat) : Int)), some (mI ((5 * b + j : Nat) : Int)), some (mI (scl (cP 40 G0) b j)), none, none] [] Hj from ?_)
            refine w2_vc [60, 76, 80, 87, 98, 151, 162, 169] 400 oo_X8 q_X8_fill ?_
            refine (show W2 o_X8 M_X8_fill (inN [29, 33, 35, 36, 38, 39]) (q + 10) Q 80 [some (mR 34), some (mI ((b : Nat) : Int)), some (mI g), some (mI ah), some (mI ((5 * b + (G0 30 b).toNat : Nat) : Int)), some (mI ((5 * b + j : Nat) : Int)), some (mI (scl (cP 40 G0) b j)), none, none] [mR (Int.toNat (Hj 29 3))] Hj from ?_)
            rw [show (Hj 29 3) = 45 from by (try simp (disch := decide) only [gs_ne, gs_at_ne]); exact hpj]
            refine (show W2 o_X8 M_X8_fill (inN [29, 33, 35, 36, 38, 39]) (q + 10) Q 80 [some (mR 34), some (mI ((b : Nat) : Int)), some (mI g), some (mI ah), some (mI ((5 * b + (G0 30 b).toNat : Nat) : Int)), some (mI ((5 * b + j : Nat) : Int)), some (mI (scl (cP 40 G0) b j)), none, none] [mR 45] Hj from ?_)
            refine w2_vc [60, 76, 80, 87, 98, 151, 162, 169] 400 oo_X8 q_X8_fill ?_
            refine sp_X1_ownerOf (by decide) ?_
            refine (show W2 o_X8 M_X8_fill (inN [29, 33, 35, 36, 38, 39]) (q + 10) Q 87 [some (mR 34), some (mI ((b : Nat) : Int)), some (mI g), some (mI ah), some (mI ((5 * b + (G0 30 b).toNat : Nat) : Int)), some (mI ((5 * b + j : Nat) : Int)), some (mI (scl (cP 40 G0) b j)), some (mI (f_X1_ownerOf 40 Hj (scl (cP 40 G0) b j))), none] [] Hj from ?_)
            rw [eow ()]
            refine (show W2 o_X8 M_X8_fill (inN [29, 33, 35, 36, 38, 39]) (q + 10) Q 87 [some (mR 34), some (mI ((b : Nat) : Int)), some (mI g), some (mI ah), some (mI ((5 * b + (G0 30 b).toNat : Nat) : Int)), some (mI ((5 * b + j : Nat) : Int)), some (mI (scl (cP 40 G0) b j)), some (mI (sow (cP 40 G0) (scl (cP 40 G0) b j))), none] [] Hj from ?_)
            refine w2_vc [60, 76, 80, 87, 98, 151, 162, 169] 400 oo_X8 q_X8_fill ?_
            refine ⟨(show 0 ≤ ((5 * b + j : Nat) : Int) ∧ ((5 * b + j : Nat) : Int) < ((45 : Nat) : Int) from by first | omega | (simp (disch := omega) only [w32_i]; omega)), ?_⟩
            refine (show W2 o_X8 M_X8_fill (inN [29, 33, 35, 36, 38, 39]) (q + 10) Q 98 [some (mR 34), some (mI ((b : Nat) : Int)), some (mI g), some (mI ah), some (mI ((5 * b + (G0 30 b).toNat : Nat) : Int)), some (mI ((5 * b + j : Nat) : Int)), some (mI (scl (cP 40 G0) b j)), some (mI (sow (cP 40 G0) (scl (cP 40 G0) b j))), some (mI (w32 (g + (Hj 32 (Int.toNat ((5 * b + j : Nat) : Int))))))] [] Hj from ?_)
            rw [esum ()]
            refine (show W2 o_X8 M_X8_fill (inN [29, 33, 35, 36, 38, 39]) (q + 10) Q 98 [some (mR 34), some (mI ((b : Nat) : Int)), some (mI g), some (mI ah), some (mI ((5 * b + (G0 30 b).toNat : Nat) : Int)), some (mI ((5 * b + j : Nat) : Int)), some (mI (scl (cP 40 G0) b j)), some (mI (sow (cP 40 G0) (scl (cP 40 G0) b j))), some (mI (g + sgn (cP 40 G0) b j))] [] Hj from ?_)
            refine w2_vc [60, 76, 80, 87, 98, 151, 162, 169] 400 oo_X8 q_X8_fill ?_
            refine ⟨(show 0 ≤ (w32 (((b : Nat) : Int) + 1)) ∧ (w32 (((b : Nat) : Int) + 1)) < ((10 : Nat) : Int) from by first | omega | (simp (disch := omega) only [w32_i]; omega)), ?_⟩
            refine ⟨fun (c3 : (w32 ((g + sgn (cP 40 G0) b j) + (Hj 37 (Int.toNat (w32 (((b : Nat) : Int) + 1)))))) ≤ (Hj 29 15)) => ?_, fun (c3 : (Hj 29 15) < (w32 ((g + sgn (cP 40 G0) b j) + (Hj 37 (Int.toNat (w32 (((b : Nat) : Int) + 1))))))) => ?_⟩
            · skip
              refine (show W2 o_X8 M_X8_fill (inN [29, 33, 35, 36, 38, 39]) (q + 10) Q 169 [some (mR 34), some (mI ((b : Nat) : Int)), some (mI g), some (mI ah), some (mI ((5 * b + (G0 30 b).toNat : Nat) : Int)), some (mI ((5 * b + j : Nat) : Int)), some (mI (scl (cP 40 G0) b j)), some (mI (sow (cP 40 G0) (scl (cP 40 G0) b j))), some (mI (g + sgn (cP 40 G0) b j))] [] Hj from ?_)
              refine w2_vc [60, 76, 80, 87, 98, 151, 162, 169] 400 oo_X8 q_X8_fill ?_
              refine (show W2 o_X8 M_X8_fill (inN [29, 33, 35, 36, 38, 39]) (q + 10) Q 60 [some (mR 34), some (mI ((b : Nat) : Int)), some (mI g), some (mI ah), some (mI ((5 * b + (G0 30 b).toNat : Nat) : Int)), some (mI (w32 (((5 * b + j : Nat) : Int) + 1))), some (mI (scl (cP 40 G0) b j)), some (mI (sow (cP 40 G0) (scl (cP 40 G0) b j))), some (mI (g + sgn (cP 40 G0) b j))] [] Hj from ?_)
              rw [enx ()]
              refine WP.fg (L' := [some (mR 34), some (mI ((b : Nat) : Int)), some (mI g), some (mI ah), some (mI ((5 * b + (G0 30 b).toNat : Nat) : Int)), some (mI ((5 * b + (j + 1) : Nat) : Int)), none, none, none]) ⟨rfl, rfl, rfl, rfl, rfl, rfl, trivial⟩ ?_
              exact iht (j + 1) (by omega) Hj (fI_bd hF hb0 hb hl hfi (by rw [emf ()] at c3; omega))
            · skip
              refine sp_X8_isFree  ?_
              refine ⟨fun (c5 : (f_X8_isFree Hj (scl (cP 40 G0) b j)) = 0) => ?_, fun (c5 : ¬ (f_X8_isFree Hj (scl (cP 40 G0) b j)) = 0) => ?_⟩
              · skip
                refine (show W2 o_X8 M_X8_fill (inN [29, 33, 35, 36, 38, 39]) (q + 10) Q 169 [some (mR 34), some (mI ((b : Nat) : Int)), some (mI g), some (mI ah), some (mI ((5 * b + (G0 30 b).toNat : Nat) : Int)), some (mI ((5 * b + j : Nat) : Int)), some (mI (scl (cP 40 G0) b j)), some (mI (sow (cP 40 G0) (scl (cP 40 G0) b j))), some (mI (g + sgn (cP 40 G0) b j))] [] Hj from ?_)
                refine w2_vc [60, 76, 80, 87, 98, 151, 162, 169] 400 oo_X8 q_X8_fill ?_
                refine (show W2 o_X8 M_X8_fill (inN [29, 33, 35, 36, 38, 39]) (q + 10) Q 60 [some (mR 34), some (mI ((b : Nat) : Int)), some (mI g), some (mI ah), some (mI ((5 * b + (G0 30 b).toNat : Nat) : Int)), some (mI (w32 (((5 * b + j : Nat) : Int) + 1))), some (mI (scl (cP 40 G0) b j)), some (mI (sow (cP 40 G0) (scl (cP 40 G0) b j))), some (mI (g + sgn (cP 40 G0) b j))] [] Hj from ?_)
                rw [enx ()]
                refine WP.fg (L' := [some (mR 34), some (mI ((b : Nat) : Int)), some (mI g), some (mI ah), some (mI ((5 * b + (G0 30 b).toNat : Nat) : Int)), some (mI ((5 * b + (j + 1) : Nat) : Int)), none, none, none]) ⟨rfl, rfl, rfl, rfl, rfl, rfl, trivial⟩ ?_
                exact iht (j + 1) (by omega) Hj (fI_no hfi (by rw [eok ()]; simp [c5]))
              · skip
                refine sp_X8_areRivals (by decide) (hpj) ?_
                have c7 := fa_X8_areRivals 40 Hj ((b : Nat) : Int) ah (sow (cP 40 G0) (scl (cP 40 G0) b j))
                refine ⟨fun (c8 : ¬ (f_X8_areRivals 40 Hj ((b : Nat) : Int) ah (sow (cP 40 G0) (scl (cP 40 G0) b j))) = 0) => ?_, fun (c8 : (f_X8_areRivals 40 Hj ((b : Nat) : Int) ah (sow (cP 40 G0) (scl (cP 40 G0) b j))) = 0) => ?_⟩
                · skip
                  refine (show W2 o_X8 M_X8_fill (inN [29, 33, 35, 36, 38, 39]) (q + 10) Q 169 [some (mR 34), some (mI ((b : Nat) : Int)), some (mI g), some (mI ah), some (mI ((5 * b + (G0 30 b).toNat : Nat) : Int)), some (mI ((5 * b + j : Nat) : Int)), some (mI (scl (cP 40 G0) b j)), some (mI (sow (cP 40 G0) (scl (cP 40 G0) b j))), some (mI (g + sgn (cP 40 G0) b j))] [] Hj from ?_)
                  refine w2_vc [60, 76, 80, 87, 98, 151, 162, 169] 400 oo_X8 q_X8_fill ?_
                  refine (show W2 o_X8 M_X8_fill (inN [29, 33, 35, 36, 38, 39]) (q + 10) Q 60 [some (mR 34), some (mI ((b : Nat) : Int)), some (mI g), some (mI ah), some (mI ((5 * b + (G0 30 b).toNat : Nat) : Int)), some (mI (w32 (((5 * b + j : Nat) : Int) + 1))), some (mI (scl (cP 40 G0) b j)), some (mI (sow (cP 40 G0) (scl (cP 40 G0) b j))), some (mI (g + sgn (cP 40 G0) b j))] [] Hj from ?_)
                  rw [enx ()]
                  refine WP.fg (L' := [some (mR 34), some (mI ((b : Nat) : Int)), some (mI g), some (mI ah), some (mI ((5 * b + (G0 30 b).toNat : Nat) : Int)), some (mI ((5 * b + (j + 1) : Nat) : Int)), none, none, none]) ⟨rfl, rfl, rfl, rfl, rfl, rfl, trivial⟩ ?_
                  exact iht (j + 1) (by omega) Hj (fI_no hfi (by rw [eok ()]; simp [c8]))
                · skip
                  have htk := fI_take hF hb hjo hl hfi (by rw [eok ()]; simp [c5, c8])
                  refine sp_X8_use  (insub (by decide)) ?_
                  refine ⟨(show 0 ≤ ((b : Nat) : Int) ∧ ((b : Nat) : Int) < ((9 : Nat) : Int) from by first | omega | (simp (disch := omega) only [w32_i]; omega)), ?_⟩
                  refine (show W2 o_X8 M_X8_fill (inN [29, 33, 35, 36, 38, 39]) (q + 10) Q 151 [some (mR 34), some (mI ((b : Nat) : Int)), some (mI g), some (mI ah), some (mI ((5 * b + (G0 30 b).toNat : Nat) : Int)), some (mI ((5 * b + j : Nat) : Int)), some (mI (scl (cP 40 G0) b j)), some (mI (sow (cP 40 G0) (scl (cP 40 G0) b j))), some (mI (g + sgn (cP 40 G0) b j))] [] (gs (e_X8_use Hj (scl (cP 40 G0) b j) (-1)) 35 b (scl (cP 40 G0) b j)) from ?_)
                  refine w2_vc [60, 76, 80, 87, 98, 151, 162, 169] 400 oo_X8 q_X8_fill ?_
                  refine (show P2 (inN [29, 33, 35, 36, 38, 39]) (q + 9) M_X8_fill [mR 34, mI (w32 (((b : Nat) : Int) + 1)), mI (g + sgn (cP 40 G0) b j), mI (sow (cP 40 G0) (scl (cP 40 G0) b j))] (gs (e_X8_use Hj (scl (cP 40 G0) b j) (-1)) 35 b (scl (cP 40 G0) b j)) _ from ?_)
                  rw [show (w32 (((b : Nat) : Int) + 1)) = ((b + 1 : Nat) : Int) from by (rw [w32_i (by omega) (by omega)]; omega)]
                  refine ih (b + 1) (by omega) (by omega) (q + 9) (by omega) _ (fun k h => h) (g + sgn (cP 40 G0) b j) (sow (cP 40 G0) (scl (cP 40 G0) b j)) _ _ htk.1.1 htk.1.2.1 (by omega) (f7 _) htk.1.2.2 (fun H3 hp3 => ?_)
                  refine (show W2 o_X8 M_X8_fill (inN [29, 33, 35, 36, 38, 39]) (q + 10) Q 162 [some (mR 34), some (mI ((b : Nat) : Int)), some (mI g), some (mI ah), some (mI ((5 * b + (G0 30 b).toNat : Nat) : Int)), some (mI ((5 * b + j : Nat) : Int)), some (mI (scl (cP 40 G0) b j)), some (mI (sow (cP 40 G0) (scl (cP 40 G0) b j))), some (mI (g + sgn (cP 40 G0) b j))] [] H3 from ?_)
                  refine w2_vc [60, 76, 80, 87, 98, 151, 162, 169] 400 oo_X8 q_X8_fill ?_
                  refine sp_X8_use  (insub (by decide)) ?_
                  refine (show W2 o_X8 M_X8_fill (inN [29, 33, 35, 36, 38, 39]) (q + 10) Q 169 [some (mR 34), some (mI ((b : Nat) : Int)), some (mI g), some (mI ah), some (mI ((5 * b + (G0 30 b).toNat : Nat) : Int)), some (mI ((5 * b + j : Nat) : Int)), some (mI (scl (cP 40 G0) b j)), some (mI (sow (cP 40 G0) (scl (cP 40 G0) b j))), some (mI (g + sgn (cP 40 G0) b j))] [] (e_X8_use H3 (scl (cP 40 G0) b j) 1) from ?_)
                  refine w2_vc [60, 76, 80, 87, 98, 151, 162, 169] 400 oo_X8 q_X8_fill ?_
                  refine (show W2 o_X8 M_X8_fill (inN [29, 33, 35, 36, 38, 39]) (q + 10) Q 60 [some (mR 34), some (mI ((b : Nat) : Int)), some (mI g), some (mI ah), some (mI ((5 * b + (G0 30 b).toNat : Nat) : Int)), some (mI (w32 (((5 * b + j : Nat) : Int) + 1))), some (mI (scl (cP 40 G0) b j)), some (mI (sow (cP 40 G0) (scl (cP 40 G0) b j))), some (mI (g + sgn (cP 40 G0) b j))] [] (e_X8_use H3 (scl (cP 40 G0) b j) 1) from ?_)
                  rw [enx ()]
                  refine WP.fg (L' := [some (mR 34), some (mI ((b : Nat) : Int)), some (mI g), some (mI ah), some (mI ((5 * b + (G0 30 b).toNat : Nat) : Int)), some (mI ((5 * b + (j + 1) : Nat) : Int)), none, none, none]) ⟨rfl, rfl, rfl, rfl, rfl, rfl, trivial⟩ ?_
                  exact iht (j + 1) (by omega) _ (htk.2 H3 hp3)
      refine MP.to (D2 := inN [29, 33, 35, 36, 38, 39]) (Q2 := Q) ?_ hD (fun v G' q _ => q)
      refine p2_vc [55, 60] 400 oo_X8 q_X8_fill (by decide) rfl (Nat.le_of_ble_eq_true rfl) ?_
      refine ⟨fun (c1 : ((b : Nat) : Int) < 0) => ?_, fun (c1 : 0 ≤ ((b : Nat) : Int)) => ?_⟩
      · skip
        refine sp_X8_keep  (insub (by decide)) ?_
        exfalso; omega
      · skip
        refine ⟨fun (c3 : (H 29 4) ≤ ((b : Nat) : Int)) => ?_, fun (c3 : ((b : Nat) : Int) < (H 29 4)) => ?_⟩
        · skip
          exfalso; first | omega | (rw [w32_i (by omega) (by omega)] at c3; omega) | (simp (disch := omega) only [w32_i] at *; omega)
        · skip
          refine ⟨fun (c4 : ((b : Nat) : Int) < 9) => ?_, fun (c4 : 9 ≤ ((b : Nat) : Int)) => ?_⟩
          · skip
            refine sp_X8_isOutdone (by decide) (hp) (h12) (insub (by decide)) ?_
            refine ⟨fun (c6 : (r_X8_isOutdone 40 H ((b : Nat) : Int) g ah).1 = 0) => ?_, fun (c6 : ¬ (r_X8_isOutdone 40 H ((b : Nat) : Int) g ah).1 = 0) => ?_⟩
            · skip
              refine ⟨(show 0 ≤ ((b : Nat) : Int) ∧ ((b : Nat) : Int) < ((9 : Nat) : Int) from by first | omega | (simp (disch := omega) only [w32_i]; omega)), ?_⟩
              refine (show W2 o_X8 M_X8_fill (inN [29, 33, 35, 36, 38, 39]) (q + 10) Q 55 [some (mR 34), some (mI ((b : Nat) : Int)), some (mI g), some (mI ah), some (mI (mMin (w32 ((w32 (((b : Nat) : Int) * 5)) + ((r_X8_isOutdone 40 H ((b : Nat) : Int) g ah).2 30 (Int.toNat ((b : Nat) : Int))))) ((45 : Nat) : Int))), none, none, none, none] [] (r_X8_isOutdone 40 H ((b : Nat) : Int) g ah).2 from ?_)
              refine w2_vc [55, 60] 400 oo_X8 q_X8_fill ?_
              refine (show W2 o_X8 M_X8_fill (inN [29, 33, 35, 36, 38, 39]) (q + 10) Q 60 [some (mR 34), some (mI ((b : Nat) : Int)), some (mI g), some (mI ah), some (mI (mMin (w32 ((w32 (((b : Nat) : Int) * 5)) + ((r_X8_isOutdone 40 H ((b : Nat) : Int) g ah).2 30 (Int.toNat ((b : Nat) : Int))))) ((45 : Nat) : Int))), some (mI (w32 (((b : Nat) : Int) * 5))), none, none, none] [] (r_X8_isOutdone 40 H ((b : Nat) : Int) g ah).2 from ?_)
              have hoo : oH 40 G0 b g ah H (r_X8_isOutdone 40 H ((b : Nat) : Int) g ah).2 := by
                rcases outd (c := 40) H ((b : Nat) : Int) g ah with ho | ⟨r, hr, ⟨ho, hk, hg⟩ | ho⟩
                · rw [ho]; exact Or.inl rfl
                · rw [ho] at c6; exact absurd (show (1 : Int) = 0 from c6) (by decide)
                · rw [ho, hkey]; exact Or.inr ⟨r, hr, rfl⟩
              have hS1 := (sStat_o hS hoo).1
              rw [show (mMin (w32 ((w32 (((b : Nat) : Int) * 5)) + ((r_X8_isOutdone 40 H ((b : Nat) : Int) g ah).2 30 (Int.toNat ((b : Nat) : Int))))) ((45 : Nat) : Int)) = ((5 * b + (G0 30 b).toNat : Nat) : Int) from by (rw [hS1.k 30 (by decide), st_nat, w32_i (x := ((b : Nat) : Int) * 5) (by omega) (by omega), w32_i (by omega) (by omega), mMin_l (by omega)]; omega), show (w32 (((b : Nat) : Int) * 5)) = ((5 * b + 0 : Nat) : Int) from by (rw [w32_i (by omega) (by omega)]; omega)]
              exact hloop hoo (G0 30 b).toNat 0 (by omega) _ (fI_0 f1 (by omega) hb hS hv hSI hoo)
            · skip
              rcases outd (c := 40) H ((b : Nat) : Int) g ah with ho | ⟨r, hr, ⟨ho, hk, hg⟩ | ho⟩
              · rw [ho] at c6; exact absurd rfl c6
              · rw [ho]
                exact hQ _ (fl_out hb hS hv hSI hr (hkey.symm.trans hk.symm) hg)
              · rw [ho] at c6; exact absurd rfl c6
          · skip
            refine sp_X8_keep  (insub (by decide)) ?_
            exfalso; omega
  · skip
    intro m
    induction m with
    | zero =>
      intro b hb hb0 e he D hD g ah H Q hS hl hg hah hSI hQ
      obtain ⟨q, rfl⟩ : ∃ q, e = q + 10 := ⟨e - 10, by omega⟩
      have hbn : b = n := by omega
      subst hbn
      obtain ⟨f1, f2, f3, f4, f5, f6, f7, f8, f9, f10, f11, f12, f13⟩ := hF
      have e4 : H 29 4 = (b : Int) := by rw [hS.2 4 (by decide)]; exact f2
      refine MP.to (D2 := inN [29, 33, 35, 36, 38, 39]) (Q2 := Q) ?_ hD (fun v G' q _ => q)
      refine p2_vc [60] 400 oo_X8 q_X8_fill (by decide) rfl (Nat.le_of_ble_eq_true rfl) ?_
      refine ⟨fun (c1 : ((b : Nat) : Int) < 0) => ?_, fun (c1 : 0 ≤ ((b : Nat) : Int)) => ?_⟩
      · skip
        refine sp_X8_keep  (insub (by decide)) ?_
        exfalso; omega
      · skip
        refine ⟨fun (c3 : (H 29 4) ≤ ((b : Nat) : Int)) => ?_, fun (c3 : ((b : Nat) : Int) < (H 29 4)) => ?_⟩
        · skip
          refine sp_X8_keep  (insub (by decide)) ?_
          exact hQ _ (fl_leaf hS g ah)
        · skip
          exfalso; first | omega | (rw [w32_i (by omega) (by omega)] at c4; omega) | (simp (disch := omega) only [w32_i] at *; omega)
    | succ m ih =>
      intro b hb hb0 e he D hD g ah H Q hS hl hg hah hSI hQ
      obtain ⟨q, rfl⟩ : ∃ q, e = q + 10 := ⟨e - 10, by omega⟩
      have hF0 := hF
      obtain ⟨f1, f2, f3, f4, f5, f6, f7, f8, f9, f10, f11, f12, f13⟩ := hF0
      have hv : vS ah (H 33) := ⟨hah, fun w hw => (hl w hw).1⟩
      have e4 : H 29 4 = (n : Int) := by rw [hS.2 4 (by decide)]; exact f2
      have hp : H 29 3 = 57 := by rw [hS.2 3 (by decide)]; exact f3
      have h12 : H 52 12 ≤ 40 := by rw [hS.k 52 (by decide)]; exact f4.2
      have hkey := key_eq (c := 52) (by decide) hF hS (show b < n by omega) hv
      have hob := f5 b (by omega)
      have hloop : ∀ {H1 : mG}, oH 52 G0 b g ah H H1 → ∀ t j, j + t = (G0 30 b).toNat → ∀ Hj, fI 52 G0 n m b g ah H H1 j Hj → W2 o_X8 M_X8_fill (inN [29, 33, 35, 36, 38, 39]) (q + 10) Q 60 [some (mR 34), some (mI ((b : Nat) : Int)), some (mI g), some (mI ah), some (mI ((5 * b + (G0 30 b).toNat : Nat) : Int)), some (mI ((5 * b + j : Nat) : Int)), none, none, none] [] Hj := by
        intro H1 hoo t
        induction t with
        | zero =>
          intro j hj Hj hfi
          have hpj : Hj 29 3 = 57 := by rw [hfi.1.2 3 (by decide)]; exact f3
          refine w2_vc [60] 400 oo_X8 q_X8_fill ?_
          refine ⟨fun (c1 : ((5 * b + (G0 30 b).toNat : Nat) : Int) ≤ ((5 * b + j : Nat) : Int)) => ?_, fun (c1 : ((5 * b + j : Nat) : Int) < ((5 * b + (G0 30 b).toNat : Nat) : Int)) => ?_⟩
          · skip
            exact hQ _ (fI_end hF hb hS hv hSI hoo (by rw [show sop (cP 52 G0) b = j from by show (G0 30 b).toNat = j; omega]; exact hfi))
          · skip
            exfalso; first | omega | (rw [w32_i (by omega) (by omega)] at c1; omega) | (simp (disch := omega) only [w32_i] at *; omega)
        | succ t iht =>
          intro j hj Hj hfi
          have hSj := hfi.1
          have hpj : Hj 29 3 = 57 := by rw [hSj.2 3 (by decide)]; exact f3
          have hjo : j < sop (cP 52 G0) b := by show j < (G0 30 b).toNat; omega
          have hgb : -1 ≤ sgn (cP 52 G0) b j ∧ sgn (cP 52 G0) b j ≤ 160000 := (f6 b j (by omega) (by omega)).2
          have ew : Unit → Hj 31 (Int.toNat ((5 * b + j : Nat) : Int)) = scl (cP 52 G0) b j := fun _ => by rw [st_nat, hSj.k 31 (by decide)]; rfl
          have eow : Unit → f_X1_ownerOf 52 Hj (scl (cP 52 G0) b j) = sow (cP 52 G0) (scl (cP 52 G0) b j) := fun _ => f_own_to (hSj.k 52 (by decide)) (hSj.k 57 (by decide)) _
          have esum : Unit → w32 (g + (Hj 32 (Int.toNat ((5 * b + j : Nat) : Int)))) = g + sgn (cP 52 G0) b j := fun _ => by
            rw [st_nat, hSj.k 32 (by decide)]
            exact w32_i (x := g + sgn (cP 52 G0) b j) (by omega) (by omega)
          have emf : Unit → w32 ((g + sgn (cP 52 G0) b j) + (Hj 37 (Int.toNat (w32 (((b : Nat) : Int) + 1))))) = g + sgn (cP 52 G0) b j + G0 37 (b + 1) := fun _ => by
            have h37 := (f13 (b + 1) (by omega) (by omega)).2
            rw [w32_i (x := ((b : Nat) : Int) + 1) (by omega) (by omega), show Int.toNat (((b : Nat) : Int) + 1) = b + 1 by omega, hSj.k 37 (by decide)]
            exact w32_i (by omega) (by omega)
          have enx : Unit → w32 (((5 * b + j : Nat) : Int) + 1) = ((5 * b + (j + 1) : Nat) : Int) := fun _ => by rw [w32_i (by omega) (by omega)]; omega
          have eok : Unit → sOk (cP 52 G0) b ah (H 33) (scl (cP 52 G0) b j) = (!(decide (f_X8_isFree Hj (scl (cP 52 G0) b j) = 0)) && decide (f_X8_areRivals 52 Hj ((b : Nat) : Int) ah (sow (cP 52 G0) (scl (cP 52 G0) b j)) = 0)) := fun _ => ok_eq hSj hfi.2.1 (hSj.k 52 (by decide)) (hSj.k 55 (by decide)) _
          refine w2_vc [60, 76, 80, 87, 98, 151, 162, 169] 400 oo_X8 q_X8_fill ?_
          refine ⟨fun (c1 : ((5 * b + (G0 30 b).toNat : Nat) : Int) ≤ ((5 * b + j : Nat) : Int)) => ?_, fun (c1 : ((5 * b + j : Nat) : Int) < ((5 * b + (G0 30 b).toNat : Nat) : Int)) => ?_⟩
          · skip
            exfalso; first | omega | (rw [w32_i (by omega) (by omega)] at c1; omega) | (simp (disch := omega) only [w32_i] at *; omega)
          · skip
            refine ⟨(show 0 ≤ ((5 * b + j : Nat) : Int) ∧ ((5 * b + j : Nat) : Int) < ((45 : Nat) : Int) from by first | omega | (simp (disch := omega) only [w32_i]; omega)), ?_⟩
            refine (show W2 o_X8 M_X8_fill (inN [29, 33, 35, 36, 38, 39]) (q + 10) Q 76 [some (mR 34), some (mI ((b : Nat) : Int)), some (mI g), some (mI ah), some (mI ((5 * b + (G0 30 b).toNat : Nat) : Int)), some (mI ((5 * b + j : Nat) : Int)), some (mI (Hj 31 (Int.toNat ((5 * b + j : Nat) : Int)))), none, none] [] Hj from ?_)
            rw [ew ()]
            refine (show W2 o_X8 M_X8_fill (inN [29, 33, 35, 36, 38, 39]) (q + 10) Q 76 [some (mR 34), some (mI ((b : Nat) : Int)), some (mI g), some (mI ah), some (mI ((5 * b + (G0 30 b).toNat : Nat) : Int)), some (mI ((5 * b + j : Nat) : Int)), some (mI (scl (cP 52 G0) b j)), none, none] [] Hj from ?_)
            refine w2_vc [60, 76, 80, 87, 98, 151, 162, 169] 400 oo_X8 q_X8_fill ?_
            refine (show W2 o_X8 M_X8_fill (inN [29, 33, 35, 36, 38, 39]) (q + 10) Q 80 [some (mR 34), some (mI ((b : Nat) : Int)), some (mI g), some (mI ah), some (mI ((5 * b + (G0 30 b).toNat : Nat) : Int)), some (mI ((5 * b + j : Nat) : Int)), some (mI (scl (cP 52 G0) b j)), none, none] [mR (Int.toNat (Hj 29 3))] Hj from ?_)
            rw [show (Hj 29 3) = 57 from by (try simp (disch := decide) only [gs_ne, gs_at_ne]); exact hpj]
            refine (show W2 o_X8 M_X8_fill (inN [29, 33, 35, 36, 38, 39]) (q + 10) Q 80 [some (mR 34), some (mI ((b : Nat) : Int)), some (mI g), some (mI ah), some (mI ((5 * b + (G0 30 b).toNat : Nat) : Int)), some (mI ((5 * b + j : Nat) : Int)), some (mI (scl (cP 52 G0) b j)), none, none] [mR 57] Hj from ?_)
            refine w2_vc [60, 76, 80, 87, 98, 151, 162, 169] 400 oo_X8 q_X8_fill ?_
            refine sp_X1_ownerOf (by decide) ?_
            refine (show W2 o_X8 M_X8_fill (inN [29, 33, 35, 36, 38, 39]) (q + 10) Q 87 [some (mR 34), some (mI ((b : Nat) : Int)), some (mI g), some (mI ah), some (mI ((5 * b + (G0 30 b).toNat : Nat) : Int)), some (mI ((5 * b + j : Nat) : Int)), some (mI (scl (cP 52 G0) b j)), some (mI (f_X1_ownerOf 52 Hj (scl (cP 52 G0) b j))), none] [] Hj from ?_)
            rw [eow ()]
            refine (show W2 o_X8 M_X8_fill (inN [29, 33, 35, 36, 38, 39]) (q + 10) Q 87 [some (mR 34), some (mI ((b : Nat) : Int)), some (mI g), some (mI ah), some (mI ((5 * b + (G0 30 b).toNat : Nat) : Int)), some (mI ((5 * b + j : Nat) : Int)), some (mI (scl (cP 52 G0) b j)), some (mI (sow (cP 52 G0) (scl (cP 52 G0) b j))), none] [] Hj from ?_)
            refine w2_vc [60, 76, 80, 87, 98, 151, 162, 169] 400 oo_X8 q_X8_fill ?_
            refine ⟨(show 0 ≤ ((5 * b + j : Nat) : Int) ∧ ((5 * b + j : Nat) : Int) < ((45 : Nat) : Int) from by first | omega | (simp (disch := omega) only [w32_i]; omega)), ?_⟩
            refine (show W2 o_X8 M_X8_fill (inN [29, 33, 35, 36, 38, 39]) (q + 10) Q 98 [some (mR 34), some (mI ((b : Nat) : Int)), some (mI g), some (mI ah), some (mI ((5 * b + (G0 30 b).toNat : Nat) : Int)), some (mI ((5 * b + j : Nat) : Int)), some (mI (scl (cP 52 G0) b j)), some (mI (sow (cP 52 G0) (scl (cP 52 G0) b j))), some (mI (w32 (g + (Hj 32 (Int.toNat ((5 * b + j : Nat) : Int))))))] [] Hj from ?_)
            rw [esum ()]
            refine (show W2 o_X8 M_X8_fill (inN [29, 33, 35, 36, 38, 39]) (q + 10) Q 98 [some (mR 34), some (mI ((b : Nat) : Int)), some (mI g), some (mI ah), some (mI ((5 * b + (G0 30 b).toNat : Nat) : Int)), some (mI ((5 * b + j : Nat) : Int)), some (mI (scl (cP 52 G0) b j)), some (mI (sow (cP 52 G0) (scl (cP 52 G0) b j))), some (mI (g + sgn (cP 52 G0) b j))] [] Hj from ?_)
            refine w2_vc [60, 76, 80, 87, 98, 151, 162, 169] 400 oo_X8 q_X8_fill ?_
            refine ⟨(show 0 ≤ (w32 (((b : Nat) : Int) + 1)) ∧ (w32 (((b : Nat) : Int) + 1)) < ((10 : Nat) : Int) from by first | omega | (simp (disch := omega) only [w32_i]; omega)), ?_⟩
            refine ⟨fun (c3 : (w32 ((g + sgn (cP 52 G0) b j) + (Hj 37 (Int.toNat (w32 (((b : Nat) : Int) + 1)))))) ≤ (Hj 29 15)) => ?_, fun (c3 : (Hj 29 15) < (w32 ((g + sgn (cP 52 G0) b j) + (Hj 37 (Int.toNat (w32 (((b : Nat) : Int) + 1))))))) => ?_⟩
            · skip
              refine (show W2 o_X8 M_X8_fill (inN [29, 33, 35, 36, 38, 39]) (q + 10) Q 169 [some (mR 34), some (mI ((b : Nat) : Int)), some (mI g), some (mI ah), some (mI ((5 * b + (G0 30 b).toNat : Nat) : Int)), some (mI ((5 * b + j : Nat) : Int)), some (mI (scl (cP 52 G0) b j)), some (mI (sow (cP 52 G0) (scl (cP 52 G0) b j))), some (mI (g + sgn (cP 52 G0) b j))] [] Hj from ?_)
              refine w2_vc [60, 76, 80, 87, 98, 151, 162, 169] 400 oo_X8 q_X8_fill ?_
              refine (show W2 o_X8 M_X8_fill (inN [29, 33, 35, 36, 38, 39]) (q + 10) Q 60 [some (mR 34), some (mI ((b : Nat) : Int)), some (mI g), some (mI ah), some (mI ((5 * b + (G0 30 b).toNat : Nat) : Int)), some (mI (w32 (((5 * b + j : Nat) : Int) + 1))), some (mI (scl (cP 52 G0) b j)), some (mI (sow (cP 52 G0) (scl (cP 52 G0) b j))), some (mI (g + sgn (cP 52 G0) b j))] [] Hj from ?_)
              rw [enx ()]
              refine WP.fg (L' := [some (mR 34), some (mI ((b : Nat) : Int)), some (mI g), some (mI ah), some (mI ((5 * b + (G0 30 b).toNat : Nat) : Int)), some (mI ((5 * b + (j + 1) : Nat) : Int)), none, none, none]) ⟨rfl, rfl, rfl, rfl, rfl, rfl, trivial⟩ ?_
              exact iht (j + 1) (by omega) Hj (fI_bd hF hb0 hb hl hfi (by rw [emf ()] at c3; omega))
            · skip
              refine sp_X8_isFree  ?_
              refine ⟨fun (c5 : (f_X8_isFree Hj (scl (cP 52 G0) b j)) = 0) => ?_, fun (c5 : ¬ (f_X8_isFree Hj (scl (cP 52 G0) b j)) = 0) => ?_⟩
              · skip
                refine (show W2 o_X8 M_X8_fill (inN [29, 33, 35, 36, 38, 39]) (q + 10) Q 169 [some (mR 34), some (mI ((b : Nat) : Int)), some (mI g), some (mI ah), some (mI ((5 * b + (G0 30 b).toNat : Nat) : Int)), some (mI ((5 * b + j : Nat) : Int)), some (mI (scl (cP 52 G0) b j)), some (mI (sow (cP 52 G0) (scl (cP 52 G0) b j))), some (mI (g + sgn (cP 52 G0) b j))] [] Hj from ?_)
                refine w2_vc [60, 76, 80, 87, 98, 151, 162, 169] 400 oo_X8 q_X8_fill ?_
                refine (show W2 o_X8 M_X8_fill (inN [29, 33, 35, 36, 38, 39]) (q + 10) Q 60 [some (mR 34), some (mI ((b : Nat) : Int)), some (mI g), some (mI ah), some (mI ((5 * b + (G0 30 b).toNat : Nat) : Int)), some (mI (w32 (((5 * b + j : Nat) : Int) + 1))), some (mI (scl (cP 52 G0) b j)), some (mI (sow (cP 52 G0) (scl (cP 52 G0) b j))), some (mI (g + sgn (cP 52 G0) b j))] [] Hj from ?_)
                rw [enx ()]
                refine WP.fg (L' := [some (mR 34), some (mI ((b : Nat) : Int)), some (mI g), some (mI ah), some (mI ((5 * b + (G0 30 b).toNat : Nat) : Int)), some (mI ((5 * b + (j + 1) : Nat) : Int)), none, none, none]) ⟨rfl, rfl, rfl, rfl, rfl, rfl, trivial⟩ ?_
                exact iht (j + 1) (by omega) Hj (fI_no hfi (by rw [eok ()]; simp [c5]))
              · skip
                refine sp_X8_areRivals (by decide) (hpj) ?_
                have c7 := fa_X8_areRivals 52 Hj ((b : Nat) : Int) ah (sow (cP 52 G0) (scl (cP 52 G0) b j))
                refine ⟨fun (c8 : ¬ (f_X8_areRivals 52 Hj ((b : Nat) : Int) ah (sow (cP 52 G0) (scl (cP 52 G0) b j))) = 0) => ?_, fun (c8 : (f_X8_areRivals 52 Hj ((b : Nat) : Int) ah (sow (cP 52 G0) (scl (cP 52 G0) b j))) = 0) => ?_⟩
                · skip
                  refine (show W2 o_X8 M_X8_fill (inN [29, 33, 35, 36, 38, 39]) (q + 10) Q 169 [some (mR 34), some (mI ((b : Nat) : Int)), some (mI g), some (mI ah), some (mI ((5 * b + (G0 30 b).toNat : Nat) : Int)), some (mI ((5 * b + j : Nat) : Int)), some (mI (scl (cP 52 G0) b j)), some (mI (sow (cP 52 G0) (scl (cP 52 G0) b j))), some (mI (g + sgn (cP 52 G0) b j))] [] Hj from ?_)
                  refine w2_vc [60, 76, 80, 87, 98, 151, 162, 169] 400 oo_X8 q_X8_fill ?_
                  refine (show W2 o_X8 M_X8_fill (inN [29, 33, 35, 36, 38, 39]) (q + 10) Q 60 [some (mR 34), some (mI ((b : Nat) : Int)), some (mI g), some (mI ah), some (mI ((5 * b + (G0 30 b).toNat : Nat) : Int)), some (mI (w32 (((5 * b + j : Nat) : Int) + 1))), some (mI (scl (cP 52 G0) b j)), some (mI (sow (cP 52 G0) (scl (cP 52 G0) b j))), some (mI (g + sgn (cP 52 G0) b j))] [] Hj from ?_)
                  rw [enx ()]
                  refine WP.fg (L' := [some (mR 34), some (mI ((b : Nat) : Int)), some (mI g), some (mI ah), some (mI ((5 * b + (G0 30 b).toNat : Nat) : Int)), some (mI ((5 * b + (j + 1) : Nat) : Int)), none, none, none]) ⟨rfl, rfl, rfl, rfl, rfl, rfl, trivial⟩ ?_
                  exact iht (j + 1) (by omega) Hj (fI_no hfi (by rw [eok ()]; simp [c8]))
                · skip
                  have htk := fI_take hF hb hjo hl hfi (by rw [eok ()]; simp [c5, c8])
                  refine sp_X8_use  (insub (by decide)) ?_
                  refine ⟨(show 0 ≤ ((b : Nat) : Int) ∧ ((b : Nat) : Int) < ((9 : Nat) : Int) from by first | omega | (simp (disch := omega) only [w32_i]; omega)), ?_⟩
                  refine (show W2 o_X8 M_X8_fill (inN [29, 33, 35, 36, 38, 39]) (q + 10) Q 151 [some (mR 34), some (mI ((b : Nat) : Int)), some (mI g), some (mI ah), some (mI ((5 * b + (G0 30 b).toNat : Nat) : Int)), some (mI ((5 * b + j : Nat) : Int)), some (mI (scl (cP 52 G0) b j)), some (mI (sow (cP 52 G0) (scl (cP 52 G0) b j))), some (mI (g + sgn (cP 52 G0) b j))] [] (gs (e_X8_use Hj (scl (cP 52 G0) b j) (-1)) 35 b (scl (cP 52 G0) b j)) from ?_)
                  refine w2_vc [60, 76, 80, 87, 98, 151, 162, 169] 400 oo_X8 q_X8_fill ?_
                  refine (show P2 (inN [29, 33, 35, 36, 38, 39]) (q + 9) M_X8_fill [mR 34, mI (w32 (((b : Nat) : Int) + 1)), mI (g + sgn (cP 52 G0) b j), mI (sow (cP 52 G0) (scl (cP 52 G0) b j))] (gs (e_X8_use Hj (scl (cP 52 G0) b j) (-1)) 35 b (scl (cP 52 G0) b j)) _ from ?_)
                  rw [show (w32 (((b : Nat) : Int) + 1)) = ((b + 1 : Nat) : Int) from by (rw [w32_i (by omega) (by omega)]; omega)]
                  refine ih (b + 1) (by omega) (by omega) (q + 9) (by omega) _ (fun k h => h) (g + sgn (cP 52 G0) b j) (sow (cP 52 G0) (scl (cP 52 G0) b j)) _ _ htk.1.1 htk.1.2.1 (by omega) (f7 _) htk.1.2.2 (fun H3 hp3 => ?_)
                  refine (show W2 o_X8 M_X8_fill (inN [29, 33, 35, 36, 38, 39]) (q + 10) Q 162 [some (mR 34), some (mI ((b : Nat) : Int)), some (mI g), some (mI ah), some (mI ((5 * b + (G0 30 b).toNat : Nat) : Int)), some (mI ((5 * b + j : Nat) : Int)), some (mI (scl (cP 52 G0) b j)), some (mI (sow (cP 52 G0) (scl (cP 52 G0) b j))), some (mI (g + sgn (cP 52 G0) b j))] [] H3 from ?_)
                  refine w2_vc [60, 76, 80, 87, 98, 151, 162, 169] 400 oo_X8 q_X8_fill ?_
                  refine sp_X8_use  (insub (by decide)) ?_
                  refine (show W2 o_X8 M_X8_fill (inN [29, 33, 35, 36, 38, 39]) (q + 10) Q 169 [some (mR 34), some (mI ((b : Nat) : Int)), some (mI g), some (mI ah), some (mI ((5 * b + (G0 30 b).toNat : Nat) : Int)), some (mI ((5 * b + j : Nat) : Int)), some (mI (scl (cP 52 G0) b j)), some (mI (sow (cP 52 G0) (scl (cP 52 G0) b j))), some (mI (g + sgn (cP 52 G0) b j))] [] (e_X8_use H3 (scl (cP 52 G0) b j) 1) from ?_)
                  refine w2_vc [60, 76, 80, 87, 98, 151, 162, 169] 400 oo_X8 q_X8_fill ?_
                  refine (show W2 o_X8 M_X8_fill (inN [29, 33, 35, 36, 38, 39]) (q + 10) Q 60 [some (mR 34), some (mI ((b : Nat) : Int)), some (mI g), some (mI ah), some (mI ((5 * b + (G0 30 b).toNat : Nat) : Int)), some (mI (w32 (((5 * b + j : Nat) : Int) + 1))), some (mI (scl (cP 52 G0) b j)), some (mI (sow (cP 52 G0) (scl (cP 52 G0) b j))), some (mI (g + sgn (cP 52 G0) b j))] [] (e_X8_use H3 (scl (cP 52 G0) b j) 1) from ?_)
                  rw [enx ()]
                  refine WP.fg (L' := [some (mR 34), some (mI ((b : Nat) : Int)), some (mI g), some (mI ah), some (mI ((5 * b + (G0 30 b).toNat : Nat) : Int)), some (mI ((5 * b + (j + 1) : Nat) : Int)), none, none, none]) ⟨rfl, rfl, rfl, rfl, rfl, rfl, trivial⟩ ?_
                  exact iht (j + 1) (by omega) _ (htk.2 H3 hp3)
      refine MP.to (D2 := inN [29, 33, 35, 36, 38, 39]) (Q2 := Q) ?_ hD (fun v G' q _ => q)
      refine p2_vc [55, 60] 400 oo_X8 q_X8_fill (by decide) rfl (Nat.le_of_ble_eq_true rfl) ?_
      refine ⟨fun (c1 : ((b : Nat) : Int) < 0) => ?_, fun (c1 : 0 ≤ ((b : Nat) : Int)) => ?_⟩
      · skip
        refine sp_X8_keep  (insub (by decide)) ?_
        exfalso; omega
      · skip
        refine ⟨fun (c3 : (H 29 4) ≤ ((b : Nat) : Int)) => ?_, fun (c3 : ((b : Nat) : Int) < (H 29 4)) => ?_⟩
        · skip
          exfalso; first | omega | (rw [w32_i (by omega) (by omega)] at c3; omega) | (simp (disch := omega) only [w32_i] at *; omega)
        · skip
          refine ⟨fun (c4 : ((b : Nat) : Int) < 9) => ?_, fun (c4 : 9 ≤ ((b : Nat) : Int)) => ?_⟩
          · skip
            refine sp_X8_isOutdone (by decide) (hp) (h12) (insub (by decide)) ?_
            refine ⟨fun (c6 : (r_X8_isOutdone 52 H ((b : Nat) : Int) g ah).1 = 0) => ?_, fun (c6 : ¬ (r_X8_isOutdone 52 H ((b : Nat) : Int) g ah).1 = 0) => ?_⟩
            · skip
              refine ⟨(show 0 ≤ ((b : Nat) : Int) ∧ ((b : Nat) : Int) < ((9 : Nat) : Int) from by first | omega | (simp (disch := omega) only [w32_i]; omega)), ?_⟩
              refine (show W2 o_X8 M_X8_fill (inN [29, 33, 35, 36, 38, 39]) (q + 10) Q 55 [some (mR 34), some (mI ((b : Nat) : Int)), some (mI g), some (mI ah), some (mI (mMin (w32 ((w32 (((b : Nat) : Int) * 5)) + ((r_X8_isOutdone 52 H ((b : Nat) : Int) g ah).2 30 (Int.toNat ((b : Nat) : Int))))) ((45 : Nat) : Int))), none, none, none, none] [] (r_X8_isOutdone 52 H ((b : Nat) : Int) g ah).2 from ?_)
              refine w2_vc [55, 60] 400 oo_X8 q_X8_fill ?_
              refine (show W2 o_X8 M_X8_fill (inN [29, 33, 35, 36, 38, 39]) (q + 10) Q 60 [some (mR 34), some (mI ((b : Nat) : Int)), some (mI g), some (mI ah), some (mI (mMin (w32 ((w32 (((b : Nat) : Int) * 5)) + ((r_X8_isOutdone 52 H ((b : Nat) : Int) g ah).2 30 (Int.toNat ((b : Nat) : Int))))) ((45 : Nat) : Int))), some (mI (w32 (((b : Nat) : Int) * 5))), none, none, none] [] (r_X8_isOutdone 52 H ((b : Nat) : Int) g ah).2 from ?_)
              have hoo : oH 52 G0 b g ah H (r_X8_isOutdone 52 H ((b : Nat) : Int) g ah).2 := by
                rcases outd (c := 52) H ((b : Nat) : Int) g ah with ho | ⟨r, hr, ⟨ho, hk, hg⟩ | ho⟩
                · rw [ho]; exact Or.inl rfl
                · rw [ho] at c6; exact absurd (show (1 : Int) = 0 from c6) (by decide)
                · rw [ho, hkey]; exact Or.inr ⟨r, hr, rfl⟩
              have hS1 := (sStat_o hS hoo).1
              rw [show (mMin (w32 ((w32 (((b : Nat) : Int) * 5)) + ((r_X8_isOutdone 52 H ((b : Nat) : Int) g ah).2 30 (Int.toNat ((b : Nat) : Int))))) ((45 : Nat) : Int)) = ((5 * b + (G0 30 b).toNat : Nat) : Int) from by (rw [hS1.k 30 (by decide), st_nat, w32_i (x := ((b : Nat) : Int) * 5) (by omega) (by omega), w32_i (by omega) (by omega), mMin_l (by omega)]; omega), show (w32 (((b : Nat) : Int) * 5)) = ((5 * b + 0 : Nat) : Int) from by (rw [w32_i (by omega) (by omega)]; omega)]
              exact hloop hoo (G0 30 b).toNat 0 (by omega) _ (fI_0 f1 (by omega) hb hS hv hSI hoo)
            · skip
              rcases outd (c := 52) H ((b : Nat) : Int) g ah with ho | ⟨r, hr, ⟨ho, hk, hg⟩ | ho⟩
              · rw [ho] at c6; exact absurd rfl c6
              · rw [ho]
                exact hQ _ (fl_out hb hS hv hSI hr (hkey.symm.trans hk.symm) hg)
              · rw [ho] at c6; exact absurd rfl c6
          · skip
            refine sp_X8_keep  (insub (by decide)) ?_
            exfalso; omega
