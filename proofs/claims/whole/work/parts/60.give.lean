/-! ===== printed by wip/whole/gen60.py: the class gives and mends ===== -/
theorem plan_k0 {c n k : Nat} {G HA G' : mG} {f nf : Int} (hA1 : ∀ k, k ≠ 33 → HA k = (gs (gs G 29 3 ((c + 5 : Nat) : Int)) 29 4 (n : Int)) k) (hL : sL c (e_X8_countTakers (fd (loP0 c f nf) HA n)) n n G') (hk : ∀ a ∈ ([24, 25, 29, 30, 31, 32, 33, 34, 35, 36, 37, 38, 39] : List Nat), k ≠ a) : G' k = G k := by
  rw [hL.1.1 k (fun a ha => hk a (by simp only [List.mem_cons, List.not_mem_nil, or_false] at ha ⊢; omega)), fr_X8_countTakers (fun a ha => hk a (by simp only [List.mem_cons, List.not_mem_nil, or_false] at ha ⊢; omega)), loP0_fr (fun a ha => hk a (by simp only [List.mem_cons, List.not_mem_nil, or_false] at ha ⊢; omega)), hA1 k (hk 33 (by decide)), gs_ne (hk 29 (by decide)), gs_ne (hk 29 (by decide))]
theorem plan_k1 {c n k : Nat} {G HA G' : mG} {f nf : Int} (hA1 : ∀ k, k ≠ 33 → HA k = (gs (gs G 29 3 ((c + 5 : Nat) : Int)) 29 4 (n : Int)) k) (hL : sL c (e_X8_countTakers (fd (loP1 c f nf) HA n)) n n G') (hk : ∀ a ∈ ([24, 25, 29, 30, 31, 32, 33, 34, 35, 36, 37, 38, 39] : List Nat), k ≠ a) : G' k = G k := by
  rw [hL.1.1 k (fun a ha => hk a (by simp only [List.mem_cons, List.not_mem_nil, or_false] at ha ⊢; omega)), fr_X8_countTakers (fun a ha => hk a (by simp only [List.mem_cons, List.not_mem_nil, or_false] at ha ⊢; omega)), loP1_fr (fun a ha => hk a (by simp only [List.mem_cons, List.not_mem_nil, or_false] at ha ⊢; omega)), hA1 k (hk 33 (by decide)), gs_ne (hk 29 (by decide)), gs_ne (hk 29 (by decide))]
theorem fa_made (G : mG) (f : Int) : f_X4_isMade G f = 1 ∨ f_X4_isMade G f = 0 := by
  unfold f_X4_isMade
  repeat' split
  all_goals simp
set_option maxHeartbeats 4000000 in
theorem sp_X11_give {D : Nat → Bool} {q c : Nat} (hc : c = 40 ∨ c = 52) {G : mG} {f nf : Int} {n : Nat} {Q : Option mV → mG → Prop} (hp : G 0 8 = ((c + 5 : Nat) : Int)) (h11 : G c 11 ≤ 8) (hn9 : n ≤ 9) (h16 : G 1 6 = (n : Int)) (h12 : G c 12 ≤ 40) (hB : cB c G) (hs : G 8 4 ≤ 300) (hD : ∀ k, D k = false → inN [22, 23, 24, 25, 29, 30, 31, 32, 33, 34, 35, 36, 37, 38, 39] k = false)
    (hF : (0 ≤ f ∧ f < 26) → (0 ≤ nf ∧ nf ≤ G 8 4) → f_X1_inForceIn c G f ≤ 4 → ∀ HA : mG, (∀ k, k ≠ 33 → HA k = (gs (gs G 29 3 ((c + 5 : Nat) : Int)) 29 4 (n : Int)) k) → (∀ w, w < 40 → HA 33 w = f_X1_amountOf c G ((w : Nat) : Int)) → sF0 c (e_X8_countTakers (fd (loP0 c f nf) HA n)) n ((e_X8_countTakers (fd (loP0 c f nf) HA n)) 33))
    (h0 : ¬ ((0 ≤ f ∧ f < 26) ∧ (0 ≤ nf ∧ nf ≤ G 8 4)) → Q (some (mI (-1))) G) (h1 : (0 ≤ f ∧ f < 26) → (0 ≤ nf ∧ nf ≤ G 8 4) → 4 < f_X1_inForceIn c G f → Q (some (mI (-2))) G)
    (h2 : (0 ≤ f ∧ f < 26) → (0 ≤ nf ∧ nf ≤ G 8 4) → f_X1_inForceIn c G f ≤ 4 → ∀ HA : mG, (∀ k, k ≠ 33 → HA k = (gs (gs G 29 3 ((c + 5 : Nat) : Int)) 29 4 (n : Int)) k) → (∀ w, w < 40 → HA 33 w = f_X1_amountOf c G ((w : Nat) : Int)) → ∀ G', sL c (e_X8_countTakers (fd (loP0 c f nf) HA n)) n n G' → Q (some (mI (f_X11_worthGiven c (e_X11_takeOver G' f) f))) (e_X11_takeOver G' f)) : P2 D (q + 40) M_X11_give [mR 5, mI f, mI nf] G Q := by
  rcases hc with rfl | rfl
  · skip
    have hp : G 0 8 = ((45 : Nat) : Int) := hp
    refine MP.to (D2 := inN [22, 23, 24, 25, 29, 30, 31, 32, 33, 34, 35, 36, 37, 38, 39]) (Q2 := Q) ?_ hD (fun v G' q _ => q)
    refine (show P2 (inN [22, 23, 24, 25, 29, 30, 31, 32, 33, 34, 35, 36, 37, 38, 39]) (q + 40) M_X11_give [mR 5, mI f, mI nf] G Q from ?_)
    refine p2_vc [24, 43, 49, 59] 400 oo_X11 q_X11_give (by decide) rfl (Nat.le_of_ble_eq_true rfl) ?_
    refine sp_X11_isFortnight  ?_
    have c2 := fa_X11_isFortnight G f
    refine ⟨fun (c3 : (f_X11_isFortnight G f) = 0) => ?_, fun (c3 : ¬ (f_X11_isFortnight G f) = 0) => ?_⟩
    · skip
      exact h0 (by omega)
    · skip
      refine sp_X3_areKnown  ?_
      have c5 := fa_X3_areKnown G nf
      refine ⟨fun (c6 : ¬ (f_X3_areKnown G nf) = 0) => ?_, fun (c6 : (f_X3_areKnown G nf) = 0) => ?_⟩
      · skip
        refine (show W2 o_X11 M_X11_give (inN [22, 23, 24, 25, 29, 30, 31, 32, 33, 34, 35, 36, 37, 38, 39]) (q + 40) Q 24 [some (mR 5), some (mI f), some (mI nf)] [mR (Int.toNat (G 0 8))] G from ?_)
        rw [hp]
        refine (show W2 o_X11 M_X11_give (inN [22, 23, 24, 25, 29, 30, 31, 32, 33, 34, 35, 36, 37, 38, 39]) (q + 40) Q 24 [some (mR 5), some (mI f), some (mI nf)] [mR 45] G from ?_)
        refine w2_vc [24, 43, 49, 59] 400 oo_X11 q_X11_give ?_
        refine sp_X1_inForceIn (by decide) (h11) ?_
        refine ⟨fun (c8 : (f_X1_inForceIn 40 G f) ≤ 4) => ?_, fun (c8 : 4 < (f_X1_inForceIn 40 G f)) => ?_⟩
        · skip
          refine (show W2 o_X11 M_X11_give (inN [22, 23, 24, 25, 29, 30, 31, 32, 33, 34, 35, 36, 37, 38, 39]) (q + 40) Q 43 [some (mR 5), some (mI f), some (mI nf)] [mR (Int.toNat (G 0 8)), mR 34] G from ?_)
          rw [hp]
          refine (show W2 o_X11 M_X11_give (inN [22, 23, 24, 25, 29, 30, 31, 32, 33, 34, 35, 36, 37, 38, 39]) (q + 40) Q 43 [some (mR 5), some (mI f), some (mI nf)] [mR 45, mR 34] G from ?_)
          refine w2_vc [24, 43, 49, 59] 400 oo_X11 q_X11_give ?_
          refine sp_X8_plan_0 (c := 40) (q := q + 9) (by decide) (n := n) hn9 h16 h12 hB (by omega) hs (insub (by decide)) (hF (by omega) (by omega) (by omega)) (fun HA hA1 hA2 G' hL => ?_)
          have t08 : (e_X11_takeOver G' f) 0 8 = ((45 : Nat) : Int) := by rw [fr_X11_takeOver (by decide), plan_k0 hA1 hL (by decide)]; exact hp
          have t16 : (e_X11_takeOver G' f) 1 6 ≤ 9 := by rw [fr_X11_takeOver (by decide), plan_k0 hA1 hL (by decide), h16]; omega
          have u16 : G' 1 6 ≤ 9 := by rw [plan_k0 hA1 hL (by decide), h16]; omega
          have u84 : G' 8 4 = G 8 4 := by rw [plan_k0 hA1 hL (by decide)]
          refine (show W2 o_X11 M_X11_give (inN [22, 23, 24, 25, 29, 30, 31, 32, 33, 34, 35, 36, 37, 38, 39]) (q + 40) Q 49 [some (mR 5), some (mI f), some (mI nf)] [] G' from ?_)
          refine w2_vc [24, 43, 49, 59] 400 oo_X11 q_X11_give ?_
          refine sp_X11_takeOver  (insub (by decide)) ?_
          refine sp_X11_worthGiven (by decide) (t08) (t16) ?_
          refine (show W2 o_X11 M_X11_give (inN [22, 23, 24, 25, 29, 30, 31, 32, 33, 34, 35, 36, 37, 38, 39]) (q + 40) Q 59 [some (mR 5), some (mI f), some (mI nf)] [mI (f_X11_worthGiven 40 (e_X11_takeOver G' f) f)] (e_X11_takeOver G' f) from ?_)
          refine w2_vc [24, 43, 49, 59] 400 oo_X11 q_X11_give ?_
          exact h2 (by omega) (by omega) (by omega) HA hA1 hA2 G' hL
        · skip
          exact h1 (by omega) (by omega) (by omega)
      · skip
        exact h0 (by omega)
  · skip
    have hp : G 0 8 = ((57 : Nat) : Int) := hp
    refine MP.to (D2 := inN [22, 23, 24, 25, 29, 30, 31, 32, 33, 34, 35, 36, 37, 38, 39]) (Q2 := Q) ?_ hD (fun v G' q _ => q)
    refine (show P2 (inN [22, 23, 24, 25, 29, 30, 31, 32, 33, 34, 35, 36, 37, 38, 39]) (q + 40) M_X11_give [mR 5, mI f, mI nf] G Q from ?_)
    refine p2_vc [24, 43, 49, 59] 400 oo_X11 q_X11_give (by decide) rfl (Nat.le_of_ble_eq_true rfl) ?_
    refine sp_X11_isFortnight  ?_
    have c2 := fa_X11_isFortnight G f
    refine ⟨fun (c3 : (f_X11_isFortnight G f) = 0) => ?_, fun (c3 : ¬ (f_X11_isFortnight G f) = 0) => ?_⟩
    · skip
      exact h0 (by omega)
    · skip
      refine sp_X3_areKnown  ?_
      have c5 := fa_X3_areKnown G nf
      refine ⟨fun (c6 : ¬ (f_X3_areKnown G nf) = 0) => ?_, fun (c6 : (f_X3_areKnown G nf) = 0) => ?_⟩
      · skip
        refine (show W2 o_X11 M_X11_give (inN [22, 23, 24, 25, 29, 30, 31, 32, 33, 34, 35, 36, 37, 38, 39]) (q + 40) Q 24 [some (mR 5), some (mI f), some (mI nf)] [mR (Int.toNat (G 0 8))] G from ?_)
        rw [hp]
        refine (show W2 o_X11 M_X11_give (inN [22, 23, 24, 25, 29, 30, 31, 32, 33, 34, 35, 36, 37, 38, 39]) (q + 40) Q 24 [some (mR 5), some (mI f), some (mI nf)] [mR 57] G from ?_)
        refine w2_vc [24, 43, 49, 59] 400 oo_X11 q_X11_give ?_
        refine sp_X1_inForceIn (by decide) (h11) ?_
        refine ⟨fun (c8 : (f_X1_inForceIn 52 G f) ≤ 4) => ?_, fun (c8 : 4 < (f_X1_inForceIn 52 G f)) => ?_⟩
        · skip
          refine (show W2 o_X11 M_X11_give (inN [22, 23, 24, 25, 29, 30, 31, 32, 33, 34, 35, 36, 37, 38, 39]) (q + 40) Q 43 [some (mR 5), some (mI f), some (mI nf)] [mR (Int.toNat (G 0 8)), mR 34] G from ?_)
          rw [hp]
          refine (show W2 o_X11 M_X11_give (inN [22, 23, 24, 25, 29, 30, 31, 32, 33, 34, 35, 36, 37, 38, 39]) (q + 40) Q 43 [some (mR 5), some (mI f), some (mI nf)] [mR 57, mR 34] G from ?_)
          refine w2_vc [24, 43, 49, 59] 400 oo_X11 q_X11_give ?_
          refine sp_X8_plan_0 (c := 52) (q := q + 9) (by decide) (n := n) hn9 h16 h12 hB (by omega) hs (insub (by decide)) (hF (by omega) (by omega) (by omega)) (fun HA hA1 hA2 G' hL => ?_)
          have t08 : (e_X11_takeOver G' f) 0 8 = ((57 : Nat) : Int) := by rw [fr_X11_takeOver (by decide), plan_k0 hA1 hL (by decide)]; exact hp
          have t16 : (e_X11_takeOver G' f) 1 6 ≤ 9 := by rw [fr_X11_takeOver (by decide), plan_k0 hA1 hL (by decide), h16]; omega
          have u16 : G' 1 6 ≤ 9 := by rw [plan_k0 hA1 hL (by decide), h16]; omega
          have u84 : G' 8 4 = G 8 4 := by rw [plan_k0 hA1 hL (by decide)]
          refine (show W2 o_X11 M_X11_give (inN [22, 23, 24, 25, 29, 30, 31, 32, 33, 34, 35, 36, 37, 38, 39]) (q + 40) Q 49 [some (mR 5), some (mI f), some (mI nf)] [] G' from ?_)
          refine w2_vc [24, 43, 49, 59] 400 oo_X11 q_X11_give ?_
          refine sp_X11_takeOver  (insub (by decide)) ?_
          refine sp_X11_worthGiven (by decide) (t08) (t16) ?_
          refine (show W2 o_X11 M_X11_give (inN [22, 23, 24, 25, 29, 30, 31, 32, 33, 34, 35, 36, 37, 38, 39]) (q + 40) Q 59 [some (mR 5), some (mI f), some (mI nf)] [mI (f_X11_worthGiven 52 (e_X11_takeOver G' f) f)] (e_X11_takeOver G' f) from ?_)
          refine w2_vc [24, 43, 49, 59] 400 oo_X11 q_X11_give ?_
          exact h2 (by omega) (by omega) (by omega) HA hA1 hA2 G' hL
        · skip
          exact h1 (by omega) (by omega) (by omega)
      · skip
        exact h0 (by omega)
set_option maxHeartbeats 4000000 in
theorem sp_X11_mend {D : Nat → Bool} {q c : Nat} (hc : c = 40 ∨ c = 52) {G : mG} {f nf : Int} {n : Nat} {Q : Option mV → mG → Prop} (hp : G 0 8 = ((c + 5 : Nat) : Int)) (h11 : G c 11 ≤ 8) (hn9 : n ≤ 9) (h16 : G 1 6 = (n : Int)) (h12 : G c 12 ≤ 40) (hB : cB c G) (hs : G 8 4 ≤ 300) (hD : ∀ k, D k = false → inN [22, 23, 24, 25, 29, 30, 31, 32, 33, 34, 35, 36, 37, 38, 39] k = false)
    (hF : f_X4_isMade G f = 1 → (0 ≤ nf ∧ nf ≤ G 8 4) → f_X1_inForceIn c G f ≤ 4 → ∀ HA : mG, (∀ k, k ≠ 33 → HA k = (gs (gs G 29 3 ((c + 5 : Nat) : Int)) 29 4 (n : Int)) k) → (∀ w, w < 40 → HA 33 w = f_X1_amountOf c G ((w : Nat) : Int)) → sF0 c (e_X8_countTakers (fd (loP1 c f nf) HA n)) n ((e_X8_countTakers (fd (loP1 c f nf) HA n)) 33))
    (h0 : ¬ (f_X4_isMade G f = 1 ∧ (0 ≤ nf ∧ nf ≤ G 8 4)) → Q (some (mI (-1))) G) (h1 : f_X4_isMade G f = 1 → (0 ≤ nf ∧ nf ≤ G 8 4) → 4 < f_X1_inForceIn c G f → Q (some (mI (-2))) G)
    (h2 : f_X4_isMade G f = 1 → (0 ≤ nf ∧ nf ≤ G 8 4) → f_X1_inForceIn c G f ≤ 4 → ∀ HA : mG, (∀ k, k ≠ 33 → HA k = (gs (gs G 29 3 ((c + 5 : Nat) : Int)) 29 4 (n : Int)) k) → (∀ w, w < 40 → HA 33 w = f_X1_amountOf c G ((w : Nat) : Int)) → ∀ G', sL c (e_X8_countTakers (fd (loP1 c f nf) HA n)) n n G' → Q (some (mI (f_X11_movedBy G' f nf))) (e_X11_takeOver G' f)) : P2 D (q + 40) M_X11_mend [mR 5, mI f, mI nf] G Q := by
  rcases hc with rfl | rfl
  · skip
    have fmd : f_X4_isMade G f = 1 ∨ f_X4_isMade G f = 0 := fa_made G f
    have hp : G 0 8 = ((45 : Nat) : Int) := hp
    refine MP.to (D2 := inN [22, 23, 24, 25, 29, 30, 31, 32, 33, 34, 35, 36, 37, 38, 39]) (Q2 := Q) ?_ hD (fun v G' q _ => q)
    refine (show P2 (inN [22, 23, 24, 25, 29, 30, 31, 32, 33, 34, 35, 36, 37, 38, 39]) (q + 40) M_X11_mend [mR 5, mI f, mI nf] G Q from ?_)
    refine p2_vc [28, 47, 56, 62, 63, 68] 400 oo_X11 q_X11_mend (by decide) rfl (Nat.le_of_ble_eq_true rfl) ?_
    refine sp_X4_isMade  ?_
    refine ⟨fun (c2 : (f_X4_isMade G f) = 0) => ?_, fun (c2 : ¬ (f_X4_isMade G f) = 0) => ?_⟩
    · skip
      exact h0 (by omega)
    · skip
      refine sp_X3_areKnown  ?_
      have c4 := fa_X3_areKnown G nf
      refine ⟨fun (c5 : ¬ (f_X3_areKnown G nf) = 0) => ?_, fun (c5 : (f_X3_areKnown G nf) = 0) => ?_⟩
      · skip
        refine (show W2 o_X11 M_X11_mend (inN [22, 23, 24, 25, 29, 30, 31, 32, 33, 34, 35, 36, 37, 38, 39]) (q + 40) Q 28 [some (mR 5), some (mI f), some (mI nf), none] [mR (Int.toNat (G 0 8))] G from ?_)
        rw [hp]
        refine (show W2 o_X11 M_X11_mend (inN [22, 23, 24, 25, 29, 30, 31, 32, 33, 34, 35, 36, 37, 38, 39]) (q + 40) Q 28 [some (mR 5), some (mI f), some (mI nf), none] [mR 45] G from ?_)
        refine w2_vc [28, 47, 56, 62, 63, 68] 400 oo_X11 q_X11_mend ?_
        refine sp_X1_inForceIn (by decide) (h11) ?_
        refine ⟨fun (c7 : (f_X1_inForceIn 40 G f) ≤ 4) => ?_, fun (c7 : 4 < (f_X1_inForceIn 40 G f)) => ?_⟩
        · skip
          refine (show W2 o_X11 M_X11_mend (inN [22, 23, 24, 25, 29, 30, 31, 32, 33, 34, 35, 36, 37, 38, 39]) (q + 40) Q 47 [some (mR 5), some (mI f), some (mI nf), none] [mR (Int.toNat (G 0 8)), mR 34] G from ?_)
          rw [hp]
          refine (show W2 o_X11 M_X11_mend (inN [22, 23, 24, 25, 29, 30, 31, 32, 33, 34, 35, 36, 37, 38, 39]) (q + 40) Q 47 [some (mR 5), some (mI f), some (mI nf), none] [mR 45, mR 34] G from ?_)
          refine w2_vc [28, 47, 56, 62, 63, 68] 400 oo_X11 q_X11_mend ?_
          refine sp_X8_plan_1 (c := 40) (q := q + 9) (by decide) (n := n) hn9 h16 h12 hB (by omega) hs (insub (by decide)) (hF (by omega) (by omega) (by omega)) (fun HA hA1 hA2 G' hL => ?_)
          have t08 : (e_X11_takeOver G' f) 0 8 = ((45 : Nat) : Int) := by rw [fr_X11_takeOver (by decide), plan_k1 hA1 hL (by decide)]; exact hp
          have t16 : (e_X11_takeOver G' f) 1 6 ≤ 9 := by rw [fr_X11_takeOver (by decide), plan_k1 hA1 hL (by decide), h16]; omega
          have u16 : G' 1 6 ≤ 9 := by rw [plan_k1 hA1 hL (by decide), h16]; omega
          have u84 : G' 8 4 = G 8 4 := by rw [plan_k1 hA1 hL (by decide)]
          refine (show W2 o_X11 M_X11_mend (inN [22, 23, 24, 25, 29, 30, 31, 32, 33, 34, 35, 36, 37, 38, 39]) (q + 40) Q 56 [some (mR 5), some (mI f), some (mI nf), none] [] G' from ?_)
          refine w2_vc [28, 47, 56, 62, 63, 68] 400 oo_X11 q_X11_mend ?_
          refine sp_X11_movedBy (u16) (by rw [u84]; omega) (by rw [u84]; exact hs) ?_
          refine (show W2 o_X11 M_X11_mend (inN [22, 23, 24, 25, 29, 30, 31, 32, 33, 34, 35, 36, 37, 38, 39]) (q + 40) Q 62 [some (mR 5), some (mI f), some (mI nf), none] [mI (f_X11_movedBy G' f nf)] G' from ?_)
          refine w2_vc [28, 47, 56, 62, 63, 68] 400 oo_X11 q_X11_mend ?_
          refine (show W2 o_X11 M_X11_mend (inN [22, 23, 24, 25, 29, 30, 31, 32, 33, 34, 35, 36, 37, 38, 39]) (q + 40) Q 63 [some (mR 5), some (mI f), some (mI nf), some (mI (f_X11_movedBy G' f nf))] [] G' from ?_)
          refine w2_vc [28, 47, 56, 62, 63, 68] 400 oo_X11 q_X11_mend ?_
          refine sp_X11_takeOver  (insub (by decide)) ?_
          refine (show W2 o_X11 M_X11_mend (inN [22, 23, 24, 25, 29, 30, 31, 32, 33, 34, 35, 36, 37, 38, 39]) (q + 40) Q 68 [some (mR 5), some (mI f), some (mI nf), some (mI (f_X11_movedBy G' f nf))] [] (e_X11_takeOver G' f) from ?_)
          refine w2_vc [28, 47, 56, 62, 63, 68] 400 oo_X11 q_X11_mend ?_
          exact h2 (by omega) (by omega) (by omega) HA hA1 hA2 G' hL
        · skip
          exact h1 (by omega) (by omega) (by omega)
      · skip
        exact h0 (by omega)
  · skip
    have fmd : f_X4_isMade G f = 1 ∨ f_X4_isMade G f = 0 := fa_made G f
    have hp : G 0 8 = ((57 : Nat) : Int) := hp
    refine MP.to (D2 := inN [22, 23, 24, 25, 29, 30, 31, 32, 33, 34, 35, 36, 37, 38, 39]) (Q2 := Q) ?_ hD (fun v G' q _ => q)
    refine (show P2 (inN [22, 23, 24, 25, 29, 30, 31, 32, 33, 34, 35, 36, 37, 38, 39]) (q + 40) M_X11_mend [mR 5, mI f, mI nf] G Q from ?_)
    refine p2_vc [28, 47, 56, 62, 63, 68] 400 oo_X11 q_X11_mend (by decide) rfl (Nat.le_of_ble_eq_true rfl) ?_
    refine sp_X4_isMade  ?_
    refine ⟨fun (c2 : (f_X4_isMade G f) = 0) => ?_, fun (c2 : ¬ (f_X4_isMade G f) = 0) => ?_⟩
    · skip
      exact h0 (by omega)
    · skip
      refine sp_X3_areKnown  ?_
      have c4 := fa_X3_areKnown G nf
      refine ⟨fun (c5 : ¬ (f_X3_areKnown G nf) = 0) => ?_, fun (c5 : (f_X3_areKnown G nf) = 0) => ?_⟩
      · skip
        refine (show W2 o_X11 M_X11_mend (inN [22, 23, 24, 25, 29, 30, 31, 32, 33, 34, 35, 36, 37, 38, 39]) (q + 40) Q 28 [some (mR 5), some (mI f), some (mI nf), none] [mR (Int.toNat (G 0 8))] G from ?_)
        rw [hp]
        refine (show W2 o_X11 M_X11_mend (inN [22, 23, 24, 25, 29, 30, 31, 32, 33, 34, 35, 36, 37, 38, 39]) (q + 40) Q 28 [some (mR 5), some (mI f), some (mI nf), none] [mR 57] G from ?_)
        refine w2_vc [28, 47, 56, 62, 63, 68] 400 oo_X11 q_X11_mend ?_
        refine sp_X1_inForceIn (by decide) (h11) ?_
        refine ⟨fun (c7 : (f_X1_inForceIn 52 G f) ≤ 4) => ?_, fun (c7 : 4 < (f_X1_inForceIn 52 G f)) => ?_⟩
        · skip
          refine (show W2 o_X11 M_X11_mend (inN [22, 23, 24, 25, 29, 30, 31, 32, 33, 34, 35, 36, 37, 38, 39]) (q + 40) Q 47 [some (mR 5), some (mI f), some (mI nf), none] [mR (Int.toNat (G 0 8)), mR 34] G from ?_)
          rw [hp]
          refine (show W2 o_X11 M_X11_mend (inN [22, 23, 24, 25, 29, 30, 31, 32, 33, 34, 35, 36, 37, 38, 39]) (q + 40) Q 47 [some (mR 5), some (mI f), some (mI nf), none] [mR 57, mR 34] G from ?_)
          refine w2_vc [28, 47, 56, 62, 63, 68] 400 oo_X11 q_X11_mend ?_
          refine sp_X8_plan_1 (c := 52) (q := q + 9) (by decide) (n := n) hn9 h16 h12 hB (by omega) hs (insub (by decide)) (hF (by omega) (by omega) (by omega)) (fun HA hA1 hA2 G' hL => ?_)
          have t08 : (e_X11_takeOver G' f) 0 8 = ((57 : Nat) : Int) := by rw [fr_X11_takeOver (by decide), plan_k1 hA1 hL (by decide)]; exact hp
          have t16 : (e_X11_takeOver G' f) 1 6 ≤ 9 := by rw [fr_X11_takeOver (by decide), plan_k1 hA1 hL (by decide), h16]; omega
          have u16 : G' 1 6 ≤ 9 := by rw [plan_k1 hA1 hL (by decide), h16]; omega
          have u84 : G' 8 4 = G 8 4 := by rw [plan_k1 hA1 hL (by decide)]
          refine (show W2 o_X11 M_X11_mend (inN [22, 23, 24, 25, 29, 30, 31, 32, 33, 34, 35, 36, 37, 38, 39]) (q + 40) Q 56 [some (mR 5), some (mI f), some (mI nf), none] [] G' from ?_)
          refine w2_vc [28, 47, 56, 62, 63, 68] 400 oo_X11 q_X11_mend ?_
          refine sp_X11_movedBy (u16) (by rw [u84]; omega) (by rw [u84]; exact hs) ?_
          refine (show W2 o_X11 M_X11_mend (inN [22, 23, 24, 25, 29, 30, 31, 32, 33, 34, 35, 36, 37, 38, 39]) (q + 40) Q 62 [some (mR 5), some (mI f), some (mI nf), none] [mI (f_X11_movedBy G' f nf)] G' from ?_)
          refine w2_vc [28, 47, 56, 62, 63, 68] 400 oo_X11 q_X11_mend ?_
          refine (show W2 o_X11 M_X11_mend (inN [22, 23, 24, 25, 29, 30, 31, 32, 33, 34, 35, 36, 37, 38, 39]) (q + 40) Q 63 [some (mR 5), some (mI f), some (mI nf), some (mI (f_X11_movedBy G' f nf))] [] G' from ?_)
          refine w2_vc [28, 47, 56, 62, 63, 68] 400 oo_X11 q_X11_mend ?_
          refine sp_X11_takeOver  (insub (by decide)) ?_
          refine (show W2 o_X11 M_X11_mend (inN [22, 23, 24, 25, 29, 30, 31, 32, 33, 34, 35, 36, 37, 38, 39]) (q + 40) Q 68 [some (mR 5), some (mI f), some (mI nf), some (mI (f_X11_movedBy G' f nf))] [] (e_X11_takeOver G' f) from ?_)
          refine w2_vc [28, 47, 56, 62, 63, 68] 400 oo_X11 q_X11_mend ?_
          exact h2 (by omega) (by omega) (by omega) HA hA1 hA2 G' hL
        · skip
          exact h1 (by omega) (by omega) (by omega)
      · skip
        exact h0 (by omega)
