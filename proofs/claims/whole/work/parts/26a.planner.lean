/-! ===== printed by wip/whole/gen26.py: the planner ===== -/
def f_X3_isLost (G : mG) (b f n : Int) : Int := b01 (fl (G 9) (G 10) (G 11) b f n.toNat)
theorem fa_X3_isLost (G : mG) (b f n : Int) : f_X3_isLost G b f n = 1 ∨ f_X3_isLost G b f n = 0 := by
  unfold f_X3_isLost b01
  cases fl (G 9) (G 10) (G 11) b f n.toNat
  · exact Or.inr rfl
  · exact Or.inl rfl
def g_X8_keep_15 (G : mG) (x : Int) : Nat → mG → mG := fun j1 s1 => (gs s1 36 (Int.toNat ((j1 : Nat) : Int)) (s1 35 (Int.toNat ((j1 : Nat) : Int))))
def e_X8_keep (G : mG) (x : Int) : mG := (if x ≤ (G 29 15) then G else (fd (g_X8_keep_15 G x) (gs G 29 15 x) 9))
theorem fr_g_X8_keep_15 (G : mG) (x : Int) {k : Nat} (hk : ∀ a ∈ ([29, 36] : List Nat), k ≠ a) (j : Nat) (s : mG) : (g_X8_keep_15 G x j s) k = s k := by
  unfold g_X8_keep_15
  repeat' with_reducible first | apply ite_f | apply ite_f2 | apply ite_p | apply ite_p2
  all_goals first | (simp only [gs_ne (hk (29) (by simp)), gs_ne (hk (36) (by simp))]; done) | rfl
theorem frp_g_X8_keep_15_29 (G : mG) (x : Int) {i : Nat} (hj : ∀ a ∈ ([15] : List Nat), i ≠ a) (j : Nat) (s : mG) : (g_X8_keep_15 G x j s) 29 i = s 29 i := by
  unfold g_X8_keep_15
  repeat' with_reducible first | apply ite_f | apply ite_f2 | apply ite_p | apply ite_p2
  all_goals first | (simp only [gs_at_ne (hj 15 (by simp)), gs_ne (show (29) ≠ (36) from by omega)]; done) | rfl
theorem frp_X8_keep_29 {G : mG} {x : Int} {i : Nat} (hj : ∀ a ∈ ([15] : List Nat), i ≠ a) : (e_X8_keep G x) 29 i = G 29 i := by
  unfold e_X8_keep
  repeat' with_reducible first | apply ite_f | apply ite_f2 | apply ite_p | apply ite_p2
  all_goals first | (simp only [gs_at_ne (hj 15 (by simp)), gs_ne (show (29) ≠ (36) from by omega), fd_frp (frp_g_X8_keep_15_29 _ _ hj)]; done) | rfl
theorem fr_X8_keep {G : mG} {x : Int} {k : Nat} (hk : ∀ a ∈ ([29, 36] : List Nat), k ≠ a) : (e_X8_keep G x) k = G k := by
  unfold e_X8_keep
  repeat' with_reducible first | apply ite_f | apply ite_f2 | apply ite_p | apply ite_p2
  all_goals first | (simp only [gs_ne (hk (29) (by simp)), gs_ne (hk (36) (by simp)), fd_fr (fr_g_X8_keep_15 _ _ hk)]; done) | rfl
theorem sp_X8_keep {D : Nat → Bool} {d : Nat} {G : mG} {x : Int} {Q : Option mV → mG → Prop} (hD : ∀ k, D k = false → inN [29, 36] k = false) (h : Q none (e_X8_keep G x)) : P2 D (d + 1) M_X8_keep [mR 34, mI x] G Q := by
  unfold e_X8_keep at h
  refine MP.to (D2 := inN [29, 36]) (Q2 := Q) ?_ hD (fun v G' q _ => q)
  refine p2_vc [13, 15, 33] 400 oo_X8 q_X8_keep (by decide) rfl (Nat.le_of_ble_eq_true rfl) ?_
  refine ⟨fun (c1 : x ≤ (G 29 15)) => ?_, fun (c1 : (G 29 15) < x) => ?_⟩
  · rw [if_pos c1] at h
    exact h
  · rw [if_neg (Int.not_le.mpr c1)] at h
    refine (show W2 o_X8 M_X8_keep (inN [29, 36]) (d + 1) Q 13 [some (mR 34), some (mI x), none] [] (gs G 29 15 x) from ?_)
    refine w2_vc [13, 15, 33] 400 oo_X8 q_X8_keep ?_
    refine (show W2 o_X8 M_X8_keep (inN [29, 36]) (d + 1) Q 15 [some (mR 34), some (mI x), some (mI ((0 : Nat) : Int))] [] (gs G 29 15 x) from ?_)
    refine lup (g_X8_keep_15 G x) (gs G 29 15 x) (fun j1 s1 => W2 o_X8 M_X8_keep (inN [29, 36]) (d + 1) Q 15 [some (mR 34), some (mI x), some (mI ((j1 : Nat) : Int))] [] s1) 9 (fun j1 s1 hj1 ih1 => ?_) ?_
    · have ih1 : W2 o_X8 M_X8_keep (inN [29, 36]) (d + 1) Q 15 [some (mR 34), some (mI x), some (mI ((j1 + 1 : Nat) : Int))] [] (g_X8_keep_15 G x j1 s1) := ih1
      unfold g_X8_keep_15 at ih1
      refine w2_vc [13, 15, 33] 400 oo_X8 q_X8_keep ?_
      refine ⟨fun (c2 : 9 ≤ ((j1 : Nat) : Int)) => ?_, fun (c2 : ((j1 : Nat) : Int) < 9) => ?_⟩
      · skip
        exfalso; first | omega | (rw [w32_i (by omega) (by omega)] at c2; omega) | (simp (disch := omega) only [w32_i] at *; omega)
      · skip
        refine ⟨(show 0 ≤ ((j1 : Nat) : Int) ∧ ((j1 : Nat) : Int) < ((9 : Nat) : Int) from by first | omega | (simp (disch := omega) only [w32_i]; omega)), ?_⟩
        refine ⟨(show 0 ≤ ((j1 : Nat) : Int) ∧ ((j1 : Nat) : Int) < ((9 : Nat) : Int) from by first | omega | (simp (disch := omega) only [w32_i]; omega)), ?_⟩
        refine (show W2 o_X8 M_X8_keep (inN [29, 36]) (d + 1) Q 33 [some (mR 34), some (mI x), some (mI ((j1 : Nat) : Int))] [] (gs s1 36 (Int.toNat ((j1 : Nat) : Int)) (s1 35 (Int.toNat ((j1 : Nat) : Int)))) from ?_)
        refine w2_vc [13, 15, 33] 400 oo_X8 q_X8_keep ?_
        refine (show W2 o_X8 M_X8_keep (inN [29, 36]) (d + 1) Q 15 [some (mR 34), some (mI x), some (mI (w32 (((j1 : Nat) : Int) + 1)))] [] (gs s1 36 (Int.toNat ((j1 : Nat) : Int)) (s1 35 (Int.toNat ((j1 : Nat) : Int)))) from ?_)
        rw [w32_nat (by omega)]
        exact ih1
    · skip
      refine (show W2 o_X8 M_X8_keep (inN [29, 36]) (d + 1) Q 15 [some (mR 34), some (mI x), some (mI ((9 : Nat) : Int))] [] (fd (g_X8_keep_15 G x) (gs G 29 15 x) 9) from ?_)
      refine w2_vc [13, 15, 33] 400 oo_X8 q_X8_keep ?_
      refine ⟨fun (c3 : 9 ≤ ((9 : Nat) : Int)) => ?_, fun (c3 : ((9 : Nat) : Int) < 9) => ?_⟩
      · skip
        exact h
      · skip
        exfalso; first | omega | (rw [w32_i (by omega) (by omega)] at c3; omega) | (simp (disch := omega) only [w32_i] at *; omega)
def f_X8_areRivals (c : Nat) (G : mG) (b : Int) (x : Int) (y : Int) : Int := (if (f_X0_isBesideOneAhead G b) = 0 then 0 else (if (f_X1_areApart c G x y) = 0 then 0 else 1))
theorem sp_X8_areRivals {D : Nat → Bool} {d : Nat} {c : Nat} {G : mG} {b : Int} {x : Int} {y : Int} {Q : Option mV → mG → Prop} (hc : c = 40 ∨ c = 52) (hp : G 29 3 = ((c + 5 : Nat) : Int)) (h : Q (some (mI (f_X8_areRivals c G b x y))) G) : P2 D (d + 3) M_X8_areRivals [mR 34, mI b, mI x, mI y] G Q := by
  rcases hc with rfl | rfl
  · skip
    unfold f_X8_areRivals at h
    try simp only [Nat.reduceAdd, Nat.reduceSub] at h
    have hp : G 29 3 = 45 := hp
    refine (show P2 D (d + 3) M_X8_areRivals [mR 34, mI b, mI x, mI y] G Q from ?_)
    refine p2_vc [15] 400 oo_X8 q_X8_areRivals (by decide) rfl (Nat.le_of_ble_eq_true rfl) ?_
    refine sp_X0_isBesideOneAhead  ?_
    refine ⟨fun (c2 : (f_X0_isBesideOneAhead G b) = 0) => ?_, fun (c2 : ¬ (f_X0_isBesideOneAhead G b) = 0) => ?_⟩
    · rw [if_pos c2] at h
      exact ⟨by omega, h⟩
    · rw [if_neg (c2)] at h
      refine (show W2 o_X8 M_X8_areRivals D (d + 3) Q 15 [some (mR 34), some (mI b), some (mI x), some (mI y)] [mR (Int.toNat (G 29 3))] G from ?_)
      rw [hp]
      refine (show W2 o_X8 M_X8_areRivals D (d + 3) Q 15 [some (mR 34), some (mI b), some (mI x), some (mI y)] [mR 45] G from ?_)
      refine w2_vc [15] 400 oo_X8 q_X8_areRivals ?_
      refine sp_X1_areApart (by decide) ?_
      have c4 := fa_X1_areApart 40 G x y
      refine ⟨fun (c5 : (f_X1_areApart 40 G x y) = 0) => ?_, fun (c5 : ¬ (f_X1_areApart 40 G x y) = 0) => ?_⟩
      · rw [if_pos c5] at h
        exact ⟨by omega, h⟩
      · rw [if_neg (c5)] at h
        exact ⟨by omega, h⟩
  · skip
    unfold f_X8_areRivals at h
    try simp only [Nat.reduceAdd, Nat.reduceSub] at h
    have hp : G 29 3 = 57 := hp
    refine (show P2 D (d + 3) M_X8_areRivals [mR 34, mI b, mI x, mI y] G Q from ?_)
    refine p2_vc [15] 400 oo_X8 q_X8_areRivals (by decide) rfl (Nat.le_of_ble_eq_true rfl) ?_
    refine sp_X0_isBesideOneAhead  ?_
    refine ⟨fun (c2 : (f_X0_isBesideOneAhead G b) = 0) => ?_, fun (c2 : ¬ (f_X0_isBesideOneAhead G b) = 0) => ?_⟩
    · rw [if_pos c2] at h
      exact ⟨by omega, h⟩
    · rw [if_neg (c2)] at h
      refine (show W2 o_X8 M_X8_areRivals D (d + 3) Q 15 [some (mR 34), some (mI b), some (mI x), some (mI y)] [mR (Int.toNat (G 29 3))] G from ?_)
      rw [hp]
      refine (show W2 o_X8 M_X8_areRivals D (d + 3) Q 15 [some (mR 34), some (mI b), some (mI x), some (mI y)] [mR 57] G from ?_)
      refine w2_vc [15] 400 oo_X8 q_X8_areRivals ?_
      refine sp_X1_areApart (by decide) ?_
      have c4 := fa_X1_areApart 52 G x y
      refine ⟨fun (c5 : (f_X1_areApart 52 G x y) = 0) => ?_, fun (c5 : ¬ (f_X1_areApart 52 G x y) = 0) => ?_⟩
      · rw [if_pos c5] at h
        exact ⟨by omega, h⟩
      · rw [if_neg (c5)] at h
        exact ⟨by omega, h⟩
theorem fa_X8_areRivals (c : Nat) (G : mG) (b x y : Int) : f_X8_areRivals c G b x y = 1 ∨ f_X8_areRivals c G b x y = 0 := by
  unfold f_X8_areRivals
  repeat' split
  all_goals omega
def g_X8_keyOf_23 (c : Nat) (G : mG) (b : Int) (x : Int) : Nat → Int → Int := fun j1 s1 => (if (w32 ((w32 (b * 40)) + ((j1 : Nat) : Int))) < 0 then s1 else (if ((400 : Nat) : Int) ≤ (w32 ((w32 (b * 40)) + ((j1 : Nat) : Int))) then s1 else (if (G 34 (Int.toNat (w32 ((w32 (b * 40)) + ((j1 : Nat) : Int))))) ≤ 0 then s1 else (w64 ((w64 (s1 * (w32 ((G 34 (Int.toNat (w32 ((w32 (b * 40)) + ((j1 : Nat) : Int))))) + 1)))) + (mMin (G 34 (Int.toNat (w32 ((w32 (b * 40)) + ((j1 : Nat) : Int))))) (G 33 (Int.toNat ((j1 : Nat) : Int)))))))))
def f_X8_keyOf (c : Nat) (G : mG) (b : Int) (x : Int) : Int := (if (f_X0_isBesideOneAhead G b) = 0 then (if (f_X1_clauses c G ) ≤ (((Int.toNat (G c 12)) : Nat) : Int) then (w64 ((w64 ((fd (g_X8_keyOf_23 c G b x) 0 (Int.toNat (G c 12))) * 9)) + b)) else (w64 ((w64 ((fd (g_X8_keyOf_23 c G b x) 0 (Int.toNat (G c 12))) * 9)) + b))) else (if (f_X1_clauses c G ) ≤ (((Int.toNat (G c 12)) : Nat) : Int) then (w64 ((w64 ((fd (g_X8_keyOf_23 c G b x) (w32 (x + 1)) (Int.toNat (G c 12))) * 9)) + b)) else (w64 ((w64 ((fd (g_X8_keyOf_23 c G b x) (w32 (x + 1)) (Int.toNat (G c 12))) * 9)) + b))))
set_option maxHeartbeats 8000000 in
theorem sp_X8_keyOf {D : Nat → Bool} {d : Nat} {c : Nat} {G : mG} {b : Int} {x : Int} {Q : Option mV → mG → Prop} (hc : c = 40 ∨ c = 52) (hp : G 29 3 = ((c + 5 : Nat) : Int)) (h12 : G c 12 ≤ 40) (h : Q (some (mJ (f_X8_keyOf c G b x))) G) : P2 D (d + 3) M_X8_keyOf [mR 34, mI b, mI x] G Q := by
  rcases hc with rfl | rfl
  · skip
    unfold f_X8_keyOf at h
    try simp only [Nat.reduceAdd, Nat.reduceSub] at h
    have hp : G 29 3 = 45 := hp
    refine (show P2 D (d + 3) M_X8_keyOf [mR 34, mI b, mI x] G Q from ?_)
    refine p2_vc [23, 29] 400 oo_X8 q_X8_keyOf (by decide) rfl (Nat.le_of_ble_eq_true rfl) ?_
    refine sp_X0_isBesideOneAhead  ?_
    refine ⟨fun (c2 : (f_X0_isBesideOneAhead G b) = 0) => ?_, fun (c2 : ¬ (f_X0_isBesideOneAhead G b) = 0) => ?_⟩
    · rw [if_pos c2] at h
      refine (show W2 o_X8 M_X8_keyOf D (d + 3) Q 23 [some (mR 34), some (mI b), some (mI x), some (mJ 0), none, some (mI ((0 : Nat) : Int)), none, none] [] G from ?_)
      refine lup (g_X8_keyOf_23 40 G b x) 0 (fun j1 s1 => W2 o_X8 M_X8_keyOf D (d + 3) Q 23 [some (mR 34), some (mI b), some (mI x), some (mJ s1), none, some (mI ((j1 : Nat) : Int)), none, none] [] G) (Int.toNat (G 40 12)) (fun j1 s1 hj1 ih1 => ?_) ?_
      · have ih1 : W2 o_X8 M_X8_keyOf D (d + 3) Q 23 [some (mR 34), some (mI b), some (mI x), some (mJ (g_X8_keyOf_23 40 G b x j1 s1)), none, some (mI ((j1 + 1 : Nat) : Int)), none, none] [] G := ih1
        unfold g_X8_keyOf_23 at ih1
        try simp only [Nat.reduceAdd, Nat.reduceSub] at ih1
        refine w2_vc [23, 29] 400 oo_X8 q_X8_keyOf ?_
        refine (show W2 o_X8 M_X8_keyOf D (d + 3) Q 29 [some (mR 34), some (mI b), some (mI x), some (mJ s1), none, some (mI ((j1 : Nat) : Int)), none, none] [mR (Int.toNat (G 29 3)), mI ((j1 : Nat) : Int)] G from ?_)
        rw [hp]
        refine (show W2 o_X8 M_X8_keyOf D (d + 3) Q 29 [some (mR 34), some (mI b), some (mI x), some (mJ s1), none, some (mI ((j1 : Nat) : Int)), none, none] [mR 45, mI ((j1 : Nat) : Int)] G from ?_)
        refine w2_vc [23, 29] 400 oo_X8 q_X8_keyOf ?_
        refine sp_X1_clauses (by decide) ?_
        have c4 := (show f_X1_clauses 40 G = G 40 12 from rfl)
        refine ⟨fun (c5 : (f_X1_clauses 40 G ) ≤ ((j1 : Nat) : Int)) => ?_, fun (c5 : ((j1 : Nat) : Int) < (f_X1_clauses 40 G )) => ?_⟩
        · skip
          exfalso; first | omega | (rw [w32_i (by omega) (by omega)] at c5; omega) | (simp (disch := omega) only [w32_i] at *; omega)
        · skip
          refine ⟨fun (c6 : 40 ≤ ((j1 : Nat) : Int)) => ?_, fun (c6 : ((j1 : Nat) : Int) < 40) => ?_⟩
          · skip
            exfalso; first | omega | (rw [w32_i (by omega) (by omega)] at c6; omega) | (simp (disch := omega) only [w32_i] at *; omega)
          · skip
            refine ⟨fun (c7 : (w32 ((w32 (b * 40)) + ((j1 : Nat) : Int))) < 0) => ?_, fun (c7 : 0 ≤ (w32 ((w32 (b * 40)) + ((j1 : Nat) : Int)))) => ?_⟩
            · rw [if_pos c7] at ih1
              refine ⟨fun _ => ?_, fun (c : (0 : Int) < 0) => absurd c (by decide)⟩
              refine (show W2 o_X8 M_X8_keyOf D (d + 3) Q 23 [some (mR 34), some (mI b), some (mI x), some (mJ s1), none, some (mI (w32 (((j1 : Nat) : Int) + 1))), some (mI (w32 ((w32 (b * 40)) + ((j1 : Nat) : Int)))), some (mI 0)] [] G from ?_)
              refine WP.fg (L' := [some (mR 34), some (mI b), some (mI x), some (mJ s1), none, some (mI (w32 (((j1 : Nat) : Int) + 1))), none, none]) ⟨rfl, rfl, rfl, rfl, rfl, trivial⟩ ?_
              rw [w32_nat (by omega)]
              exact ih1
            · rw [if_neg (Int.not_lt.mpr c7)] at ih1
              refine ⟨fun (c8 : ((400 : Nat) : Int) ≤ (w32 ((w32 (b * 40)) + ((j1 : Nat) : Int)))) => ?_, fun (c8 : (w32 ((w32 (b * 40)) + ((j1 : Nat) : Int))) < ((400 : Nat) : Int)) => ?_⟩
              · rw [if_pos c8] at ih1
                refine ⟨fun _ => ?_, fun (c : (0 : Int) < 0) => absurd c (by decide)⟩
                refine (show W2 o_X8 M_X8_keyOf D (d + 3) Q 23 [some (mR 34), some (mI b), some (mI x), some (mJ s1), none, some (mI (w32 (((j1 : Nat) : Int) + 1))), some (mI (w32 ((w32 (b * 40)) + ((j1 : Nat) : Int)))), some (mI 0)] [] G from ?_)
                refine WP.fg (L' := [some (mR 34), some (mI b), some (mI x), some (mJ s1), none, some (mI (w32 (((j1 : Nat) : Int) + 1))), none, none]) ⟨rfl, rfl, rfl, rfl, rfl, trivial⟩ ?_
                rw [w32_nat (by omega)]
                exact ih1
              · rw [if_neg (Int.not_le.mpr c8)] at ih1
                refine ⟨(show 0 ≤ (w32 ((w32 (b * 40)) + ((j1 : Nat) : Int))) ∧ (w32 ((w32 (b * 40)) + ((j1 : Nat) : Int))) < ((400 : Nat) : Int) from by first | omega | (simp (disch := omega) only [w32_i]; omega)), ?_⟩
                refine ⟨fun (c9 : (G 34 (Int.toNat (w32 ((w32 (b * 40)) + ((j1 : Nat) : Int))))) ≤ 0) => ?_, fun (c9 : 0 < (G 34 (Int.toNat (w32 ((w32 (b * 40)) + ((j1 : Nat) : Int)))))) => ?_⟩
                · rw [if_pos c9] at ih1
                  refine (show W2 o_X8 M_X8_keyOf D (d + 3) Q 23 [some (mR 34), some (mI b), some (mI x), some (mJ s1), none, some (mI (w32 (((j1 : Nat) : Int) + 1))), some (mI (w32 ((w32 (b * 40)) + ((j1 : Nat) : Int)))), some (mI (G 34 (Int.toNat (w32 ((w32 (b * 40)) + ((j1 : Nat) : Int))))))] [] G from ?_)
                  refine WP.fg (L' := [some (mR 34), some (mI b), some (mI x), some (mJ s1), none, some (mI (w32 (((j1 : Nat) : Int) + 1))), none, none]) ⟨rfl, rfl, rfl, rfl, rfl, trivial⟩ ?_
                  rw [w32_nat (by omega)]
                  exact ih1
                · rw [if_neg (Int.not_le.mpr c9)] at ih1
                  refine ⟨(show 0 ≤ ((j1 : Nat) : Int) ∧ ((j1 : Nat) : Int) < ((40 : Nat) : Int) from by first | omega | (simp (disch := omega) only [w32_i]; omega)), ?_⟩
                  refine (show W2 o_X8 M_X8_keyOf D (d + 3) Q 23 [some (mR 34), some (mI b), some (mI x), some (mJ (w64 ((w64 (s1 * (w32 ((G 34 (Int.toNat (w32 ((w32 (b * 40)) + ((j1 : Nat) : Int))))) + 1)))) + (mMin (G 34 (Int.toNat (w32 ((w32 (b * 40)) + ((j1 : Nat) : Int))))) (G 33 (Int.toNat ((j1 : Nat) : Int))))))), none, some (mI (w32 (((j1 : Nat) : Int) + 1))), some (mI (w32 ((w32 (b * 40)) + ((j1 : Nat) : Int)))), some (mI (G 34 (Int.toNat (w32 ((w32 (b * 40)) + ((j1 : Nat) : Int))))))] [] G from ?_)
                  refine WP.fg (L' := [some (mR 34), some (mI b), some (mI x), some (mJ (w64 ((w64 (s1 * (w32 ((G 34 (Int.toNat (w32 ((w32 (b * 40)) + ((j1 : Nat) : Int))))) + 1)))) + (mMin (G 34 (Int.toNat (w32 ((w32 (b * 40)) + ((j1 : Nat) : Int))))) (G 33 (Int.toNat ((j1 : Nat) : Int))))))), none, some (mI (w32 (((j1 : Nat) : Int) + 1))), none, none]) ⟨rfl, rfl, rfl, rfl, rfl, trivial⟩ ?_
                  rw [w32_nat (by omega)]
                  exact ih1
      · skip
        refine (show W2 o_X8 M_X8_keyOf D (d + 3) Q 23 [some (mR 34), some (mI b), some (mI x), some (mJ (fd (g_X8_keyOf_23 40 G b x) 0 (Int.toNat (G 40 12)))), none, some (mI (((Int.toNat (G 40 12)) : Nat) : Int)), none, none] [] G from ?_)
        refine w2_vc [23, 29] 400 oo_X8 q_X8_keyOf ?_
        refine (show W2 o_X8 M_X8_keyOf D (d + 3) Q 29 [some (mR 34), some (mI b), some (mI x), some (mJ (fd (g_X8_keyOf_23 40 G b x) 0 (Int.toNat (G 40 12)))), none, some (mI (((Int.toNat (G 40 12)) : Nat) : Int)), none, none] [mR (Int.toNat (G 29 3)), mI (((Int.toNat (G 40 12)) : Nat) : Int)] G from ?_)
        rw [hp]
        refine (show W2 o_X8 M_X8_keyOf D (d + 3) Q 29 [some (mR 34), some (mI b), some (mI x), some (mJ (fd (g_X8_keyOf_23 40 G b x) 0 (Int.toNat (G 40 12)))), none, some (mI (((Int.toNat (G 40 12)) : Nat) : Int)), none, none] [mR 45, mI (((Int.toNat (G 40 12)) : Nat) : Int)] G from ?_)
        refine w2_vc [23, 29] 400 oo_X8 q_X8_keyOf ?_
        refine sp_X1_clauses (by decide) ?_
        have c11 := (show f_X1_clauses 40 G = G 40 12 from rfl)
        refine ⟨fun (c12 : (f_X1_clauses 40 G ) ≤ (((Int.toNat (G 40 12)) : Nat) : Int)) => ?_, fun (c12 : (((Int.toNat (G 40 12)) : Nat) : Int) < (f_X1_clauses 40 G )) => ?_⟩
        · rw [if_pos c12] at h
          exact h
        · rw [if_neg (Int.not_le.mpr c12)] at h
          refine ⟨fun (c13 : 40 ≤ (((Int.toNat (G 40 12)) : Nat) : Int)) => ?_, fun (c13 : (((Int.toNat (G 40 12)) : Nat) : Int) < 40) => ?_⟩
          · skip
            exact h
          · skip
            exfalso; first | omega | (rw [w32_i (by omega) (by omega)] at c13; omega) | (simp (disch := omega) only [w32_i] at *; omega)
    · rw [if_neg (c2)] at h
      refine (show W2 o_X8 M_X8_keyOf D (d + 3) Q 23 [some (mR 34), some (mI b), some (mI x), some (mJ (w32 (x + 1))), none, some (mI ((0 : Nat) : Int)), none, none] [] G from ?_)
      refine lup (g_X8_keyOf_23 40 G b x) (w32 (x + 1)) (fun j1 s1 => W2 o_X8 M_X8_keyOf D (d + 3) Q 23 [some (mR 34), some (mI b), some (mI x), some (mJ s1), none, some (mI ((j1 : Nat) : Int)), none, none] [] G) (Int.toNat (G 40 12)) (fun j1 s1 hj1 ih1 => ?_) ?_
      · have ih1 : W2 o_X8 M_X8_keyOf D (d + 3) Q 23 [some (mR 34), some (mI b), some (mI x), some (mJ (g_X8_keyOf_23 40 G b x j1 s1)), none, some (mI ((j1 + 1 : Nat) : Int)), none, none] [] G := ih1
        unfold g_X8_keyOf_23 at ih1
        try simp only [Nat.reduceAdd, Nat.reduceSub] at ih1
        refine w2_vc [23, 29] 400 oo_X8 q_X8_keyOf ?_
        refine (show W2 o_X8 M_X8_keyOf D (d + 3) Q 29 [some (mR 34), some (mI b), some (mI x), some (mJ s1), none, some (mI ((j1 : Nat) : Int)), none, none] [mR (Int.toNat (G 29 3)), mI ((j1 : Nat) : Int)] G from ?_)
        rw [hp]
        refine (show W2 o_X8 M_X8_keyOf D (d + 3) Q 29 [some (mR 34), some (mI b), some (mI x), some (mJ s1), none, some (mI ((j1 : Nat) : Int)), none, none] [mR 45, mI ((j1 : Nat) : Int)] G from ?_)
        refine w2_vc [23, 29] 400 oo_X8 q_X8_keyOf ?_
        refine sp_X1_clauses (by decide) ?_
        have c15 := (show f_X1_clauses 40 G = G 40 12 from rfl)
        refine ⟨fun (c16 : (f_X1_clauses 40 G ) ≤ ((j1 : Nat) : Int)) => ?_, fun (c16 : ((j1 : Nat) : Int) < (f_X1_clauses 40 G )) => ?_⟩
        · skip
          exfalso; first | omega | (rw [w32_i (by omega) (by omega)] at c16; omega) | (simp (disch := omega) only [w32_i] at *; omega)
        · skip
          refine ⟨fun (c17 : 40 ≤ ((j1 : Nat) : Int)) => ?_, fun (c17 : ((j1 : Nat) : Int) < 40) => ?_⟩
          · skip
            exfalso; first | omega | (rw [w32_i (by omega) (by omega)] at c17; omega) | (simp (disch := omega) only [w32_i] at *; omega)
          · skip
            refine ⟨fun (c18 : (w32 ((w32 (b * 40)) + ((j1 : Nat) : Int))) < 0) => ?_, fun (c18 : 0 ≤ (w32 ((w32 (b * 40)) + ((j1 : Nat) : Int)))) => ?_⟩
            · rw [if_pos c18] at ih1
              refine ⟨fun _ => ?_, fun (c : (0 : Int) < 0) => absurd c (by decide)⟩
              refine (show W2 o_X8 M_X8_keyOf D (d + 3) Q 23 [some (mR 34), some (mI b), some (mI x), some (mJ s1), none, some (mI (w32 (((j1 : Nat) : Int) + 1))), some (mI (w32 ((w32 (b * 40)) + ((j1 : Nat) : Int)))), some (mI 0)] [] G from ?_)
              refine WP.fg (L' := [some (mR 34), some (mI b), some (mI x), some (mJ s1), none, some (mI (w32 (((j1 : Nat) : Int) + 1))), none, none]) ⟨rfl, rfl, rfl, rfl, rfl, trivial⟩ ?_
              rw [w32_nat (by omega)]
              exact ih1
            · rw [if_neg (Int.not_lt.mpr c18)] at ih1
              refine ⟨fun (c19 : ((400 : Nat) : Int) ≤ (w32 ((w32 (b * 40)) + ((j1 : Nat) : Int)))) => ?_, fun (c19 : (w32 ((w32 (b * 40)) + ((j1 : Nat) : Int))) < ((400 : Nat) : Int)) => ?_⟩
              · rw [if_pos c19] at ih1
                refine ⟨fun _ => ?_, fun (c : (0 : Int) < 0) => absurd c (by decide)⟩
                refine (show W2 o_X8 M_X8_keyOf D (d + 3) Q 23 [some (mR 34), some (mI b), some (mI x), some (mJ s1), none, some (mI (w32 (((j1 : Nat) : Int) + 1))), some (mI (w32 ((w32 (b * 40)) + ((j1 : Nat) : Int)))), some (mI 0)] [] G from ?_)
                refine WP.fg (L' := [some (mR 34), some (mI b), some (mI x), some (mJ s1), none, some (mI (w32 (((j1 : Nat) : Int) + 1))), none, none]) ⟨rfl, rfl, rfl, rfl, rfl, trivial⟩ ?_
                rw [w32_nat (by omega)]
                exact ih1
              · rw [if_neg (Int.not_le.mpr c19)] at ih1
                refine ⟨(show 0 ≤ (w32 ((w32 (b * 40)) + ((j1 : Nat) : Int))) ∧ (w32 ((w32 (b * 40)) + ((j1 : Nat) : Int))) < ((400 : Nat) : Int) from by first | omega | (simp (disch := omega) only [w32_i]; omega)), ?_⟩
                refine ⟨fun (c20 : (G 34 (Int.toNat (w32 ((w32 (b * 40)) + ((j1 : Nat) : Int))))) ≤ 0) => ?_, fun (c20 : 0 < (G 34 (Int.toNat (w32 ((w32 (b * 40)) + ((j1 : Nat) : Int)))))) => ?_⟩
                · rw [if_pos c20] at ih1
                  refine (show W2 o_X8 M_X8_keyOf D (d + 3) Q 23 [some (mR 34), some (mI b), some (mI x), some (mJ s1), none, some (mI (w32 (((j1 : Nat) : Int) + 1))), some (mI (w32 ((w32 (b * 40)) + ((j1 : Nat) : Int)))), some (mI (G 34 (Int.toNat (w32 ((w32 (b * 40)) + ((j1 : Nat) : Int))))))] [] G from ?_)
                  refine WP.fg (L' := [some (mR 34), some (mI b), some (mI x), some (mJ s1), none, some (mI (w32 (((j1 : Nat) : Int) + 1))), none, none]) ⟨rfl, rfl, rfl, rfl, rfl, trivial⟩ ?_
                  rw [w32_nat (by omega)]
                  exact ih1
                · rw [if_neg (Int.not_le.mpr c20)] at ih1
                  refine ⟨(show 0 ≤ ((j1 : Nat) : Int) ∧ ((j1 : Nat) : Int) < ((40 : Nat) : Int) from by first | omega | (simp (disch := omega) only [w32_i]; omega)), ?_⟩
                  refine (show W2 o_X8 M_X8_keyOf D (d + 3) Q 23 [some (mR 34), some (mI b), some (mI x), some (mJ (w64 ((w64 (s1 * (w32 ((G 34 (Int.toNat (w32 ((w32 (b * 40)) + ((j1 : Nat) : Int))))) + 1)))) + (mMin (G 34 (Int.toNat (w32 ((w32 (b * 40)) + ((j1 : Nat) : Int))))) (G 33 (Int.toNat ((j1 : Nat) : Int))))))), none, some (mI (w32 (((j1 : Nat) : Int) + 1))), some (mI (w32 ((w32 (b * 40)) + ((j1 : Nat) : Int)))), some (mI (G 34 (Int.toNat (w32 ((w32 (b * 40)) + ((j1 : Nat) : Int))))))] [] G from ?_)
                  refine WP.fg (L' := [some (mR 34), some (mI b), some (mI x), some (mJ (w64 ((w64 (s1 * (w32 ((G 34 (Int.toNat (w32 ((w32 (b * 40)) + ((j1 : Nat) : Int))))) + 1)))) + (mMin (G 34 (Int.toNat (w32 ((w32 (b * 40)) + ((j1 : Nat) : Int))))) (G 33 (Int.toNat ((j1 : Nat) : Int))))))), none, some (mI (w32 (((j1 : Nat) : Int) + 1))), none, none]) ⟨rfl, rfl, rfl, rfl, rfl, trivial⟩ ?_
                  rw [w32_nat (by omega)]
                  exact ih1
      · skip
        refine (show W2 o_X8 M_X8_keyOf D (d + 3) Q 23 [some (mR 34), some (mI b), some (mI x), some (mJ (fd (g_X8_keyOf_23 40 G b x) (w32 (x + 1)) (Int.toNat (G 40 12)))), none, some (mI (((Int.toNat (G 40 12)) : Nat) : Int)), none, none] [] G from ?_)
        refine w2_vc [23, 29] 400 oo_X8 q_X8_keyOf ?_
        refine (show W2 o_X8 M_X8_keyOf D (d + 3) Q 29 [some (mR 34), some (mI b), some (mI x), some (mJ (fd (g_X8_keyOf_23 40 G b x) (w32 (x + 1)) (Int.toNat (G 40 12)))), none, some (mI (((Int.toNat (G 40 12)) : Nat) : Int)), none, none] [mR (Int.toNat (G 29 3)), mI (((Int.toNat (G 40 12)) : Nat) : Int)] G from ?_)
        rw [hp]
        refine (show W2 o_X8 M_X8_keyOf D (d + 3) Q 29 [some (mR 34), some (mI b), some (mI x), some (mJ (fd (g_X8_keyOf_23 40 G b x) (w32 (x + 1)) (Int.toNat (G 40 12)))), none, some (mI (((Int.toNat (G 40 12)) : Nat) : Int)), none, none] [mR 45, mI (((Int.toNat (G 40 12)) : Nat) : Int)] G from ?_)
        refine w2_vc [23, 29] 400 oo_X8 q_X8_keyOf ?_
        refine sp_X1_clauses (by decide) ?_
        have c22 := (show f_X1_clauses 40 G = G 40 12 from rfl)
        refine ⟨fun (c23 : (f_X1_clauses 40 G ) ≤ (((Int.toNat (G 40 12)) : Nat) : Int)) => ?_, fun (c23 : (((Int.toNat (G 40 12)) : Nat) : Int) < (f_X1_clauses 40 G )) => ?_⟩
        · rw [if_pos c23] at h
          exact h
        · rw [if_neg (Int.not_le.mpr c23)] at h
          refine ⟨fun (c24 : 40 ≤ (((Int.toNat (G 40 12)) : Nat) : Int)) => ?_, fun (c24 : (((Int.toNat (G 40 12)) : Nat) : Int) < 40) => ?_⟩
          · skip
            exact h
          · skip
            exfalso; first | omega | (rw [w32_i (by omega) (by omega)] at c24; omega) | (simp (disch := omega) only [w32_i] at *; omega)
  · skip
    unfold f_X8_keyOf at h
    try simp only [Nat.reduceAdd, Nat.reduceSub] at h
    have hp : G 29 3 = 57 := hp
    refine (show P2 D (d + 3) M_X8_keyOf [mR 34, mI b, mI x] G Q from ?_)
    refine p2_vc [23, 29] 400 oo_X8 q_X8_keyOf (by decide) rfl (Nat.le_of_ble_eq_true rfl) ?_
    refine sp_X0_isBesideOneAhead  ?_
    refine ⟨fun (c2 : (f_X0_isBesideOneAhead G b) = 0) => ?_, fun (c2 : ¬ (f_X0_isBesideOneAhead G b) = 0) => ?_⟩
    · rw [if_pos c2] at h
      refine (show W2 o_X8 M_X8_keyOf D (d + 3) Q 23 [some (mR 34), some (mI b), some (mI x), some (mJ 0), none, some (mI ((0 : Nat) : Int)), none, none] [] G from ?_)
      refine lup (g_X8_keyOf_23 52 G b x) 0 (fun j1 s1 => W2 o_X8 M_X8_keyOf D (d + 3) Q 23 [some (mR 34), some (mI b), some (mI x), some (mJ s1), none, some (mI ((j1 : Nat) : Int)), none, none] [] G) (Int.toNat (G 52 12)) (fun j1 s1 hj1 ih1 => ?_) ?_
      · have ih1 : W2 o_X8 M_X8_keyOf D (d + 3) Q 23 [some (mR 34), some (mI b), some (mI x), some (mJ (g_X8_keyOf_23 52 G b x j1 s1)), none, some (mI ((j1 + 1 : Nat) : Int)), none, none] [] G := ih1
        unfold g_X8_keyOf_23 at ih1
        try simp only [Nat.reduceAdd, Nat.reduceSub] at ih1
        refine w2_vc [23, 29] 400 oo_X8 q_X8_keyOf ?_
        refine (show W2 o_X8 M_X8_keyOf D (d + 3) Q 29 [some (mR 34), some (mI b), some (mI x), some (mJ s1), none, some (mI ((j1 : Nat) : Int)), none, none] [mR (Int.toNat (G 29 3)), mI ((j1 : Nat) : Int)] G from ?_)
        rw [hp]
        refine (show W2 o_X8 M_X8_keyOf D (d + 3) Q 29 [some (mR 34), some (mI b), some (mI x), some (mJ s1), none, some (mI ((j1 : Nat) : Int)), none, none] [mR 57, mI ((j1 : Nat) : Int)] G from ?_)
        refine w2_vc [23, 29] 400 oo_X8 q_X8_keyOf ?_
        refine sp_X1_clauses (by decide) ?_
        have c4 := (show f_X1_clauses 52 G = G 52 12 from rfl)
        refine ⟨fun (c5 : (f_X1_clauses 52 G ) ≤ ((j1 : Nat) : Int)) => ?_, fun (c5 : ((j1 : Nat) : Int) < (f_X1_clauses 52 G )) => ?_⟩
        · skip
          exfalso; first | omega | (rw [w32_i (by omega) (by omega)] at c5; omega) | (simp (disch := omega) only [w32_i] at *; omega)
        · skip
          refine ⟨fun (c6 : 40 ≤ ((j1 : Nat) : Int)) => ?_, fun (c6 : ((j1 : Nat) : Int) < 40) => ?_⟩
          · skip
            exfalso; first | omega | (rw [w32_i (by omega) (by omega)] at c6; omega) | (simp (disch := omega) only [w32_i] at *; omega)
          · skip
            refine ⟨fun (c7 : (w32 ((w32 (b * 40)) + ((j1 : Nat) : Int))) < 0) => ?_, fun (c7 : 0 ≤ (w32 ((w32 (b * 40)) + ((j1 : Nat) : Int)))) => ?_⟩
            · rw [if_pos c7] at ih1
              refine ⟨fun _ => ?_, fun (c : (0 : Int) < 0) => absurd c (by decide)⟩
              refine (show W2 o_X8 M_X8_keyOf D (d + 3) Q 23 [some (mR 34), some (mI b), some (mI x), some (mJ s1), none, some (mI (w32 (((j1 : Nat) : Int) + 1))), some (mI (w32 ((w32 (b * 40)) + ((j1 : Nat) : Int)))), some (mI 0)] [] G from ?_)
              refine WP.fg (L' := [some (mR 34), some (mI b), some (mI x), some (mJ s1), none, some (mI (w32 (((j1 : Nat) : Int) + 1))), none, none]) ⟨rfl, rfl, rfl, rfl, rfl, trivial⟩ ?_
              rw [w32_nat (by omega)]
              exact ih1
            · rw [if_neg (Int.not_lt.mpr c7)] at ih1
              refine ⟨fun (c8 : ((400 : Nat) : Int) ≤ (w32 ((w32 (b * 40)) + ((j1 : Nat) : Int)))) => ?_, fun (c8 : (w32 ((w32 (b * 40)) + ((j1 : Nat) : Int))) < ((400 : Nat) : Int)) => ?_⟩
              · rw [if_pos c8] at ih1
                refine ⟨fun _ => ?_, fun (c : (0 : Int) < 0) => absurd c (by decide)⟩
                refine (show W2 o_X8 M_X8_keyOf D (d + 3) Q 23 [some (mR 34), some (mI b), some (mI x), some (mJ s1), none, some (mI (w32 (((j1 : Nat) : Int) + 1))), some (mI (w32 ((w32 (b * 40)) + ((j1 : Nat) : Int)))), some (mI 0)] [] G from ?_)
                refine WP.fg (L' := [some (mR 34), some (mI b), some (mI x), some (mJ s1), none, some (mI (w32 (((j1 : Nat) : Int) + 1))), none, none]) ⟨rfl, rfl, rfl, rfl, rfl, trivial⟩ ?_
                rw [w32_nat (by omega)]
                exact ih1
              · rw [if_neg (Int.not_le.mpr c8)] at ih1
                refine ⟨(show 0 ≤ (w32 ((w32 (b * 40)) + ((j1 : Nat) : Int))) ∧ (w32 ((w32 (b * 40)) + ((j1 : Nat) : Int))) < ((400 : Nat) : Int) from by first | omega | (simp (disch := omega) only [w32_i]; omega)), ?_⟩
                refine ⟨fun (c9 : (G 34 (Int.toNat (w32 ((w32 (b * 40)) + ((j1 : Nat) : Int))))) ≤ 0) => ?_, fun (c9 : 0 < (G 34 (Int.toNat (w32 ((w32 (b * 40)) + ((j1 : Nat) : Int)))))) => ?_⟩
                · rw [if_pos c9] at ih1
                  refine (show W2 o_X8 M_X8_keyOf D (d + 3) Q 23 [some (mR 34), some (mI b), some (mI x), some (mJ s1), none, some (mI (w32 (((j1 : Nat) : Int) + 1))), some (mI (w32 ((w32 (b * 40)) + ((j1 : Nat) : Int)))), some (mI (G 34 (Int.toNat (w32 ((w32 (b * 40)) + ((j1 : Nat) : Int))))))] [] G from ?_)
                  refine WP.fg (L' := [some (mR 34), some (mI b), some (mI x), some (mJ s1), none, some (mI (w32 (((j1 : Nat) : Int) + 1))), none, none]) ⟨rfl, rfl, rfl, rfl, rfl, trivial⟩ ?_
                  rw [w32_nat (by omega)]
                  exact ih1
                · rw [if_neg (Int.not_le.mpr c9)] at ih1
                  refine ⟨(show 0 ≤ ((j1 : Nat) : Int) ∧ ((j1 : Nat) : Int) < ((40 : Nat) : Int) from by first | omega | (simp (disch := omega) only [w32_i]; omega)), ?_⟩
                  refine (show W2 o_X8 M_X8_keyOf D (d + 3) Q 23 [some (mR 34), some (mI b), some (mI x), some (mJ (w64 ((w64 (s1 * (w32 ((G 34 (Int.toNat (w32 ((w32 (b * 40)) + ((j1 : Nat) : Int))))) + 1)))) + (mMin (G 34 (Int.toNat (w32 ((w32 (b * 40)) + ((j1 : Nat) : Int))))) (G 33 (Int.toNat ((j1 : Nat) : Int))))))), none, some (mI (w32 (((j1 : Nat) : Int) + 1))), some (mI (w32 ((w32 (b * 40)) + ((j1 : Nat) : Int)))), some (mI (G 34 (Int.toNat (w32 ((w32 (b * 40)) + ((j1 : Nat) : Int))))))] [] G from ?_)
                  refine WP.fg (L' := [some (mR 34), some (mI b), some (mI x), some (mJ (w64 ((w64 (s1 * (w32 ((G 34 (Int.toNat (w32 ((w32 (b * 40)) + ((j1 : Nat) : Int))))) + 1)))) + (mMin (G 34 (Int.toNat (w32 ((w32 (b * 40)) + ((j1 : Nat) : Int))))) (G 33 (Int.toNat ((j1 : Nat) : Int))))))), none, some (mI (w32 (((j1 : Nat) : Int) + 1))), none, none]) ⟨rfl, rfl, rfl, rfl, rfl, trivial⟩ ?_
                  rw [w32_nat (by omega)]
                  exact ih1
      · skip
        refine (show W2 o_X8 M_X8_keyOf D (d + 3) Q 23 [some (mR 34), some (mI b), some (mI x), some (mJ (fd (g_X8_keyOf_23 52 G b x) 0 (Int.toNat (G 52 12)))), none, some (mI (((Int.toNat (G 52 12)) : Nat) : Int)), none, none] [] G from ?_)
        refine w2_vc [23, 29] 400 oo_X8 q_X8_keyOf ?_
        refine (show W2 o_X8 M_X8_keyOf D (d + 3) Q 29 [some (mR 34), some (mI b), some (mI x), some (mJ (fd (g_X8_keyOf_23 52 G b x) 0 (Int.toNat (G 52 12)))), none, some (mI (((Int.toNat (G 52 12)) : Nat) : Int)), none, none] [mR (Int.toNat (G 29 3)), mI (((Int.toNat (G 52 12)) : Nat) : Int)] G from ?_)
        rw [hp]
        refine (show W2 o_X8 M_X8_keyOf D (d + 3) Q 29 [some (mR 34), some (mI b), some (mI x), some (mJ (fd (g_X8_keyOf_23 52 G b x) 0 (Int.toNat (G 52 12)))), none, some (mI (((Int.toNat (G 52 12)) : Nat) : Int)), none, none] [mR 57, mI (((Int.toNat (G 52 12)) : Nat) : Int)] G from ?_)
        refine w2_vc [23, 29] 400 oo_X8 q_X8_keyOf ?_
        refine sp_X1_clauses (by decide) ?_
        have c11 := (show f_X1_clauses 52 G = G 52 12 from rfl)
        refine ⟨fun (c12 : (f_X1_clauses 52 G ) ≤ (((Int.toNat (G 52 12)) : Nat) : Int)) => ?_, fun (c12 : (((Int.toNat (G 52 12)) : Nat) : Int) < (f_X1_clauses 52 G )) => ?_⟩
        · rw [if_pos c12] at h
          exact h
        · rw [if_neg (Int.not_le.mpr c12)] at h
          refine ⟨fun (c13 : 40 ≤ (((Int.toNat (G 52 12)) : Nat) : Int)) => ?_, fun (c13 : (((Int.toNat (G 52 12)) : Nat) : Int) < 40) => ?_⟩
          · skip
            exact h
          · skip
            exfalso; first | omega | (rw [w32_i (by omega) (by omega)] at c13; omega) | (simp (disch := omega) only [w32_i] at *; omega)
    · rw [if_neg (c2)] at h
      refine (show W2 o_X8 M_X8_keyOf D (d + 3) Q 23 [some (mR 34), some (mI b), some (mI x), some (mJ (w32 (x + 1))), none, some (mI ((0 : Nat) : Int)), none, none] [] G from ?_)
      refine lup (g_X8_keyOf_23 52 G b x) (w32 (x + 1)) (fun j1 s1 => W2 o_X8 M_X8_keyOf D (d + 3) Q 23 [some (mR 34), some (mI b), some (mI x), some (mJ s1), none, some (mI ((j1 : Nat) : Int)), none, none] [] G) (Int.toNat (G 52 12)) (fun j1 s1 hj1 ih1 => ?_) ?_
      · have ih1 : W2 o_X8 M_X8_keyOf D (d + 3) Q 23 [some (mR 34), some (mI b), some (mI x), some (mJ (g_X8_keyOf_23 52 G b x j1 s1)), none, some (mI ((j1 + 1 : Nat) : Int)), none, none] [] G := ih1
        unfold g_X8_keyOf_23 at ih1
        try simp only [Nat.reduceAdd, Nat.reduceSub] at ih1
        refine w2_vc [23, 29] 400 oo_X8 q_X8_keyOf ?_
        refine (show W2 o_X8 M_X8_keyOf D (d + 3) Q 29 [some (mR 34), some (mI b), some (mI x), some (mJ s1), none, some (mI ((j1 : Nat) : Int)), none, none] [mR (Int.toNat (G 29 3)), mI ((j1 : Nat) : Int)] G from ?_)
        rw [hp]
        refine (show W2 o_X8 M_X8_keyOf D (d + 3) Q 29 [some (mR 34), some (mI b), some (mI x), some (mJ s1), none, some (mI ((j1 : Nat) : Int)), none, none] [mR 57, mI ((j1 : Nat) : Int)] G from ?_)
        refine w2_vc [23, 29] 400 oo_X8 q_X8_keyOf ?_
        refine sp_X1_clauses (by decide) ?_
        have c15 := (show f_X1_clauses 52 G = G 52 12 from rfl)
        refine ⟨fun (c16 : (f_X1_clauses 52 G ) ≤ ((j1 : Nat) : Int)) => ?_, fun (c16 : ((j1 : Nat) : Int) < (f_X1_clauses 52 G )) => ?_⟩
        · skip
          exfalso; first | omega | (rw [w32_i (by omega) (by omega)] at c16; omega) | (simp (disch := omega) only [w32_i] at *; omega)
        · skip
          refine ⟨fun (c17 : 40 ≤ ((j1 : Nat) : Int)) => ?_, fun (c17 : ((j1 : Nat) : Int) < 40) => ?_⟩
          · skip
            exfalso; first | omega | (rw [w32_i (by omega) (by omega)] at c17; omega) | (simp (disch := omega) only [w32_i] at *; omega)
          · skip
            refine ⟨fun (c18 : (w32 ((w32 (b * 40)) + ((j1 : Nat) : Int))) < 0) => ?_, fun (c18 : 0 ≤ (w32 ((w32 (b * 40)) + ((j1 : Nat) : Int)))) => ?_⟩
            · rw [if_pos c18] at ih1
              refine ⟨fun _ => ?_, fun (c : (0 : Int) < 0) => absurd c (by decide)⟩
              refine (show W2 o_X8 M_X8_keyOf D (d + 3) Q 23 [some (mR 34), some (mI b), some (mI x), some (mJ s1), none, some (mI (w32 (((j1 : Nat) : Int) + 1))), some (mI (w32 ((w32 (b * 40)) + ((j1 : Nat) : Int)))), some (mI 0)] [] G from ?_)
              refine WP.fg (L' := [some (mR 34), some (mI b), some (mI x), some (mJ s1), none, some (mI (w32 (((j1 : Nat) : Int) + 1))), none, none]) ⟨rfl, rfl, rfl, rfl, rfl, trivial⟩ ?_
              rw [w32_nat (by omega)]
              exact ih1
            · rw [if_neg (Int.not_lt.mpr c18)] at ih1
              refine ⟨fun (c19 : ((400 : Nat) : Int) ≤ (w32 ((w32 (b * 40)) + ((j1 : Nat) : Int)))) => ?_, fun (c19 : (w32 ((w32 (b * 40)) + ((j1 : Nat) : Int))) < ((400 : Nat) : Int)) => ?_⟩
              · rw [if_pos c19] at ih1
                refine ⟨fun _ => ?_, fun (c : (0 : Int) < 0) => absurd c (by decide)⟩
                refine (show W2 o_X8 M_X8_keyOf D (d + 3) Q 23 [some (mR 34), some (mI b), some (mI x), some (mJ s1), none, some (mI (w32 (((j1 : Nat) : Int) + 1))), some (mI (w32 ((w32 (b * 40)) + ((j1 : Nat) : Int)))), some (mI 0)] [] G from ?_)
                refine WP.fg (L' := [some (mR 34), some (mI b), some (mI x), some (mJ s1), none, some (mI (w32 (((j1 : Nat) : Int) + 1))), none, none]) ⟨rfl, rfl, rfl, rfl, rfl, trivial⟩ ?_
                rw [w32_nat (by omega)]
                exact ih1
              · rw [if_neg (Int.not_le.mpr c19)] at ih1
                refine ⟨(show 0 ≤ (w32 ((w32 (b * 40)) + ((j1 : Nat) : Int))) ∧ (w32 ((w32 (b * 40)) + ((j1 : Nat) : Int))) < ((400 : Nat) : Int) from by first | omega | (simp (disch := omega) only [w32_i]; omega)), ?_⟩
                refine ⟨fun (c20 : (G 34 (Int.toNat (w32 ((w32 (b * 40)) + ((j1 : Nat) : Int))))) ≤ 0) => ?_, fun (c20 : 0 < (G 34 (Int.toNat (w32 ((w32 (b * 40)) + ((j1 : Nat) : Int)))))) => ?_⟩
                · rw [if_pos c20] at ih1
                  refine (show W2 o_X8 M_X8_keyOf D (d + 3) Q 23 [some (mR 34), some (mI b), some (mI x), some (mJ s1), none, some (mI (w32 (((j1 : Nat) : Int) + 1))), some (mI (w32 ((w32 (b * 40)) + ((j1 : Nat) : Int)))), some (mI (G 34 (Int.toNat (w32 ((w32 (b * 40)) + ((j1 : Nat) : Int))))))] [] G from ?_)
                  refine WP.fg (L' := [some (mR 34), some (mI b), some (mI x), some (mJ s1), none, some (mI (w32 (((j1 : Nat) : Int) + 1))), none, none]) ⟨rfl, rfl, rfl, rfl, rfl, trivial⟩ ?_
                  rw [w32_nat (by omega)]
                  exact ih1
                · rw [if_neg (Int.not_le.mpr c20)] at ih1
                  refine ⟨(show 0 ≤ ((j1 : Nat) : Int) ∧ ((j1 : Nat) : Int) < ((40 : Nat) : Int) from by first | omega | (simp (disch := omega) only [w32_i]; omega)), ?_⟩
                  refine (show W2 o_X8 M_X8_keyOf D (d + 3) Q 23 [some (mR 34), some (mI b), some (mI x), some (mJ (w64 ((w64 (s1 * (w32 ((G 34 (Int.toNat (w32 ((w32 (b * 40)) + ((j1 : Nat) : Int))))) + 1)))) + (mMin (G 34 (Int.toNat (w32 ((w32 (b * 40)) + ((j1 : Nat) : Int))))) (G 33 (Int.toNat ((j1 : Nat) : Int))))))), none, some (mI (w32 (((j1 : Nat) : Int) + 1))), some (mI (w32 ((w32 (b * 40)) + ((j1 : Nat) : Int)))), some (mI (G 34 (Int.toNat (w32 ((w32 (b * 40)) + ((j1 : Nat) : Int))))))] [] G from ?_)
                  refine WP.fg (L' := [some (mR 34), some (mI b), some (mI x), some (mJ (w64 ((w64 (s1 * (w32 ((G 34 (Int.toNat (w32 ((w32 (b * 40)) + ((j1 : Nat) : Int))))) + 1)))) + (mMin (G 34 (Int.toNat (w32 ((w32 (b * 40)) + ((j1 : Nat) : Int))))) (G 33 (Int.toNat ((j1 : Nat) : Int))))))), none, some (mI (w32 (((j1 : Nat) : Int) + 1))), none, none]) ⟨rfl, rfl, rfl, rfl, rfl, trivial⟩ ?_
                  rw [w32_nat (by omega)]
                  exact ih1
      · skip
        refine (show W2 o_X8 M_X8_keyOf D (d + 3) Q 23 [some (mR 34), some (mI b), some (mI x), some (mJ (fd (g_X8_keyOf_23 52 G b x) (w32 (x + 1)) (Int.toNat (G 52 12)))), none, some (mI (((Int.toNat (G 52 12)) : Nat) : Int)), none, none] [] G from ?_)
        refine w2_vc [23, 29] 400 oo_X8 q_X8_keyOf ?_
        refine (show W2 o_X8 M_X8_keyOf D (d + 3) Q 29 [some (mR 34), some (mI b), some (mI x), some (mJ (fd (g_X8_keyOf_23 52 G b x) (w32 (x + 1)) (Int.toNat (G 52 12)))), none, some (mI (((Int.toNat (G 52 12)) : Nat) : Int)), none, none] [mR (Int.toNat (G 29 3)), mI (((Int.toNat (G 52 12)) : Nat) : Int)] G from ?_)
        rw [hp]
        refine (show W2 o_X8 M_X8_keyOf D (d + 3) Q 29 [some (mR 34), some (mI b), some (mI x), some (mJ (fd (g_X8_keyOf_23 52 G b x) (w32 (x + 1)) (Int.toNat (G 52 12)))), none, some (mI (((Int.toNat (G 52 12)) : Nat) : Int)), none, none] [mR 57, mI (((Int.toNat (G 52 12)) : Nat) : Int)] G from ?_)
        refine w2_vc [23, 29] 400 oo_X8 q_X8_keyOf ?_
        refine sp_X1_clauses (by decide) ?_
        have c22 := (show f_X1_clauses 52 G = G 52 12 from rfl)
        refine ⟨fun (c23 : (f_X1_clauses 52 G ) ≤ (((Int.toNat (G 52 12)) : Nat) : Int)) => ?_, fun (c23 : (((Int.toNat (G 52 12)) : Nat) : Int) < (f_X1_clauses 52 G )) => ?_⟩
        · rw [if_pos c23] at h
          exact h
        · rw [if_neg (Int.not_le.mpr c23)] at h
          refine ⟨fun (c24 : 40 ≤ (((Int.toNat (G 52 12)) : Nat) : Int)) => ?_, fun (c24 : (((Int.toNat (G 52 12)) : Nat) : Int) < 40) => ?_⟩
          · skip
            exact h
          · skip
            exfalso; first | omega | (rw [w32_i (by omega) (by omega)] at c24; omega) | (simp (disch := omega) only [w32_i] at *; omega)
def r_X8_isOutdone (c : Nat) (G : mG) (b : Int) (y : Int) (x : Int) : Int × mG := (if (w32 (mLushr (w64 ((f_X8_keyOf c G b x) * (-7046029254386353131))) 55)) < 0 then (0, G) else (if ((512 : Nat) : Int) ≤ (w32 (mLushr (w64 ((f_X8_keyOf c G b x) * (-7046029254386353131))) 55)) then (0, G) else (if (w32 (mLushr (w64 ((f_X8_keyOf c G b x) * (-7046029254386353131))) 55)) < ((512 : Nat) : Int) then (if ¬ (mLcmp (G 38 (Int.toNat (w32 (mLushr (w64 ((f_X8_keyOf c G b x) * (-7046029254386353131))) 55)))) (f_X8_keyOf c G b x)) = 0 then (0, (gs (gs G 38 (Int.toNat (w32 (mLushr (w64 ((f_X8_keyOf c G b x) * (-7046029254386353131))) 55))) (f_X8_keyOf c G b x)) 39 (Int.toNat (w32 (mLushr (w64 ((f_X8_keyOf c G b x) * (-7046029254386353131))) 55))) y)) else (if (G 39 (Int.toNat (w32 (mLushr (w64 ((f_X8_keyOf c G b x) * (-7046029254386353131))) 55)))) < y then (0, (gs (gs G 38 (Int.toNat (w32 (mLushr (w64 ((f_X8_keyOf c G b x) * (-7046029254386353131))) 55))) (f_X8_keyOf c G b x)) 39 (Int.toNat (w32 (mLushr (w64 ((f_X8_keyOf c G b x) * (-7046029254386353131))) 55))) y)) else (1, G))) else (0, G))))
theorem fr_X8_isOutdone {c : Nat} {G : mG} {b : Int} {y : Int} {x : Int} {k : Nat} (hk : ∀ a ∈ ([38, 39] : List Nat), k ≠ a) : (r_X8_isOutdone c G b y x).2 k = G k := by
  unfold r_X8_isOutdone
  repeat' with_reducible first | apply ite_f | apply ite_f2 | apply ite_p | apply ite_p2
  all_goals first | (simp only [gs_ne (hk (38) (by simp)), gs_ne (hk (39) (by simp))]; done) | rfl
theorem sp_X8_isOutdone {D : Nat → Bool} {d : Nat} {c : Nat} {G : mG} {b : Int} {y : Int} {x : Int} {Q : Option mV → mG → Prop} (hc : c = 40 ∨ c = 52) (hp : G 29 3 = ((c + 5 : Nat) : Int)) (h12 : G c 12 ≤ 40) (hD : ∀ k, D k = false → inN [38, 39] k = false) (h : Q (some (mI (r_X8_isOutdone c G b y x).1)) (r_X8_isOutdone c G b y x).2) : P2 D (d + 4) M_X8_isOutdone [mR 34, mI b, mI y, mI x] G Q := by
  rcases hc with rfl | rfl
  · skip
    unfold r_X8_isOutdone at h
    try simp only [Nat.reduceAdd, Nat.reduceSub] at h
    have hp : G 29 3 = 45 := hp
    refine MP.to (D2 := inN [38, 39]) (Q2 := Q) ?_ hD (fun v G' q _ => q)
    refine (show P2 (inN [38, 39]) (d + 4) M_X8_isOutdone [mR 34, mI b, mI y, mI x] G Q from ?_)
    refine p2_vc [8, 20, 82, 90] 400 oo_X8 q_X8_isOutdone (by decide) rfl (Nat.le_of_ble_eq_true rfl) ?_
    refine sp_X8_keyOf (by decide) (hp) (h12) ?_
    refine (show W2 o_X8 M_X8_isOutdone (inN [38, 39]) (d + 4) Q 8 [some (mR 34), some (mI b), some (mI y), some (mI x), some (mJ (f_X8_keyOf 40 G b x)), none, none] [] G from ?_)
    generalize (f_X8_keyOf 40 G b x) = K1 at h ⊢
    refine (show W2 o_X8 M_X8_isOutdone (inN [38, 39]) (d + 4) Q 8 [some (mR 34), some (mI b), some (mI y), some (mI x), some (mJ K1), none, none] [] G from ?_)
    refine w2_vc [8, 20, 82, 90] 400 oo_X8 q_X8_isOutdone ?_
    refine (show W2 o_X8 M_X8_isOutdone (inN [38, 39]) (d + 4) Q 20 [some (mR 34), some (mI b), some (mI y), some (mI x), some (mJ K1), none, some (mI (w32 (mLushr (w64 (K1 * (-7046029254386353131))) 55)))] [] G from ?_)
    generalize (w32 (mLushr (w64 (K1 * (-7046029254386353131))) 55)) = R1 at h ⊢
    refine (show W2 o_X8 M_X8_isOutdone (inN [38, 39]) (d + 4) Q 20 [some (mR 34), some (mI b), some (mI y), some (mI x), some (mJ K1), none, some (mI R1)] [] G from ?_)
    refine w2_vc [8, 20, 82, 90] 400 oo_X8 q_X8_isOutdone ?_
    refine ⟨fun (c2 : R1 < 0) => ?_, fun (c2 : 0 ≤ R1) => ?_⟩
    · rw [if_pos c2] at h
      exact ⟨by omega, h⟩
    · rw [if_neg (Int.not_lt.mpr c2)] at h
      refine ⟨fun (c3 : ((512 : Nat) : Int) ≤ R1) => ?_, fun (c3 : R1 < ((512 : Nat) : Int)) => ?_⟩
      · rw [if_pos c3] at h
        exact ⟨by omega, h⟩
      · rw [if_neg (Int.not_le.mpr c3)] at h
        refine ⟨fun (c4 : R1 < ((512 : Nat) : Int)) => ?_, fun (c4 : ((512 : Nat) : Int) ≤ R1) => ?_⟩
        · rw [if_pos c4] at h
          refine ⟨(show 0 ≤ R1 ∧ R1 < ((512 : Nat) : Int) from by first | omega | (simp (disch := omega) only [w32_i]; omega)), ?_⟩
          refine ⟨fun (c5 : ¬ (mLcmp (G 38 (Int.toNat R1)) K1) = 0) => ?_, fun (c5 : (mLcmp (G 38 (Int.toNat R1)) K1) = 0) => ?_⟩
          · rw [if_pos c5] at h
            refine ⟨(show 0 ≤ R1 ∧ R1 < ((512 : Nat) : Int) from by first | omega | (simp (disch := omega) only [w32_i]; omega)), ?_⟩
            refine (show W2 o_X8 M_X8_isOutdone (inN [38, 39]) (d + 4) Q 82 [some (mR 34), some (mI b), some (mI y), some (mI x), some (mJ K1), none, some (mI R1)] [] (gs G 38 (Int.toNat R1) K1) from ?_)
            refine w2_vc [8, 20, 82, 90] 400 oo_X8 q_X8_isOutdone ?_
            refine ⟨(show 0 ≤ R1 ∧ R1 < ((512 : Nat) : Int) from by first | omega | (simp (disch := omega) only [w32_i]; omega)), ?_⟩
            refine (show W2 o_X8 M_X8_isOutdone (inN [38, 39]) (d + 4) Q 90 [some (mR 34), some (mI b), some (mI y), some (mI x), some (mJ K1), none, some (mI R1)] [] (gs (gs G 38 (Int.toNat R1) K1) 39 (Int.toNat R1) y) from ?_)
            refine w2_vc [8, 20, 82, 90] 400 oo_X8 q_X8_isOutdone ?_
            exact ⟨by omega, h⟩
          · rw [if_neg (fun q => q c5)] at h
            refine ⟨(show 0 ≤ R1 ∧ R1 < ((512 : Nat) : Int) from by first | omega | (simp (disch := omega) only [w32_i]; omega)), ?_⟩
            refine ⟨fun (c6 : (G 39 (Int.toNat R1)) < y) => ?_, fun (c6 : y ≤ (G 39 (Int.toNat R1))) => ?_⟩
            · rw [if_pos c6] at h
              refine ⟨(show 0 ≤ R1 ∧ R1 < ((512 : Nat) : Int) from by first | omega | (simp (disch := omega) only [w32_i]; omega)), ?_⟩
              refine (show W2 o_X8 M_X8_isOutdone (inN [38, 39]) (d + 4) Q 82 [some (mR 34), some (mI b), some (mI y), some (mI x), some (mJ K1), none, some (mI R1)] [] (gs G 38 (Int.toNat R1) K1) from ?_)
              refine w2_vc [8, 20, 82, 90] 400 oo_X8 q_X8_isOutdone ?_
              refine ⟨(show 0 ≤ R1 ∧ R1 < ((512 : Nat) : Int) from by first | omega | (simp (disch := omega) only [w32_i]; omega)), ?_⟩
              refine (show W2 o_X8 M_X8_isOutdone (inN [38, 39]) (d + 4) Q 90 [some (mR 34), some (mI b), some (mI y), some (mI x), some (mJ K1), none, some (mI R1)] [] (gs (gs G 38 (Int.toNat R1) K1) 39 (Int.toNat R1) y) from ?_)
              refine w2_vc [8, 20, 82, 90] 400 oo_X8 q_X8_isOutdone ?_
              exact ⟨by omega, h⟩
            · rw [if_neg (Int.not_lt.mpr c6)] at h
              exact ⟨by omega, h⟩
        · rw [if_neg (Int.not_lt.mpr c4)] at h
          exact ⟨by omega, h⟩
  · skip
    unfold r_X8_isOutdone at h
    try simp only [Nat.reduceAdd, Nat.reduceSub] at h
    have hp : G 29 3 = 57 := hp
    refine MP.to (D2 := inN [38, 39]) (Q2 := Q) ?_ hD (fun v G' q _ => q)
    refine (show P2 (inN [38, 39]) (d + 4) M_X8_isOutdone [mR 34, mI b, mI y, mI x] G Q from ?_)
    refine p2_vc [8, 20, 82, 90] 400 oo_X8 q_X8_isOutdone (by decide) rfl (Nat.le_of_ble_eq_true rfl) ?_
    refine sp_X8_keyOf (by decide) (hp) (h12) ?_
    refine (show W2 o_X8 M_X8_isOutdone (inN [38, 39]) (d + 4) Q 8 [some (mR 34), some (mI b), some (mI y), some (mI x), some (mJ (f_X8_keyOf 52 G b x)), none, none] [] G from ?_)
    generalize (f_X8_keyOf 52 G b x) = K1 at h ⊢
    refine (show W2 o_X8 M_X8_isOutdone (inN [38, 39]) (d + 4) Q 8 [some (mR 34), some (mI b), some (mI y), some (mI x), some (mJ K1), none, none] [] G from ?_)
    refine w2_vc [8, 20, 82, 90] 400 oo_X8 q_X8_isOutdone ?_
    refine (show W2 o_X8 M_X8_isOutdone (inN [38, 39]) (d + 4) Q 20 [some (mR 34), some (mI b), some (mI y), some (mI x), some (mJ K1), none, some (mI (w32 (mLushr (w64 (K1 * (-7046029254386353131))) 55)))] [] G from ?_)
    generalize (w32 (mLushr (w64 (K1 * (-7046029254386353131))) 55)) = R1 at h ⊢
    refine (show W2 o_X8 M_X8_isOutdone (inN [38, 39]) (d + 4) Q 20 [some (mR 34), some (mI b), some (mI y), some (mI x), some (mJ K1), none, some (mI R1)] [] G from ?_)
    refine w2_vc [8, 20, 82, 90] 400 oo_X8 q_X8_isOutdone ?_
    refine ⟨fun (c2 : R1 < 0) => ?_, fun (c2 : 0 ≤ R1) => ?_⟩
    · rw [if_pos c2] at h
      exact ⟨by omega, h⟩
    · rw [if_neg (Int.not_lt.mpr c2)] at h
      refine ⟨fun (c3 : ((512 : Nat) : Int) ≤ R1) => ?_, fun (c3 : R1 < ((512 : Nat) : Int)) => ?_⟩
      · rw [if_pos c3] at h
        exact ⟨by omega, h⟩
      · rw [if_neg (Int.not_le.mpr c3)] at h
        refine ⟨fun (c4 : R1 < ((512 : Nat) : Int)) => ?_, fun (c4 : ((512 : Nat) : Int) ≤ R1) => ?_⟩
        · rw [if_pos c4] at h
          refine ⟨(show 0 ≤ R1 ∧ R1 < ((512 : Nat) : Int) from by first | omega | (simp (disch := omega) only [w32_i]; omega)), ?_⟩
          refine ⟨fun (c5 : ¬ (mLcmp (G 38 (Int.toNat R1)) K1) = 0) => ?_, fun (c5 : (mLcmp (G 38 (Int.toNat R1)) K1) = 0) => ?_⟩
          · rw [if_pos c5] at h
            refine ⟨(show 0 ≤ R1 ∧ R1 < ((512 : Nat) : Int) from by first | omega | (simp (disch := omega) only [w32_i]; omega)), ?_⟩
            refine (show W2 o_X8 M_X8_isOutdone (inN [38, 39]) (d + 4) Q 82 [some (mR 34), some (mI b), some (mI y), some (mI x), some (mJ K1), none, some (mI R1)] [] (gs G 38 (Int.toNat R1) K1) from ?_)
            refine w2_vc [8, 20, 82, 90] 400 oo_X8 q_X8_isOutdone ?_
            refine ⟨(show 0 ≤ R1 ∧ R1 < ((512 : Nat) : Int) from by first | omega | (simp (disch := omega) only [w32_i]; omega)), ?_⟩
            refine (show W2 o_X8 M_X8_isOutdone (inN [38, 39]) (d + 4) Q 90 [some (mR 34), some (mI b), some (mI y), some (mI x), some (mJ K1), none, some (mI R1)] [] (gs (gs G 38 (Int.toNat R1) K1) 39 (Int.toNat R1) y) from ?_)
            refine w2_vc [8, 20, 82, 90] 400 oo_X8 q_X8_isOutdone ?_
            exact ⟨by omega, h⟩
          · rw [if_neg (fun q => q c5)] at h
            refine ⟨(show 0 ≤ R1 ∧ R1 < ((512 : Nat) : Int) from by first | omega | (simp (disch := omega) only [w32_i]; omega)), ?_⟩
            refine ⟨fun (c6 : (G 39 (Int.toNat R1)) < y) => ?_, fun (c6 : y ≤ (G 39 (Int.toNat R1))) => ?_⟩
            · rw [if_pos c6] at h
              refine ⟨(show 0 ≤ R1 ∧ R1 < ((512 : Nat) : Int) from by first | omega | (simp (disch := omega) only [w32_i]; omega)), ?_⟩
              refine (show W2 o_X8 M_X8_isOutdone (inN [38, 39]) (d + 4) Q 82 [some (mR 34), some (mI b), some (mI y), some (mI x), some (mJ K1), none, some (mI R1)] [] (gs G 38 (Int.toNat R1) K1) from ?_)
              refine w2_vc [8, 20, 82, 90] 400 oo_X8 q_X8_isOutdone ?_
              refine ⟨(show 0 ≤ R1 ∧ R1 < ((512 : Nat) : Int) from by first | omega | (simp (disch := omega) only [w32_i]; omega)), ?_⟩
              refine (show W2 o_X8 M_X8_isOutdone (inN [38, 39]) (d + 4) Q 90 [some (mR 34), some (mI b), some (mI y), some (mI x), some (mJ K1), none, some (mI R1)] [] (gs (gs G 38 (Int.toNat R1) K1) 39 (Int.toNat R1) y) from ?_)
              refine w2_vc [8, 20, 82, 90] 400 oo_X8 q_X8_isOutdone ?_
              exact ⟨by omega, h⟩
            · rw [if_neg (Int.not_lt.mpr c6)] at h
              exact ⟨by omega, h⟩
        · rw [if_neg (Int.not_lt.mpr c4)] at h
          exact ⟨by omega, h⟩
