/-! ===== printed by wip/whole/gen24.py: the judge, strings, tokens ===== -/
/-- the codes of all clauses lie within the code -/
def cB (c : Nat) (G : mG) : Prop := ∀ x, 0 ≤ f_X1_codeStartOf c G x ∧ f_X1_codeStartOf c G x ≤ 600 ∧ f_X1_codeEndOf c G x ≤ 600
theorem cB_to {c : Nat} {G s : mG} (h : cB c G) (h0 : s c = G c) (h9 : s (c + 9) = G (c + 9)) (h10 : s (c + 10) = G (c + 10)) : cB c s := by
  intro x
  have := h x
  unfold f_X1_codeStartOf f_X1_codeEndOf f_X1_hasClause at *
  rw [h0, h9, h10]
  exact this
def g_X5_holds_16 (c : Nat) (G : mG) (x : Int) : Nat → (Int × mG) → (Int × mG) := fun j1 s1 => (if ¬ (f_X6_rankOf s1.2 (f_X1_codeKindAt c s1.2 ((f_X1_codeStartOf c G x ) + ((j1 : Nat) : Int)))) = 0 then (if s1.1 < 2 then (s1.1, s1.2) else (if ((35 : Nat) : Int) < s1.1 then (s1.1, s1.2) else ((w32 (s1.1 + (-1))), (gs s1.2 25 (Int.toNat (w32 (s1.1 - 2))) (f_X5_combine s1.2 (f_X1_codeKindAt c s1.2 ((f_X1_codeStartOf c G x ) + ((j1 : Nat) : Int))) (s1.2 25 (Int.toNat (w32 (s1.1 - 2)))) (s1.2 25 (Int.toNat (w32 (s1.1 - 1))))))))) else (if s1.1 < 0 then (s1.1, s1.2) else (if ((35 : Nat) : Int) ≤ s1.1 then (s1.1, s1.2) else ((w32 (s1.1 + 1)), (gs s1.2 25 (Int.toNat s1.1) (f_X5_valueOf s1.2 (f_X1_codeKindAt c s1.2 ((f_X1_codeStartOf c G x ) + ((j1 : Nat) : Int))) (f_X1_codeNumberAt c s1.2 ((f_X1_codeStartOf c G x ) + ((j1 : Nat) : Int)))))))))
def r_X5_holds (c : Nat) (G : mG) (x : Int) : Int × mG := (if (fd (g_X5_holds_16 c G x) (0, G) (Int.toNat ((f_X1_codeEndOf c G x) - (f_X1_codeStartOf c G x)))).1 ≤ 0 then (0, (fd (g_X5_holds_16 c G x) (0, G) (Int.toNat ((f_X1_codeEndOf c G x) - (f_X1_codeStartOf c G x)))).2) else (if ((fd (g_X5_holds_16 c G x) (0, G) (Int.toNat ((f_X1_codeEndOf c G x) - (f_X1_codeStartOf c G x)))).2 25 (Int.toNat 0)) = 0 then (0, (fd (g_X5_holds_16 c G x) (0, G) (Int.toNat ((f_X1_codeEndOf c G x) - (f_X1_codeStartOf c G x)))).2) else (1, (fd (g_X5_holds_16 c G x) (0, G) (Int.toNat ((f_X1_codeEndOf c G x) - (f_X1_codeStartOf c G x)))).2)))
theorem fr_g_X5_holds_16 (c : Nat) (G : mG) (x : Int) {k : Nat} (hk : ∀ a ∈ ([25] : List Nat), k ≠ a) (j : Nat) (s : Int × mG) : (g_X5_holds_16 c G x j s).2 k = s.2 k := by
  unfold g_X5_holds_16
  repeat' with_reducible first | apply ite_f | apply ite_f2 | apply ite_p | apply ite_p2
  all_goals first | (simp only [gs_ne (hk (25) (by simp))]; done) | rfl
theorem fr_X5_holds {c : Nat} {G : mG} {x : Int} {k : Nat} (hk : ∀ a ∈ ([25] : List Nat), k ≠ a) : (r_X5_holds c G x).2 k = G k := by
  unfold r_X5_holds
  repeat' with_reducible first | apply ite_f | apply ite_f2 | apply ite_p | apply ite_p2
  all_goals first | (simp only [gs_ne (hk (25) (by simp)), fd_fr2 (fr_g_X5_holds_16 _ _ _ hk)]; done) | rfl
set_option maxHeartbeats 8000000 in
theorem sp_X5_holds {D : Nat → Bool} {d : Nat} {c : Nat} {G : mG} {x : Int} {Q : Option mV → mG → Prop} (hc : c = 40 ∨ c = 52) (ha : cB c G) (hD : ∀ k, D k = false → inN [25] k = false) (h : Q (some (mI (r_X5_holds c G x).1)) (r_X5_holds c G x).2) : P2 D (d + 3) M_X5_holds [mR 29, mR (c + 5), mI x] G Q := by
  rcases hc with rfl | rfl
  · skip
    unfold r_X5_holds at h
    try simp only [Nat.reduceAdd, Nat.reduceSub] at h
    have ha0 := ha x
    refine MP.to (D2 := inN [25]) (Q2 := Q) ?_ hD (fun v G' q _ => q)
    refine (show P2 (inN [25]) (d + 3) M_X5_holds [mR 29, mR 45, mI x] G Q from ?_)
    refine p2_vc [16, 70, 115, 118, 119] 400 oo_X5 q_X5_holds (by decide) rfl (Nat.le_of_ble_eq_true rfl) ?_
    refine sp_X1_codeEndOf (by decide) ?_
    refine sp_X1_codeStartOf (by decide) ?_
    refine (show W2 o_X5 M_X5_holds (inN [25]) (d + 3) Q 16 [some (mR 29), some (mR 45), some (mI x), some (mI 0), some (mI (f_X1_codeEndOf 40 G x)), some (mI (f_X1_codeStartOf 40 G x)), none] [] G from ?_)
    rw [← Int.add_zero (f_X1_codeStartOf 40 G x )]
    refine (show W2 o_X5 M_X5_holds (inN [25]) (d + 3) Q 16 [some (mR 29), some (mR 45), some (mI x), some (mI 0), some (mI (f_X1_codeEndOf 40 G x)), some (mI ((f_X1_codeStartOf 40 G x ) + ((0 : Nat) : Int))), none] [] G from ?_)
    refine lup (g_X5_holds_16 40 G x) (0, G) (fun j1 s1 => W2 o_X5 M_X5_holds (inN [25]) (d + 3) Q 16 [some (mR 29), some (mR 45), some (mI x), some (mI s1.1), some (mI (f_X1_codeEndOf 40 G x)), some (mI ((f_X1_codeStartOf 40 G x ) + ((j1 : Nat) : Int))), none] [] s1.2) (Int.toNat ((f_X1_codeEndOf 40 G x) - (f_X1_codeStartOf 40 G x))) (fun j1 s1 hj1 ih1 => ?_) ?_
    · have ih1 : W2 o_X5 M_X5_holds (inN [25]) (d + 3) Q 16 [some (mR 29), some (mR 45), some (mI x), some (mI (g_X5_holds_16 40 G x j1 s1).1), some (mI (f_X1_codeEndOf 40 G x)), some (mI ((f_X1_codeStartOf 40 G x ) + ((j1 + 1 : Nat) : Int))), none] [] (g_X5_holds_16 40 G x j1 s1).2 := ih1
      unfold g_X5_holds_16 at ih1
      try simp only [Nat.reduceAdd, Nat.reduceSub] at ih1
      refine w2_vc [16, 70, 115, 118, 119] 400 oo_X5 q_X5_holds ?_
      refine ⟨fun (c3 : (f_X1_codeEndOf 40 G x) ≤ ((f_X1_codeStartOf 40 G x ) + ((j1 : Nat) : Int))) => ?_, fun (c3 : ((f_X1_codeStartOf 40 G x ) + ((j1 : Nat) : Int)) < (f_X1_codeEndOf 40 G x)) => ?_⟩
      · skip
        exfalso; first | omega | (rw [w32_i (by omega) (by omega)] at c3; omega) | (simp (disch := omega) only [w32_i] at *; omega)
      · skip
        refine sp_X1_codeKindAt (by decide) ?_
        refine sp_X6_rankOf  ?_
        refine ⟨fun (c6 : ¬ (f_X6_rankOf s1.2 (f_X1_codeKindAt 40 s1.2 ((f_X1_codeStartOf 40 G x ) + ((j1 : Nat) : Int)))) = 0) => ?_, fun (c6 : (f_X6_rankOf s1.2 (f_X1_codeKindAt 40 s1.2 ((f_X1_codeStartOf 40 G x ) + ((j1 : Nat) : Int)))) = 0) => ?_⟩
        · rw [if_pos c6] at ih1
          refine ⟨fun (c7 : s1.1 < 2) => ?_, fun (c7 : 2 ≤ s1.1) => ?_⟩
          · rw [if_pos c7] at ih1
            refine (show W2 o_X5 M_X5_holds (inN [25]) (d + 3) Q 16 [some (mR 29), some (mR 45), some (mI x), some (mI s1.1), some (mI (f_X1_codeEndOf 40 G x)), some (mI (w32 (((f_X1_codeStartOf 40 G x ) + ((j1 : Nat) : Int)) + 1))), some (mI (f_X1_codeKindAt 40 s1.2 ((f_X1_codeStartOf 40 G x ) + ((j1 : Nat) : Int))))] [] s1.2 from ?_)
            refine WP.fg (L' := [some (mR 29), some (mR 45), some (mI x), some (mI s1.1), some (mI (f_X1_codeEndOf 40 G x)), some (mI (w32 (((f_X1_codeStartOf 40 G x ) + ((j1 : Nat) : Int)) + 1))), none]) ⟨rfl, rfl, rfl, rfl, rfl, rfl, trivial⟩ ?_
            rw [w32_up (by omega) (by omega)]
            exact ih1
          · rw [if_neg (Int.not_lt.mpr c7)] at ih1
            refine ⟨fun (c8 : ((35 : Nat) : Int) < s1.1) => ?_, fun (c8 : s1.1 ≤ ((35 : Nat) : Int)) => ?_⟩
            · rw [if_pos c8] at ih1
              refine (show W2 o_X5 M_X5_holds (inN [25]) (d + 3) Q 16 [some (mR 29), some (mR 45), some (mI x), some (mI s1.1), some (mI (f_X1_codeEndOf 40 G x)), some (mI (w32 (((f_X1_codeStartOf 40 G x ) + ((j1 : Nat) : Int)) + 1))), some (mI (f_X1_codeKindAt 40 s1.2 ((f_X1_codeStartOf 40 G x ) + ((j1 : Nat) : Int))))] [] s1.2 from ?_)
              refine WP.fg (L' := [some (mR 29), some (mR 45), some (mI x), some (mI s1.1), some (mI (f_X1_codeEndOf 40 G x)), some (mI (w32 (((f_X1_codeStartOf 40 G x ) + ((j1 : Nat) : Int)) + 1))), none]) ⟨rfl, rfl, rfl, rfl, rfl, rfl, trivial⟩ ?_
              rw [w32_up (by omega) (by omega)]
              exact ih1
            · rw [if_neg (Int.not_lt.mpr c8)] at ih1
              refine ⟨(show 0 ≤ (w32 (s1.1 - 2)) ∧ (w32 (s1.1 - 2)) < ((35 : Nat) : Int) from by first | omega | (simp (disch := omega) only [w32_i]; omega)), ?_⟩
              refine ⟨(show 0 ≤ (w32 (s1.1 - 1)) ∧ (w32 (s1.1 - 1)) < ((35 : Nat) : Int) from by first | omega | (simp (disch := omega) only [w32_i]; omega)), ?_⟩
              refine (show W2 o_X5 M_X5_holds (inN [25]) (d + 3) Q 115 [some (mR 29), some (mR 45), some (mI x), some (mI s1.1), some (mI (f_X1_codeEndOf 40 G x)), some (mI ((f_X1_codeStartOf 40 G x ) + ((j1 : Nat) : Int))), some (mI (f_X1_codeKindAt 40 s1.2 ((f_X1_codeStartOf 40 G x ) + ((j1 : Nat) : Int))))] [mI (s1.2 25 (Int.toNat (w32 (s1.1 - 1)))), mI (s1.2 25 (Int.toNat (w32 (s1.1 - 2)))), mI (f_X1_codeKindAt 40 s1.2 ((f_X1_codeStartOf 40 G x ) + ((j1 : Nat) : Int))), mI (w32 (s1.1 - 2)), mR 30] s1.2 from ?_)
              refine w2_vc [16, 70, 115, 118, 119] 400 oo_X5 q_X5_holds ?_
              refine sp_X5_combine  ?_
              refine (show W2 o_X5 M_X5_holds (inN [25]) (d + 3) Q 118 [some (mR 29), some (mR 45), some (mI x), some (mI s1.1), some (mI (f_X1_codeEndOf 40 G x)), some (mI ((f_X1_codeStartOf 40 G x ) + ((j1 : Nat) : Int))), some (mI (f_X1_codeKindAt 40 s1.2 ((f_X1_codeStartOf 40 G x ) + ((j1 : Nat) : Int))))] [mI (f_X5_combine s1.2 (f_X1_codeKindAt 40 s1.2 ((f_X1_codeStartOf 40 G x ) + ((j1 : Nat) : Int))) (s1.2 25 (Int.toNat (w32 (s1.1 - 2)))) (s1.2 25 (Int.toNat (w32 (s1.1 - 1))))), mI (w32 (s1.1 - 2)), mR 30] s1.2 from ?_)
              refine w2_vc [16, 70, 115, 118, 119] 400 oo_X5 q_X5_holds ?_
              refine ⟨(show 0 ≤ (w32 (s1.1 - 2)) ∧ (w32 (s1.1 - 2)) < ((35 : Nat) : Int) from by first | omega | (simp (disch := omega) only [w32_i]; omega)), ?_⟩
              refine (show W2 o_X5 M_X5_holds (inN [25]) (d + 3) Q 119 [some (mR 29), some (mR 45), some (mI x), some (mI s1.1), some (mI (f_X1_codeEndOf 40 G x)), some (mI ((f_X1_codeStartOf 40 G x ) + ((j1 : Nat) : Int))), some (mI (f_X1_codeKindAt 40 s1.2 ((f_X1_codeStartOf 40 G x ) + ((j1 : Nat) : Int))))] [] (gs s1.2 25 (Int.toNat (w32 (s1.1 - 2))) (f_X5_combine s1.2 (f_X1_codeKindAt 40 s1.2 ((f_X1_codeStartOf 40 G x ) + ((j1 : Nat) : Int))) (s1.2 25 (Int.toNat (w32 (s1.1 - 2)))) (s1.2 25 (Int.toNat (w32 (s1.1 - 1)))))) from ?_)
              refine w2_vc [16, 70, 115, 118, 119] 400 oo_X5 q_X5_holds ?_
              refine (show W2 o_X5 M_X5_holds (inN [25]) (d + 3) Q 16 [some (mR 29), some (mR 45), some (mI x), some (mI (w32 (s1.1 + (-1)))), some (mI (f_X1_codeEndOf 40 G x)), some (mI (w32 (((f_X1_codeStartOf 40 G x ) + ((j1 : Nat) : Int)) + 1))), some (mI (f_X1_codeKindAt 40 s1.2 ((f_X1_codeStartOf 40 G x ) + ((j1 : Nat) : Int))))] [] (gs s1.2 25 (Int.toNat (w32 (s1.1 - 2))) (f_X5_combine s1.2 (f_X1_codeKindAt 40 s1.2 ((f_X1_codeStartOf 40 G x ) + ((j1 : Nat) : Int))) (s1.2 25 (Int.toNat (w32 (s1.1 - 2)))) (s1.2 25 (Int.toNat (w32 (s1.1 - 1)))))) from ?_)
              refine WP.fg (L' := [some (mR 29), some (mR 45), some (mI x), some (mI (w32 (s1.1 + (-1)))), some (mI (f_X1_codeEndOf 40 G x)), some (mI (w32 (((f_X1_codeStartOf 40 G x ) + ((j1 : Nat) : Int)) + 1))), none]) ⟨rfl, rfl, rfl, rfl, rfl, rfl, trivial⟩ ?_
              rw [w32_up (by omega) (by omega)]
              exact ih1
        · rw [if_neg (fun q => q c6)] at ih1
          refine ⟨fun (c10 : s1.1 < 0) => ?_, fun (c10 : 0 ≤ s1.1) => ?_⟩
          · rw [if_pos c10] at ih1
            refine (show W2 o_X5 M_X5_holds (inN [25]) (d + 3) Q 16 [some (mR 29), some (mR 45), some (mI x), some (mI s1.1), some (mI (f_X1_codeEndOf 40 G x)), some (mI (w32 (((f_X1_codeStartOf 40 G x ) + ((j1 : Nat) : Int)) + 1))), some (mI (f_X1_codeKindAt 40 s1.2 ((f_X1_codeStartOf 40 G x ) + ((j1 : Nat) : Int))))] [] s1.2 from ?_)
            refine WP.fg (L' := [some (mR 29), some (mR 45), some (mI x), some (mI s1.1), some (mI (f_X1_codeEndOf 40 G x)), some (mI (w32 (((f_X1_codeStartOf 40 G x ) + ((j1 : Nat) : Int)) + 1))), none]) ⟨rfl, rfl, rfl, rfl, rfl, rfl, trivial⟩ ?_
            rw [w32_up (by omega) (by omega)]
            exact ih1
          · rw [if_neg (Int.not_lt.mpr c10)] at ih1
            refine ⟨fun (c11 : ((35 : Nat) : Int) ≤ s1.1) => ?_, fun (c11 : s1.1 < ((35 : Nat) : Int)) => ?_⟩
            · rw [if_pos c11] at ih1
              refine (show W2 o_X5 M_X5_holds (inN [25]) (d + 3) Q 16 [some (mR 29), some (mR 45), some (mI x), some (mI s1.1), some (mI (f_X1_codeEndOf 40 G x)), some (mI (w32 (((f_X1_codeStartOf 40 G x ) + ((j1 : Nat) : Int)) + 1))), some (mI (f_X1_codeKindAt 40 s1.2 ((f_X1_codeStartOf 40 G x ) + ((j1 : Nat) : Int))))] [] s1.2 from ?_)
              refine WP.fg (L' := [some (mR 29), some (mR 45), some (mI x), some (mI s1.1), some (mI (f_X1_codeEndOf 40 G x)), some (mI (w32 (((f_X1_codeStartOf 40 G x ) + ((j1 : Nat) : Int)) + 1))), none]) ⟨rfl, rfl, rfl, rfl, rfl, rfl, trivial⟩ ?_
              rw [w32_up (by omega) (by omega)]
              exact ih1
            · rw [if_neg (Int.not_le.mpr c11)] at ih1
              refine sp_X1_codeNumberAt (by decide) ?_
              refine sp_X5_valueOf  ?_
              refine ⟨(show 0 ≤ s1.1 ∧ s1.1 < ((35 : Nat) : Int) from by first | omega | (simp (disch := omega) only [w32_i]; omega)), ?_⟩
              refine (show W2 o_X5 M_X5_holds (inN [25]) (d + 3) Q 70 [some (mR 29), some (mR 45), some (mI x), some (mI s1.1), some (mI (f_X1_codeEndOf 40 G x)), some (mI ((f_X1_codeStartOf 40 G x ) + ((j1 : Nat) : Int))), some (mI (f_X1_codeKindAt 40 s1.2 ((f_X1_codeStartOf 40 G x ) + ((j1 : Nat) : Int))))] [] (gs s1.2 25 (Int.toNat s1.1) (f_X5_valueOf s1.2 (f_X1_codeKindAt 40 s1.2 ((f_X1_codeStartOf 40 G x ) + ((j1 : Nat) : Int))) (f_X1_codeNumberAt 40 s1.2 ((f_X1_codeStartOf 40 G x ) + ((j1 : Nat) : Int))))) from ?_)
              refine w2_vc [16, 70, 115, 118, 119] 400 oo_X5 q_X5_holds ?_
              refine (show W2 o_X5 M_X5_holds (inN [25]) (d + 3) Q 16 [some (mR 29), some (mR 45), some (mI x), some (mI (w32 (s1.1 + 1))), some (mI (f_X1_codeEndOf 40 G x)), some (mI (w32 (((f_X1_codeStartOf 40 G x ) + ((j1 : Nat) : Int)) + 1))), some (mI (f_X1_codeKindAt 40 s1.2 ((f_X1_codeStartOf 40 G x ) + ((j1 : Nat) : Int))))] [] (gs s1.2 25 (Int.toNat s1.1) (f_X5_valueOf s1.2 (f_X1_codeKindAt 40 s1.2 ((f_X1_codeStartOf 40 G x ) + ((j1 : Nat) : Int))) (f_X1_codeNumberAt 40 s1.2 ((f_X1_codeStartOf 40 G x ) + ((j1 : Nat) : Int))))) from ?_)
              refine WP.fg (L' := [some (mR 29), some (mR 45), some (mI x), some (mI (w32 (s1.1 + 1))), some (mI (f_X1_codeEndOf 40 G x)), some (mI (w32 (((f_X1_codeStartOf 40 G x ) + ((j1 : Nat) : Int)) + 1))), none]) ⟨rfl, rfl, rfl, rfl, rfl, rfl, trivial⟩ ?_
              rw [w32_up (by omega) (by omega)]
              exact ih1
    · skip
      refine (show W2 o_X5 M_X5_holds (inN [25]) (d + 3) Q 16 [some (mR 29), some (mR 45), some (mI x), some (mI (fd (g_X5_holds_16 40 G x) (0, G) (Int.toNat ((f_X1_codeEndOf 40 G x) - (f_X1_codeStartOf 40 G x)))).1), some (mI (f_X1_codeEndOf 40 G x)), some (mI ((f_X1_codeStartOf 40 G x ) + (((Int.toNat ((f_X1_codeEndOf 40 G x) - (f_X1_codeStartOf 40 G x))) : Nat) : Int))), none] [] (fd (g_X5_holds_16 40 G x) (0, G) (Int.toNat ((f_X1_codeEndOf 40 G x) - (f_X1_codeStartOf 40 G x)))).2 from ?_)
      refine w2_vc [16, 70, 115, 118, 119] 400 oo_X5 q_X5_holds ?_
      refine ⟨fun (c14 : (f_X1_codeEndOf 40 G x) ≤ ((f_X1_codeStartOf 40 G x ) + (((Int.toNat ((f_X1_codeEndOf 40 G x) - (f_X1_codeStartOf 40 G x))) : Nat) : Int))) => ?_, fun (c14 : ((f_X1_codeStartOf 40 G x ) + (((Int.toNat ((f_X1_codeEndOf 40 G x) - (f_X1_codeStartOf 40 G x))) : Nat) : Int)) < (f_X1_codeEndOf 40 G x)) => ?_⟩
      · skip
        refine ⟨fun (c15 : (fd (g_X5_holds_16 40 G x) (0, G) (Int.toNat ((f_X1_codeEndOf 40 G x) - (f_X1_codeStartOf 40 G x)))).1 ≤ 0) => ?_, fun (c15 : 0 < (fd (g_X5_holds_16 40 G x) (0, G) (Int.toNat ((f_X1_codeEndOf 40 G x) - (f_X1_codeStartOf 40 G x)))).1) => ?_⟩
        · rw [if_pos c15] at h
          exact ⟨by omega, h⟩
        · rw [if_neg (Int.not_le.mpr c15)] at h
          refine ⟨(show 0 ≤ 0 ∧ 0 < ((35 : Nat) : Int) from by first | omega | (simp (disch := omega) only [w32_i]; omega)), ?_⟩
          refine ⟨fun (c16 : ((fd (g_X5_holds_16 40 G x) (0, G) (Int.toNat ((f_X1_codeEndOf 40 G x) - (f_X1_codeStartOf 40 G x)))).2 25 (Int.toNat 0)) = 0) => ?_, fun (c16 : ¬ ((fd (g_X5_holds_16 40 G x) (0, G) (Int.toNat ((f_X1_codeEndOf 40 G x) - (f_X1_codeStartOf 40 G x)))).2 25 (Int.toNat 0)) = 0) => ?_⟩
          · rw [if_pos c16] at h
            exact ⟨by omega, h⟩
          · rw [if_neg (c16)] at h
            exact ⟨by omega, h⟩
      · skip
        exfalso; first | omega | (rw [w32_i (by omega) (by omega)] at c16; omega) | (simp (disch := omega) only [w32_i] at *; omega)
  · skip
    unfold r_X5_holds at h
    try simp only [Nat.reduceAdd, Nat.reduceSub] at h
    have ha0 := ha x
    refine MP.to (D2 := inN [25]) (Q2 := Q) ?_ hD (fun v G' q _ => q)
    refine (show P2 (inN [25]) (d + 3) M_X5_holds [mR 29, mR 57, mI x] G Q from ?_)
    refine p2_vc [16, 70, 115, 118, 119] 400 oo_X5 q_X5_holds (by decide) rfl (Nat.le_of_ble_eq_true rfl) ?_
    refine sp_X1_codeEndOf (by decide) ?_
    refine sp_X1_codeStartOf (by decide) ?_
    refine (show W2 o_X5 M_X5_holds (inN [25]) (d + 3) Q 16 [some (mR 29), some (mR 57), some (mI x), some (mI 0), some (mI (f_X1_codeEndOf 52 G x)), some (mI (f_X1_codeStartOf 52 G x)), none] [] G from ?_)
    rw [← Int.add_zero (f_X1_codeStartOf 52 G x )]
    refine (show W2 o_X5 M_X5_holds (inN [25]) (d + 3) Q 16 [some (mR 29), some (mR 57), some (mI x), some (mI 0), some (mI (f_X1_codeEndOf 52 G x)), some (mI ((f_X1_codeStartOf 52 G x ) + ((0 : Nat) : Int))), none] [] G from ?_)
    refine lup (g_X5_holds_16 52 G x) (0, G) (fun j1 s1 => W2 o_X5 M_X5_holds (inN [25]) (d + 3) Q 16 [some (mR 29), some (mR 57), some (mI x), some (mI s1.1), some (mI (f_X1_codeEndOf 52 G x)), some (mI ((f_X1_codeStartOf 52 G x ) + ((j1 : Nat) : Int))), none] [] s1.2) (Int.toNat ((f_X1_codeEndOf 52 G x) - (f_X1_codeStartOf 52 G x))) (fun j1 s1 hj1 ih1 => ?_) ?_
    · have ih1 : W2 o_X5 M_X5_holds (inN [25]) (d + 3) Q 16 [some (mR 29), some (mR 57), some (mI x), some (mI (g_X5_holds_16 52 G x j1 s1).1), some (mI (f_X1_codeEndOf 52 G x)), some (mI ((f_X1_codeStartOf 52 G x ) + ((j1 + 1 : Nat) : Int))), none] [] (g_X5_holds_16 52 G x j1 s1).2 := ih1
      unfold g_X5_holds_16 at ih1
      try simp only [Nat.reduceAdd, Nat.reduceSub] at ih1
      refine w2_vc [16, 70, 115, 118, 119] 400 oo_X5 q_X5_holds ?_
      refine ⟨fun (c3 : (f_X1_codeEndOf 52 G x) ≤ ((f_X1_codeStartOf 52 G x ) + ((j1 : Nat) : Int))) => ?_, fun (c3 : ((f_X1_codeStartOf 52 G x ) + ((j1 : Nat) : Int)) < (f_X1_codeEndOf 52 G x)) => ?_⟩
      · skip
        exfalso; first | omega | (rw [w32_i (by omega) (by omega)] at c3; omega) | (simp (disch := omega) only [w32_i] at *; omega)
      · skip
        refine sp_X1_codeKindAt (by decide) ?_
        refine sp_X6_rankOf  ?_
        refine ⟨fun (c6 : ¬ (f_X6_rankOf s1.2 (f_X1_codeKindAt 52 s1.2 ((f_X1_codeStartOf 52 G x ) + ((j1 : Nat) : Int)))) = 0) => ?_, fun (c6 : (f_X6_rankOf s1.2 (f_X1_codeKindAt 52 s1.2 ((f_X1_codeStartOf 52 G x ) + ((j1 : Nat) : Int)))) = 0) => ?_⟩
        · rw [if_pos c6] at ih1
          refine ⟨fun (c7 : s1.1 < 2) => ?_, fun (c7 : 2 ≤ s1.1) => ?_⟩
          · rw [if_pos c7] at ih1
            refine (show W2 o_X5 M_X5_holds (inN [25]) (d + 3) Q 16 [some (mR 29), some (mR 57), some (mI x), some (mI s1.1), some (mI (f_X1_codeEndOf 52 G x)), some (mI (w32 (((f_X1_codeStartOf 52 G x ) + ((j1 : Nat) : Int)) + 1))), some (mI (f_X1_codeKindAt 52 s1.2 ((f_X1_codeStartOf 52 G x ) + ((j1 : Nat) : Int))))] [] s1.2 from ?_)
            refine WP.fg (L' := [some (mR 29), some (mR 57), some (mI x), some (mI s1.1), some (mI (f_X1_codeEndOf 52 G x)), some (mI (w32 (((f_X1_codeStartOf 52 G x ) + ((j1 : Nat) : Int)) + 1))), none]) ⟨rfl, rfl, rfl, rfl, rfl, rfl, trivial⟩ ?_
            rw [w32_up (by omega) (by omega)]
            exact ih1
          · rw [if_neg (Int.not_lt.mpr c7)] at ih1
            refine ⟨fun (c8 : ((35 : Nat) : Int) < s1.1) => ?_, fun (c8 : s1.1 ≤ ((35 : Nat) : Int)) => ?_⟩
            · rw [if_pos c8] at ih1
              refine (show W2 o_X5 M_X5_holds (inN [25]) (d + 3) Q 16 [some (mR 29), some (mR 57), some (mI x), some (mI s1.1), some (mI (f_X1_codeEndOf 52 G x)), some (mI (w32 (((f_X1_codeStartOf 52 G x ) + ((j1 : Nat) : Int)) + 1))), some (mI (f_X1_codeKindAt 52 s1.2 ((f_X1_codeStartOf 52 G x ) + ((j1 : Nat) : Int))))] [] s1.2 from ?_)
              refine WP.fg (L' := [some (mR 29), some (mR 57), some (mI x), some (mI s1.1), some (mI (f_X1_codeEndOf 52 G x)), some (mI (w32 (((f_X1_codeStartOf 52 G x ) + ((j1 : Nat) : Int)) + 1))), none]) ⟨rfl, rfl, rfl, rfl, rfl, rfl, trivial⟩ ?_
              rw [w32_up (by omega) (by omega)]
              exact ih1
            · rw [if_neg (Int.not_lt.mpr c8)] at ih1
              refine ⟨(show 0 ≤ (w32 (s1.1 - 2)) ∧ (w32 (s1.1 - 2)) < ((35 : Nat) : Int) from by first | omega | (simp (disch := omega) only [w32_i]; omega)), ?_⟩
              refine ⟨(show 0 ≤ (w32 (s1.1 - 1)) ∧ (w32 (s1.1 - 1)) < ((35 : Nat) : Int) from by first | omega | (simp (disch := omega) only [w32_i]; omega)), ?_⟩
              refine (show W2 o_X5 M_X5_holds (inN [25]) (d + 3) Q 115 [some (mR 29), some (mR 57), some (mI x), some (mI s1.1), some (mI (f_X1_codeEndOf 52 G x)), some (mI ((f_X1_codeStartOf 52 G x ) + ((j1 : Nat) : Int))), some (mI (f_X1_codeKindAt 52 s1.2 ((f_X1_codeStartOf 52 G x ) + ((j1 : Nat) : Int))))] [mI (s1.2 25 (Int.toNat (w32 (s1.1 - 1)))), mI (s1.2 25 (Int.toNat (w32 (s1.1 - 2)))), mI (f_X1_codeKindAt 52 s1.2 ((f_X1_codeStartOf 52 G x ) + ((j1 : Nat) : Int))), mI (w32 (s1.1 - 2)), mR 30] s1.2 from ?_)
              refine w2_vc [16, 70, 115, 118, 119] 400 oo_X5 q_X5_holds ?_
              refine sp_X5_combine  ?_
              refine (show W2 o_X5 M_X5_holds (inN [25]) (d + 3) Q 118 [some (mR 29), some (mR 57), some (mI x), some (mI s1.1), some (mI (f_X1_codeEndOf 52 G x)), some (mI ((f_X1_codeStartOf 52 G x ) + ((j1 : Nat) : Int))), some (mI (f_X1_codeKindAt 52 s1.2 ((f_X1_codeStartOf 52 G x ) + ((j1 : Nat) : Int))))] [mI (f_X5_combine s1.2 (f_X1_codeKindAt 52 s1.2 ((f_X1_codeStartOf 52 G x ) + ((j1 : Nat) : Int))) (s1.2 25 (Int.toNat (w32 (s1.1 - 2)))) (s1.2 25 (Int.toNat (w32 (s1.1 - 1))))), mI (w32 (s1.1 - 2)), mR 30] s1.2 from ?_)
              refine w2_vc [16, 70, 115, 118, 119] 400 oo_X5 q_X5_holds ?_
              refine ⟨(show 0 ≤ (w32 (s1.1 - 2)) ∧ (w32 (s1.1 - 2)) < ((35 : Nat) : Int) from by first | omega | (simp (disch := omega) only [w32_i]; omega)), ?_⟩
              refine (show W2 o_X5 M_X5_holds (inN [25]) (d + 3) Q 119 [some (mR 29), some (mR 57), some (mI x), some (mI s1.1), some (mI (f_X1_codeEndOf 52 G x)), some (mI ((f_X1_codeStartOf 52 G x ) + ((j1 : Nat) : Int))), some (mI (f_X1_codeKindAt 52 s1.2 ((f_X1_codeStartOf 52 G x ) + ((j1 : Nat) : Int))))] [] (gs s1.2 25 (Int.toNat (w32 (s1.1 - 2))) (f_X5_combine s1.2 (f_X1_codeKindAt 52 s1.2 ((f_X1_codeStartOf 52 G x ) + ((j1 : Nat) : Int))) (s1.2 25 (Int.toNat (w32 (s1.1 - 2)))) (s1.2 25 (Int.toNat (w32 (s1.1 - 1)))))) from ?_)
              refine w2_vc [16, 70, 115, 118, 119] 400 oo_X5 q_X5_holds ?_
              refine (show W2 o_X5 M_X5_holds (inN [25]) (d + 3) Q 16 [some (mR 29), some (mR 57), some (mI x), some (mI (w32 (s1.1 + (-1)))), some (mI (f_X1_codeEndOf 52 G x)), some (mI (w32 (((f_X1_codeStartOf 52 G x ) + ((j1 : Nat) : Int)) + 1))), some (mI (f_X1_codeKindAt 52 s1.2 ((f_X1_codeStartOf 52 G x ) + ((j1 : Nat) : Int))))] [] (gs s1.2 25 (Int.toNat (w32 (s1.1 - 2))) (f_X5_combine s1.2 (f_X1_codeKindAt 52 s1.2 ((f_X1_codeStartOf 52 G x ) + ((j1 : Nat) : Int))) (s1.2 25 (Int.toNat (w32 (s1.1 - 2)))) (s1.2 25 (Int.toNat (w32 (s1.1 - 1)))))) from ?_)
              refine WP.fg (L' := [some (mR 29), some (mR 57), some (mI x), some (mI (w32 (s1.1 + (-1)))), some (mI (f_X1_codeEndOf 52 G x)), some (mI (w32 (((f_X1_codeStartOf 52 G x ) + ((j1 : Nat) : Int)) + 1))), none]) ⟨rfl, rfl, rfl, rfl, rfl, rfl, trivial⟩ ?_
              rw [w32_up (by omega) (by omega)]
              exact ih1
        · rw [if_neg (fun q => q c6)] at ih1
          refine ⟨fun (c10 : s1.1 < 0) => ?_, fun (c10 : 0 ≤ s1.1) => ?_⟩
          · rw [if_pos c10] at ih1
            refine (show W2 o_X5 M_X5_holds (inN [25]) (d + 3) Q 16 [some (mR 29), some (mR 57), some (mI x), some (mI s1.1), some (mI (f_X1_codeEndOf 52 G x)), some (mI (w32 (((f_X1_codeStartOf 52 G x ) + ((j1 : Nat) : Int)) + 1))), some (mI (f_X1_codeKindAt 52 s1.2 ((f_X1_codeStartOf 52 G x ) + ((j1 : Nat) : Int))))] [] s1.2 from ?_)
            refine WP.fg (L' := [some (mR 29), some (mR 57), some (mI x), some (mI s1.1), some (mI (f_X1_codeEndOf 52 G x)), some (mI (w32 (((f_X1_codeStartOf 52 G x ) + ((j1 : Nat) : Int)) + 1))), none]) ⟨rfl, rfl, rfl, rfl, rfl, rfl, trivial⟩ ?_
            rw [w32_up (by omega) (by omega)]
            exact ih1
          · rw [if_neg (Int.not_lt.mpr c10)] at ih1
            refine ⟨fun (c11 : ((35 : Nat) : Int) ≤ s1.1) => ?_, fun (c11 : s1.1 < ((35 : Nat) : Int)) => ?_⟩
            · rw [if_pos c11] at ih1
              refine (show W2 o_X5 M_X5_holds (inN [25]) (d + 3) Q 16 [some (mR 29), some (mR 57), some (mI x), some (mI s1.1), some (mI (f_X1_codeEndOf 52 G x)), some (mI (w32 (((f_X1_codeStartOf 52 G x ) + ((j1 : Nat) : Int)) + 1))), some (mI (f_X1_codeKindAt 52 s1.2 ((f_X1_codeStartOf 52 G x ) + ((j1 : Nat) : Int))))] [] s1.2 from ?_)
              refine WP.fg (L' := [some (mR 29), some (mR 57), some (mI x), some (mI s1.1), some (mI (f_X1_codeEndOf 52 G x)), some (mI (w32 (((f_X1_codeStartOf 52 G x ) + ((j1 : Nat) : Int)) + 1))), none]) ⟨rfl, rfl, rfl, rfl, rfl, rfl, trivial⟩ ?_
              rw [w32_up (by omega) (by omega)]
              exact ih1
            · rw [if_neg (Int.not_le.mpr c11)] at ih1
              refine sp_X1_codeNumberAt (by decide) ?_
              refine sp_X5_valueOf  ?_
              refine ⟨(show 0 ≤ s1.1 ∧ s1.1 < ((35 : Nat) : Int) from by first | omega | (simp (disch := omega) only [w32_i]; omega)), ?_⟩
              refine (show W2 o_X5 M_X5_holds (inN [25]) (d + 3) Q 70 [some (mR 29), some (mR 57), some (mI x), some (mI s1.1), some (mI (f_X1_codeEndOf 52 G x)), some (mI ((f_X1_codeStartOf 52 G x ) + ((j1 : Nat) : Int))), some (mI (f_X1_codeKindAt 52 s1.2 ((f_X1_codeStartOf 52 G x ) + ((j1 : Nat) : Int))))] [] (gs s1.2 25 (Int.toNat s1.1) (f_X5_valueOf s1.2 (f_X1_codeKindAt 52 s1.2 ((f_X1_codeStartOf 52 G x ) + ((j1 : Nat) : Int))) (f_X1_codeNumberAt 52 s1.2 ((f_X1_codeStartOf 52 G x ) + ((j1 : Nat) : Int))))) from ?_)
              refine w2_vc [16, 70, 115, 118, 119] 400 oo_X5 q_X5_holds ?_
              refine (show W2 o_X5 M_X5_holds (inN [25]) (d + 3) Q 16 [some (mR 29), some (mR 57), some (mI x), some (mI (w32 (s1.1 + 1))), some (mI (f_X1_codeEndOf 52 G x)), some (mI (w32 (((f_X1_codeStartOf 52 G x ) + ((j1 : Nat) : Int)) + 1))), some (mI (f_X1_codeKindAt 52 s1.2 ((f_X1_codeStartOf 52 G x ) + ((j1 : Nat) : Int))))] [] (gs s1.2 25 (Int.toNat s1.1) (f_X5_valueOf s1.2 (f_X1_codeKindAt 52 s1.2 ((f_X1_codeStartOf 52 G x ) + ((j1 : Nat) : Int))) (f_X1_codeNumberAt 52 s1.2 ((f_X1_codeStartOf 52 G x ) + ((j1 : Nat) : Int))))) from ?_)
              refine WP.fg (L' := [some (mR 29), some (mR 57), some (mI x), some (mI (w32 (s1.1 + 1))), some (mI (f_X1_codeEndOf 52 G x)), some (mI (w32 (((f_X1_codeStartOf 52 G x ) + ((j1 : Nat) : Int)) + 1))), none]) ⟨rfl, rfl, rfl, rfl, rfl, rfl, trivial⟩ ?_
              rw [w32_up (by omega) (by omega)]
              exact ih1
    · skip
      refine (show W2 o_X5 M_X5_holds (inN [25]) (d + 3) Q 16 [some (mR 29), some (mR 57), some (mI x), some (mI (fd (g_X5_holds_16 52 G x) (0, G) (Int.toNat ((f_X1_codeEndOf 52 G x) - (f_X1_codeStartOf 52 G x)))).1), some (mI (f_X1_codeEndOf 52 G x)), some (mI ((f_X1_codeStartOf 52 G x ) + (((Int.toNat ((f_X1_codeEndOf 52 G x) - (f_X1_codeStartOf 52 G x))) : Nat) : Int))), none] [] (fd (g_X5_holds_16 52 G x) (0, G) (Int.toNat ((f_X1_codeEndOf 52 G x) - (f_X1_codeStartOf 52 G x)))).2 from ?_)
      refine w2_vc [16, 70, 115, 118, 119] 400 oo_X5 q_X5_holds ?_
      refine ⟨fun (c14 : (f_X1_codeEndOf 52 G x) ≤ ((f_X1_codeStartOf 52 G x ) + (((Int.toNat ((f_X1_codeEndOf 52 G x) - (f_X1_codeStartOf 52 G x))) : Nat) : Int))) => ?_, fun (c14 : ((f_X1_codeStartOf 52 G x ) + (((Int.toNat ((f_X1_codeEndOf 52 G x) - (f_X1_codeStartOf 52 G x))) : Nat) : Int)) < (f_X1_codeEndOf 52 G x)) => ?_⟩
      · skip
        refine ⟨fun (c15 : (fd (g_X5_holds_16 52 G x) (0, G) (Int.toNat ((f_X1_codeEndOf 52 G x) - (f_X1_codeStartOf 52 G x)))).1 ≤ 0) => ?_, fun (c15 : 0 < (fd (g_X5_holds_16 52 G x) (0, G) (Int.toNat ((f_X1_codeEndOf 52 G x) - (f_X1_codeStartOf 52 G x)))).1) => ?_⟩
        · rw [if_pos c15] at h
          exact ⟨by omega, h⟩
        · rw [if_neg (Int.not_le.mpr c15)] at h
          refine ⟨(show 0 ≤ 0 ∧ 0 < ((35 : Nat) : Int) from by first | omega | (simp (disch := omega) only [w32_i]; omega)), ?_⟩
          refine ⟨fun (c16 : ((fd (g_X5_holds_16 52 G x) (0, G) (Int.toNat ((f_X1_codeEndOf 52 G x) - (f_X1_codeStartOf 52 G x)))).2 25 (Int.toNat 0)) = 0) => ?_, fun (c16 : ¬ ((fd (g_X5_holds_16 52 G x) (0, G) (Int.toNat ((f_X1_codeEndOf 52 G x) - (f_X1_codeStartOf 52 G x)))).2 25 (Int.toNat 0)) = 0) => ?_⟩
          · rw [if_pos c16] at h
            exact ⟨by omega, h⟩
          · rw [if_neg (c16)] at h
            exact ⟨by omega, h⟩
      · skip
        exfalso; first | omega | (rw [w32_i (by omega) (by omega)] at c16; omega) | (simp (disch := omega) only [w32_i] at *; omega)
def g_X5_firstHolding_3 (c : Nat) (G : mG) (kd : Int) (cm : Int) : Nat → mG → (mG ⊕ (Int × mG)) := fun j1 s1 => (if ¬ (f_X1_kindOf c s1 ((j1 : Nat) : Int)) = kd then (Sum.inl s1) else (if ¬ (f_X1_ownerOf c s1 ((j1 : Nat) : Int)) = cm then (Sum.inl s1) else (if (r_X5_holds c s1 ((j1 : Nat) : Int)).1 = 0 then (Sum.inl (r_X5_holds c s1 ((j1 : Nat) : Int)).2) else (Sum.inr (((j1 : Nat) : Int), (r_X5_holds c s1 ((j1 : Nat) : Int)).2)))))
def r_X5_firstHolding (c : Nat) (G : mG) (kd : Int) (cm : Int) : Int × mG := (fnl (fe (g_X5_firstHolding_3 c G kd cm) G (Int.toNat (G c 12))) (fun s1 => ((-1), s1)))
theorem fr_g_X5_firstHolding_3 (c : Nat) (G : mG) (kd : Int) (cm : Int) {k : Nat} (hk : ∀ a ∈ ([25] : List Nat), k ≠ a) (j : Nat) (s z : mG) (h : g_X5_firstHolding_3 c G kd cm j s = Sum.inl z) : z k = s k := by
  unfold g_X5_firstHolding_3 at h
  revert h
  repeat' with_reducible apply ite_s
  all_goals intro h
  all_goals first | (cases h; done) | (injection h with h; subst h; first | (simp only [gs_ne (hk (25) (by simp)), fr_X5_holds (c := c) (fun a ha => hk a (by simp only [List.mem_cons, List.not_mem_nil, or_false] at ha ⊢; omega))]; done) | rfl)
theorem fr2_g_X5_firstHolding_3 (c : Nat) (G : mG) (kd : Int) (cm : Int) {k : Nat} (hk : ∀ a ∈ ([25] : List Nat), k ≠ a) (j : Nat) (s : mG) (z : Int × mG) (h : g_X5_firstHolding_3 c G kd cm j s = Sum.inr z) : z.2 k = s k := by
  unfold g_X5_firstHolding_3 at h
  revert h
  repeat' with_reducible apply ite_s
  all_goals intro h
  all_goals first | (cases h; done) | (injection h with h; subst h; first | (simp only [gs_ne (hk (25) (by simp)), fr_X5_holds (c := c) (fun a ha => hk a (by simp only [List.mem_cons, List.not_mem_nil, or_false] at ha ⊢; omega))]; done) | rfl)
theorem fr_X5_firstHolding {c : Nat} {G : mG} {kd : Int} {cm : Int} {k : Nat} (hk : ∀ a ∈ ([25] : List Nat), k ≠ a) : (r_X5_firstHolding c G kd cm).2 k = G k := by
  unfold r_X5_firstHolding
  exact fin_fr (fr_g_X5_firstHolding_3 c G kd cm hk) (fr2_g_X5_firstHolding_3 c G kd cm hk) (fun s => rfl)
theorem sp_X5_firstHolding {D : Nat → Bool} {d : Nat} {c : Nat} {G : mG} {kd : Int} {cm : Int} {Q : Option mV → mG → Prop} (hc : c = 40 ∨ c = 52) (hn : G c 12 ≤ 40) (ha : cB c G) (hD : ∀ k, D k = false → inN [25] k = false) (h : Q (some (mI (r_X5_firstHolding c G kd cm).1)) (r_X5_firstHolding c G kd cm).2) : P2 D (d + 4) M_X5_firstHolding [mR 29, mR (c + 5), mI kd, mI cm] G Q := by
  rcases hc with rfl | rfl
  · skip
    unfold r_X5_firstHolding at h
    try simp only [Nat.reduceAdd, Nat.reduceSub] at h
    refine MP.to (D2 := inN [25]) (Q2 := Q) ?_ hD (fun v G' q _ => q)
    refine (show P2 (inN [25]) (d + 4) M_X5_firstHolding [mR 29, mR 45, mI kd, mI cm] G Q from ?_)
    refine p2_vc [3] 400 oo_X5 q_X5_firstHolding (by decide) rfl (Nat.le_of_ble_eq_true rfl) ?_
    refine (show W2 o_X5 M_X5_firstHolding (inN [25]) (d + 4) Q 3 [some (mR 29), some (mR 45), some (mI kd), some (mI cm), some (mI ((0 : Nat) : Int))] [] G from ?_)
    refine lupF (g_X5_firstHolding_3 40 G kd cm) G (fun j1 s1 => W2 o_X5 M_X5_firstHolding (inN [25]) (d + 4) Q 3 [some (mR 29), some (mR 45), some (mI kd), some (mI cm), some (mI ((j1 : Nat) : Int))] [] s1) (fun r => Q (some (mI r.1)) r.2) (fun (_ : Nat) s => (∀ k, (∀ a ∈ ([25] : List Nat), k ≠ a) → s k = G k)) (Int.toNat (G 40 12)) ⟨fun _ _ => rfl, fun j s z _ hI he => fun k hk => by rw [← hI k hk]; exact fr_g_X5_firstHolding_3 40 G kd cm hk j s z he⟩ (fun j1 s1 hj1 hI1 ih1 => ?_) ?_
    · have ih1 : sk (fun z => W2 o_X5 M_X5_firstHolding (inN [25]) (d + 4) Q 3 [some (mR 29), some (mR 45), some (mI kd), some (mI cm), some (mI ((j1 + 1 : Nat) : Int))] [] z) (fun r => Q (some (mI r.1)) r.2) (g_X5_firstHolding_3 40 G kd cm j1 s1) := ih1
      unfold g_X5_firstHolding_3 at ih1
      try simp only [Nat.reduceAdd, Nat.reduceSub] at ih1
      have hF1 := hI1
      have hI1c : s1 40 12 = G 40 12 := by rw [hF1 40 (by decide)]
      have hB1 : cB 40 s1 := cB_to ha (hF1 _ (by decide)) (hF1 _ (by decide)) (hF1 _ (by decide))
      refine w2_vc [3] 400 oo_X5 q_X5_firstHolding ?_
      refine sp_X1_clauses (by decide) ?_
      have c2 := (show f_X1_clauses 40 s1 = s1 40 12 from rfl)
      refine ⟨fun (c3 : (f_X1_clauses 40 s1 ) ≤ ((j1 : Nat) : Int)) => ?_, fun (c3 : ((j1 : Nat) : Int) < (f_X1_clauses 40 s1 )) => ?_⟩
      · skip
        exfalso; first | omega | (rw [w32_i (by omega) (by omega)] at c3; omega) | (simp (disch := omega) only [w32_i] at *; omega)
      · skip
        refine sp_X1_kindOf (by decide) ?_
        refine ⟨fun (c5 : ¬ (f_X1_kindOf 40 s1 ((j1 : Nat) : Int)) = kd) => ?_, fun (c5 : (f_X1_kindOf 40 s1 ((j1 : Nat) : Int)) = kd) => ?_⟩
        · rw [if_pos c5] at ih1
          refine (show W2 o_X5 M_X5_firstHolding (inN [25]) (d + 4) Q 3 [some (mR 29), some (mR 45), some (mI kd), some (mI cm), some (mI (w32 (((j1 : Nat) : Int) + 1)))] [] s1 from ?_)
          rw [w32_nat (by omega)]
          exact ih1
        · rw [if_neg (fun q => q c5)] at ih1
          refine sp_X1_ownerOf (by decide) ?_
          refine ⟨fun (c7 : ¬ (f_X1_ownerOf 40 s1 ((j1 : Nat) : Int)) = cm) => ?_, fun (c7 : (f_X1_ownerOf 40 s1 ((j1 : Nat) : Int)) = cm) => ?_⟩
          · rw [if_pos c7] at ih1
            refine (show W2 o_X5 M_X5_firstHolding (inN [25]) (d + 4) Q 3 [some (mR 29), some (mR 45), some (mI kd), some (mI cm), some (mI (w32 (((j1 : Nat) : Int) + 1)))] [] s1 from ?_)
            rw [w32_nat (by omega)]
            exact ih1
          · rw [if_neg (fun q => q c7)] at ih1
            refine sp_X5_holds (by decide) (hB1) (insub (by decide)) ?_
            refine ⟨fun (c9 : (r_X5_holds 40 s1 ((j1 : Nat) : Int)).1 = 0) => ?_, fun (c9 : ¬ (r_X5_holds 40 s1 ((j1 : Nat) : Int)).1 = 0) => ?_⟩
            · rw [if_pos c9] at ih1
              refine (show W2 o_X5 M_X5_firstHolding (inN [25]) (d + 4) Q 3 [some (mR 29), some (mR 45), some (mI kd), some (mI cm), some (mI (w32 (((j1 : Nat) : Int) + 1)))] [] (r_X5_holds 40 s1 ((j1 : Nat) : Int)).2 from ?_)
              rw [w32_nat (by omega)]
              exact ih1
            · rw [if_neg (c9)] at ih1
              exact ih1
    · intro hI1
      generalize (fe (g_X5_firstHolding_3 40 G kd cm) G (Int.toNat (G 40 12))) = z at h hI1 ⊢
      cases z with
      | inr r => exact h
      | inl s1 =>
        have hI1 := hI1 s1 rfl
        have hF1 := hI1
        have hI1c : s1 40 12 = G 40 12 := by rw [hF1 40 (by decide)]
        have hB1 : cB 40 s1 := cB_to ha (hF1 _ (by decide)) (hF1 _ (by decide)) (hF1 _ (by decide))
        have h : Q (some (mI ((-1), s1).1)) ((-1), s1).2 := h
        refine (show W2 o_X5 M_X5_firstHolding (inN [25]) (d + 4) Q 3 [some (mR 29), some (mR 45), some (mI kd), some (mI cm), some (mI (((Int.toNat (G 40 12)) : Nat) : Int))] [] s1 from ?_)
        refine w2_vc [3] 400 oo_X5 q_X5_firstHolding ?_
        refine sp_X1_clauses (by decide) ?_
        have c11 := (show f_X1_clauses 40 s1 = s1 40 12 from rfl)
        refine ⟨fun (c12 : (f_X1_clauses 40 s1 ) ≤ (((Int.toNat (G 40 12)) : Nat) : Int)) => ?_, fun (c12 : (((Int.toNat (G 40 12)) : Nat) : Int) < (f_X1_clauses 40 s1 )) => ?_⟩
        · skip
          exact h
        · skip
          exfalso; first | omega | (rw [w32_i (by omega) (by omega)] at c12; omega) | (simp (disch := omega) only [w32_i] at *; omega)
  · skip
    unfold r_X5_firstHolding at h
    try simp only [Nat.reduceAdd, Nat.reduceSub] at h
    refine MP.to (D2 := inN [25]) (Q2 := Q) ?_ hD (fun v G' q _ => q)
    refine (show P2 (inN [25]) (d + 4) M_X5_firstHolding [mR 29, mR 57, mI kd, mI cm] G Q from ?_)
    refine p2_vc [3] 400 oo_X5 q_X5_firstHolding (by decide) rfl (Nat.le_of_ble_eq_true rfl) ?_
    refine (show W2 o_X5 M_X5_firstHolding (inN [25]) (d + 4) Q 3 [some (mR 29), some (mR 57), some (mI kd), some (mI cm), some (mI ((0 : Nat) : Int))] [] G from ?_)
    refine lupF (g_X5_firstHolding_3 52 G kd cm) G (fun j1 s1 => W2 o_X5 M_X5_firstHolding (inN [25]) (d + 4) Q 3 [some (mR 29), some (mR 57), some (mI kd), some (mI cm), some (mI ((j1 : Nat) : Int))] [] s1) (fun r => Q (some (mI r.1)) r.2) (fun (_ : Nat) s => (∀ k, (∀ a ∈ ([25] : List Nat), k ≠ a) → s k = G k)) (Int.toNat (G 52 12)) ⟨fun _ _ => rfl, fun j s z _ hI he => fun k hk => by rw [← hI k hk]; exact fr_g_X5_firstHolding_3 52 G kd cm hk j s z he⟩ (fun j1 s1 hj1 hI1 ih1 => ?_) ?_
    · have ih1 : sk (fun z => W2 o_X5 M_X5_firstHolding (inN [25]) (d + 4) Q 3 [some (mR 29), some (mR 57), some (mI kd), some (mI cm), some (mI ((j1 + 1 : Nat) : Int))] [] z) (fun r => Q (some (mI r.1)) r.2) (g_X5_firstHolding_3 52 G kd cm j1 s1) := ih1
      unfold g_X5_firstHolding_3 at ih1
      try simp only [Nat.reduceAdd, Nat.reduceSub] at ih1
      have hF1 := hI1
      have hI1c : s1 52 12 = G 52 12 := by rw [hF1 52 (by decide)]
      have hB1 : cB 52 s1 := cB_to ha (hF1 _ (by decide)) (hF1 _ (by decide)) (hF1 _ (by decide))
      refine w2_vc [3] 400 oo_X5 q_X5_firstHolding ?_
      refine sp_X1_clauses (by decide) ?_
      have c2 := (show f_X1_clauses 52 s1 = s1 52 12 from rfl)
      refine ⟨fun (c3 : (f_X1_clauses 52 s1 ) ≤ ((j1 : Nat) : Int)) => ?_, fun (c3 : ((j1 : Nat) : Int) < (f_X1_clauses 52 s1 )) => ?_⟩
      · skip
        exfalso; first | omega | (rw [w32_i (by omega) (by omega)] at c3; omega) | (simp (disch := omega) only [w32_i] at *; omega)
      · skip
        refine sp_X1_kindOf (by decide) ?_
        refine ⟨fun (c5 : ¬ (f_X1_kindOf 52 s1 ((j1 : Nat) : Int)) = kd) => ?_, fun (c5 : (f_X1_kindOf 52 s1 ((j1 : Nat) : Int)) = kd) => ?_⟩
        · rw [if_pos c5] at ih1
          refine (show W2 o_X5 M_X5_firstHolding (inN [25]) (d + 4) Q 3 [some (mR 29), some (mR 57), some (mI kd), some (mI cm), some (mI (w32 (((j1 : Nat) : Int) + 1)))] [] s1 from ?_)
          rw [w32_nat (by omega)]
          exact ih1
        · rw [if_neg (fun q => q c5)] at ih1
          refine sp_X1_ownerOf (by decide) ?_
          refine ⟨fun (c7 : ¬ (f_X1_ownerOf 52 s1 ((j1 : Nat) : Int)) = cm) => ?_, fun (c7 : (f_X1_ownerOf 52 s1 ((j1 : Nat) : Int)) = cm) => ?_⟩
          · rw [if_pos c7] at ih1
            refine (show W2 o_X5 M_X5_firstHolding (inN [25]) (d + 4) Q 3 [some (mR 29), some (mR 57), some (mI kd), some (mI cm), some (mI (w32 (((j1 : Nat) : Int) + 1)))] [] s1 from ?_)
            rw [w32_nat (by omega)]
            exact ih1
          · rw [if_neg (fun q => q c7)] at ih1
            refine sp_X5_holds (by decide) (hB1) (insub (by decide)) ?_
            refine ⟨fun (c9 : (r_X5_holds 52 s1 ((j1 : Nat) : Int)).1 = 0) => ?_, fun (c9 : ¬ (r_X5_holds 52 s1 ((j1 : Nat) : Int)).1 = 0) => ?_⟩
            · rw [if_pos c9] at ih1
              refine (show W2 o_X5 M_X5_firstHolding (inN [25]) (d + 4) Q 3 [some (mR 29), some (mR 57), some (mI kd), some (mI cm), some (mI (w32 (((j1 : Nat) : Int) + 1)))] [] (r_X5_holds 52 s1 ((j1 : Nat) : Int)).2 from ?_)
              rw [w32_nat (by omega)]
              exact ih1
            · rw [if_neg (c9)] at ih1
              exact ih1
    · intro hI1
      generalize (fe (g_X5_firstHolding_3 52 G kd cm) G (Int.toNat (G 52 12))) = z at h hI1 ⊢
      cases z with
      | inr r => exact h
      | inl s1 =>
        have hI1 := hI1 s1 rfl
        have hF1 := hI1
        have hI1c : s1 52 12 = G 52 12 := by rw [hF1 52 (by decide)]
        have hB1 : cB 52 s1 := cB_to ha (hF1 _ (by decide)) (hF1 _ (by decide)) (hF1 _ (by decide))
        have h : Q (some (mI ((-1), s1).1)) ((-1), s1).2 := h
        refine (show W2 o_X5 M_X5_firstHolding (inN [25]) (d + 4) Q 3 [some (mR 29), some (mR 57), some (mI kd), some (mI cm), some (mI (((Int.toNat (G 52 12)) : Nat) : Int))] [] s1 from ?_)
        refine w2_vc [3] 400 oo_X5 q_X5_firstHolding ?_
        refine sp_X1_clauses (by decide) ?_
        have c11 := (show f_X1_clauses 52 s1 = s1 52 12 from rfl)
        refine ⟨fun (c12 : (f_X1_clauses 52 s1 ) ≤ (((Int.toNat (G 52 12)) : Nat) : Int)) => ?_, fun (c12 : (((Int.toNat (G 52 12)) : Nat) : Int) < (f_X1_clauses 52 s1 )) => ?_⟩
        · skip
          exact h
        · skip
          exfalso; first | omega | (rw [w32_i (by omega) (by omega)] at c12; omega) | (simp (disch := omega) only [w32_i] at *; omega)
theorem sp_J0_length_8abf5 {D : Nat → Bool} {d : Nat} {G : mG} {Q : Option mV → mG → Prop} (h : Q (some (mI 160)) G) : P2 D (d + 2) M_J0_length_8abf5 [mR 2] G Q := by
  refine p2_vc [] 40 oo_J0 q_J0_length_8abf5 (by decide) rfl (Nat.le_of_ble_eq_true rfl) ?_
  refine p2_vc [] 40 oo_J0 q_J0_coder_7d493 (by decide) rfl (Nat.le_of_ble_eq_true rfl) ?_
  refine ⟨fun (c : (1 : Int) = 0) => absurd c (by decide), fun _ => ⟨by decide, ?_⟩⟩
  refine (show Q (some (mI (mShr 160 0))) G from ?_)
  rw [show mShr 160 0 = 160 by decide]
  exact h
def wdc (x : Int) : Int := (wordsB.getD (Int.toNat x) 0).toInt
theorem wdc_all : (List.range 160).all (fun i => decide (w16 (mAnd (wordsB.getD i 0).toInt 255) = (wordsB.getD i 0).toInt ∧ 0 ≤ (wordsB.getD i 0).toInt ∧ (wordsB.getD i 0).toInt < 65536)) = true := by decide +kernel
theorem wdc_ok {x : Int} (hx : 0 ≤ x ∧ x < 160) : w16 (mAnd (wordsB.getD (Int.toNat x) 0).toInt 255) = wdc x ∧ 0 ≤ wdc x ∧ wdc x < 65536 :=
  of_decide_eq_true (List.all_eq_true.mp wdc_all (Int.toNat x) (List.mem_range.mpr (by omega)))
theorem sp_J0_charAt_5068e {D : Nat → Bool} {d : Nat} {G : mG} {x : Int} {Q : Option mV → mG → Prop} (hx : 0 ≤ x ∧ x < 160) (h : Q (some (mI (wdc x))) G) : P2 D (d + 4) M_J0_charAt_5068e [mR 2, mI x] G Q := by
  have hw := wdc_ok hx
  refine p2_vc [] 40 oo_J0 q_J0_charAt_5068e (by decide) rfl (Nat.le_of_ble_eq_true rfl) ?_
  refine p2_vc [] 40 oo_J0 q_J0_isLatin1_aae02 (by decide) rfl (Nat.le_of_ble_eq_true rfl) ?_
  refine ⟨fun (c : (1 : Int) = 0) => absurd c (by decide), fun _ => ⟨fun (c : ¬ (0 : Int) = 0) => absurd rfl c, fun _ => ⟨Or.inr rfl, ?_⟩⟩⟩
  refine ⟨fun (c : (1 : Int) = 0) => absurd c (by decide), fun _ => ?_⟩
  refine p2_vc [] 40 oo_J1 q_J1_charAt_3b067 (by decide) rfl (Nat.le_of_ble_eq_true rfl) ?_
  refine p2_vc [] 40 oo_J0 q_J0_checkIndex_df160 (by decide) rfl (Nat.le_of_ble_eq_true rfl) ?_
  refine p2_vc [] 40 oo_J3 q_J3_checkIndex_8e157 (by decide) rfl (Nat.le_of_ble_eq_true rfl) ?_
  refine ⟨fun (c : x < 0) => absurd c (by omega), fun _ => ⟨fun _ => ?_, fun (c : (160 : Int) ≤ x) => absurd c (by omega)⟩⟩
  refine ⟨hx, ?_⟩
  refine (show (0 ≤ w16 (mAnd (wordsB.getD (Int.toNat x) 0).toInt 255) ∧ w16 (mAnd (wordsB.getD (Int.toNat x) 0).toInt 255) < 65536) ∧ (0 ≤ w16 (mAnd (wordsB.getD (Int.toNat x) 0).toInt 255) ∧ w16 (mAnd (wordsB.getD (Int.toNat x) 0).toInt 255) < 65536) ∧ Q (some (mI (w16 (mAnd (wordsB.getD (Int.toNat x) 0).toInt 255)))) G from ?_)
  rw [hw.1]
  exact ⟨hw.2, hw.2, h⟩
def f_J0_charAt_5068e (G : mG) (x : Int) : Int := wdc x
def f_X10_name (G : mG) : Int := G 20 5
theorem sp_X10_name {D : Nat → Bool} {d : Nat} {G : mG} {Q : Option mV → mG → Prop} (h : Q (some (mJ (f_X10_name G))) G) : P2 D (d + 1) M_X10_name [mR 25] G Q :=
  p2_vc [] 10 oo_X10 q_X10_name (by decide) rfl (Nat.le_of_ble_eq_true rfl) h
def g_X1_wantOf_2 (c : Nat) (G : mG) (x : Int) (y : Int) : Nat → Unit → (Unit ⊕ (Int)) := fun j1 s1 => (if ¬ (f_X1_kindOf c G ((j1 : Nat) : Int)) = 18 then (Sum.inl ()) else (if ¬ (f_X1_ownerOf c G ((j1 : Nat) : Int)) = x then (Sum.inl ()) else (if ¬ (f_X1_districtOf c G ((j1 : Nat) : Int)) = y then (Sum.inl ()) else (Sum.inr ((j1 : Nat) : Int)))))
def f_X1_wantOf (c : Nat) (G : mG) (x : Int) (y : Int) : Int := (fnl (fe (g_X1_wantOf_2 c G x y) () (Int.toNat (G c 12))) (fun s1 => (-1)))
theorem sp_X1_wantOf {D : Nat → Bool} {d : Nat} {c : Nat} {G : mG} {x : Int} {y : Int} {Q : Option mV → mG → Prop} (hc : c = 40 ∨ c = 52) (hn : G c 12 ≤ 40) (h : Q (some (mI (f_X1_wantOf c G x y))) G) : P2 D (d + 3) M_X1_wantOf [mR (c + 5), mI x, mI y] G Q := by
  rcases hc with rfl | rfl
  · skip
    unfold f_X1_wantOf at h
    try simp only [Nat.reduceAdd, Nat.reduceSub] at h
    refine (show P2 D (d + 3) M_X1_wantOf [mR 45, mI x, mI y] G Q from ?_)
    refine p2_vc [2] 400 oo_X1 q_X1_wantOf (by decide) rfl (Nat.le_of_ble_eq_true rfl) ?_
    refine (show W2 o_X1 M_X1_wantOf D (d + 3) Q 2 [some (mR 45), some (mI x), some (mI y), some (mI ((0 : Nat) : Int))] [] G from ?_)
    refine lupF (g_X1_wantOf_2 40 G x y) () (fun j1 s1 => W2 o_X1 M_X1_wantOf D (d + 3) Q 2 [some (mR 45), some (mI x), some (mI y), some (mI ((j1 : Nat) : Int))] [] G) (fun r => Q (some (mI r)) G) (fun _ _ => True) (Int.toNat (G 40 12)) ⟨trivial, fun _ _ _ _ _ _ => trivial⟩ (fun j1 s1 hj1 hI1 ih1 => ?_) ?_
    · have ih1 : sk (fun z => W2 o_X1 M_X1_wantOf D (d + 3) Q 2 [some (mR 45), some (mI x), some (mI y), some (mI ((j1 + 1 : Nat) : Int))] [] G) (fun r => Q (some (mI r)) G) (g_X1_wantOf_2 40 G x y j1 s1) := ih1
      unfold g_X1_wantOf_2 at ih1
      try simp only [Nat.reduceAdd, Nat.reduceSub] at ih1
      refine w2_vc [2] 400 oo_X1 q_X1_wantOf ?_
      refine ⟨fun (c1 : (G 40 12) ≤ ((j1 : Nat) : Int)) => ?_, fun (c1 : ((j1 : Nat) : Int) < (G 40 12)) => ?_⟩
      · skip
        exfalso; first | omega | (rw [w32_i (by omega) (by omega)] at c1; omega) | (simp (disch := omega) only [w32_i] at *; omega)
      · skip
        refine sp_X1_kindOf (by decide) ?_
        refine ⟨fun (c3 : ¬ (f_X1_kindOf 40 G ((j1 : Nat) : Int)) = 18) => ?_, fun (c3 : (f_X1_kindOf 40 G ((j1 : Nat) : Int)) = 18) => ?_⟩
        · rw [if_pos c3] at ih1
          refine (show W2 o_X1 M_X1_wantOf D (d + 3) Q 2 [some (mR 45), some (mI x), some (mI y), some (mI (w32 (((j1 : Nat) : Int) + 1)))] [] G from ?_)
          rw [w32_nat (by omega)]
          exact ih1
        · rw [if_neg (fun q => q c3)] at ih1
          refine sp_X1_ownerOf (by decide) ?_
          refine ⟨fun (c5 : ¬ (f_X1_ownerOf 40 G ((j1 : Nat) : Int)) = x) => ?_, fun (c5 : (f_X1_ownerOf 40 G ((j1 : Nat) : Int)) = x) => ?_⟩
          · rw [if_pos c5] at ih1
            refine (show W2 o_X1 M_X1_wantOf D (d + 3) Q 2 [some (mR 45), some (mI x), some (mI y), some (mI (w32 (((j1 : Nat) : Int) + 1)))] [] G from ?_)
            rw [w32_nat (by omega)]
            exact ih1
          · rw [if_neg (fun q => q c5)] at ih1
            refine sp_X1_districtOf (by decide) ?_
            refine ⟨fun (c7 : ¬ (f_X1_districtOf 40 G ((j1 : Nat) : Int)) = y) => ?_, fun (c7 : (f_X1_districtOf 40 G ((j1 : Nat) : Int)) = y) => ?_⟩
            · rw [if_pos c7] at ih1
              refine (show W2 o_X1 M_X1_wantOf D (d + 3) Q 2 [some (mR 45), some (mI x), some (mI y), some (mI (w32 (((j1 : Nat) : Int) + 1)))] [] G from ?_)
              rw [w32_nat (by omega)]
              exact ih1
            · rw [if_neg (fun q => q c7)] at ih1
              exact ih1
    · intro hI1
      generalize (fe (g_X1_wantOf_2 40 G x y) () (Int.toNat (G 40 12))) = z at h hI1 ⊢
      cases z with
      | inr r => exact h
      | inl s1 =>
        have h : Q (some (mI (-1))) G := h
        refine (show W2 o_X1 M_X1_wantOf D (d + 3) Q 2 [some (mR 45), some (mI x), some (mI y), some (mI (((Int.toNat (G 40 12)) : Nat) : Int))] [] G from ?_)
        refine w2_vc [2] 400 oo_X1 q_X1_wantOf ?_
        refine ⟨fun (c8 : (G 40 12) ≤ (((Int.toNat (G 40 12)) : Nat) : Int)) => ?_, fun (c8 : (((Int.toNat (G 40 12)) : Nat) : Int) < (G 40 12)) => ?_⟩
        · skip
          exact h
        · skip
          exfalso; first | omega | (rw [w32_i (by omega) (by omega)] at c8; omega) | (simp (disch := omega) only [w32_i] at *; omega)
  · skip
    unfold f_X1_wantOf at h
    try simp only [Nat.reduceAdd, Nat.reduceSub] at h
    refine (show P2 D (d + 3) M_X1_wantOf [mR 57, mI x, mI y] G Q from ?_)
    refine p2_vc [2] 400 oo_X1 q_X1_wantOf (by decide) rfl (Nat.le_of_ble_eq_true rfl) ?_
    refine (show W2 o_X1 M_X1_wantOf D (d + 3) Q 2 [some (mR 57), some (mI x), some (mI y), some (mI ((0 : Nat) : Int))] [] G from ?_)
    refine lupF (g_X1_wantOf_2 52 G x y) () (fun j1 s1 => W2 o_X1 M_X1_wantOf D (d + 3) Q 2 [some (mR 57), some (mI x), some (mI y), some (mI ((j1 : Nat) : Int))] [] G) (fun r => Q (some (mI r)) G) (fun _ _ => True) (Int.toNat (G 52 12)) ⟨trivial, fun _ _ _ _ _ _ => trivial⟩ (fun j1 s1 hj1 hI1 ih1 => ?_) ?_
    · have ih1 : sk (fun z => W2 o_X1 M_X1_wantOf D (d + 3) Q 2 [some (mR 57), some (mI x), some (mI y), some (mI ((j1 + 1 : Nat) : Int))] [] G) (fun r => Q (some (mI r)) G) (g_X1_wantOf_2 52 G x y j1 s1) := ih1
      unfold g_X1_wantOf_2 at ih1
      try simp only [Nat.reduceAdd, Nat.reduceSub] at ih1
      refine w2_vc [2] 400 oo_X1 q_X1_wantOf ?_
      refine ⟨fun (c1 : (G 52 12) ≤ ((j1 : Nat) : Int)) => ?_, fun (c1 : ((j1 : Nat) : Int) < (G 52 12)) => ?_⟩
      · skip
        exfalso; first | omega | (rw [w32_i (by omega) (by omega)] at c1; omega) | (simp (disch := omega) only [w32_i] at *; omega)
      · skip
        refine sp_X1_kindOf (by decide) ?_
        refine ⟨fun (c3 : ¬ (f_X1_kindOf 52 G ((j1 : Nat) : Int)) = 18) => ?_, fun (c3 : (f_X1_kindOf 52 G ((j1 : Nat) : Int)) = 18) => ?_⟩
        · rw [if_pos c3] at ih1
          refine (show W2 o_X1 M_X1_wantOf D (d + 3) Q 2 [some (mR 57), some (mI x), some (mI y), some (mI (w32 (((j1 : Nat) : Int) + 1)))] [] G from ?_)
          rw [w32_nat (by omega)]
          exact ih1
        · rw [if_neg (fun q => q c3)] at ih1
          refine sp_X1_ownerOf (by decide) ?_
          refine ⟨fun (c5 : ¬ (f_X1_ownerOf 52 G ((j1 : Nat) : Int)) = x) => ?_, fun (c5 : (f_X1_ownerOf 52 G ((j1 : Nat) : Int)) = x) => ?_⟩
          · rw [if_pos c5] at ih1
            refine (show W2 o_X1 M_X1_wantOf D (d + 3) Q 2 [some (mR 57), some (mI x), some (mI y), some (mI (w32 (((j1 : Nat) : Int) + 1)))] [] G from ?_)
            rw [w32_nat (by omega)]
            exact ih1
          · rw [if_neg (fun q => q c5)] at ih1
            refine sp_X1_districtOf (by decide) ?_
            refine ⟨fun (c7 : ¬ (f_X1_districtOf 52 G ((j1 : Nat) : Int)) = y) => ?_, fun (c7 : (f_X1_districtOf 52 G ((j1 : Nat) : Int)) = y) => ?_⟩
            · rw [if_pos c7] at ih1
              refine (show W2 o_X1 M_X1_wantOf D (d + 3) Q 2 [some (mR 57), some (mI x), some (mI y), some (mI (w32 (((j1 : Nat) : Int) + 1)))] [] G from ?_)
              rw [w32_nat (by omega)]
              exact ih1
            · rw [if_neg (fun q => q c7)] at ih1
              exact ih1
    · intro hI1
      generalize (fe (g_X1_wantOf_2 52 G x y) () (Int.toNat (G 52 12))) = z at h hI1 ⊢
      cases z with
      | inr r => exact h
      | inl s1 =>
        have h : Q (some (mI (-1))) G := h
        refine (show W2 o_X1 M_X1_wantOf D (d + 3) Q 2 [some (mR 57), some (mI x), some (mI y), some (mI (((Int.toNat (G 52 12)) : Nat) : Int))] [] G from ?_)
        refine w2_vc [2] 400 oo_X1 q_X1_wantOf ?_
        refine ⟨fun (c8 : (G 52 12) ≤ (((Int.toNat (G 52 12)) : Nat) : Int)) => ?_, fun (c8 : (((Int.toNat (G 52 12)) : Nat) : Int) < (G 52 12)) => ?_⟩
        · skip
          exact h
        · skip
          exfalso; first | omega | (rw [w32_i (by omega) (by omega)] at c8; omega) | (simp (disch := omega) only [w32_i] at *; omega)
def g_X10_isWord_2 (G : mG) (x : Int) (y : Int) : Nat → Unit → (Unit ⊕ (Int)) := fun j1 s1 => (if y ≤ ((j1 : Nat) : Int) then (if (f_J0_charAt_5068e G (w32 (x + ((j1 : Nat) : Int)))) = 32 then (Sum.inl ()) else (Sum.inr 0)) else (if (f_J0_charAt_5068e G (w32 (x + ((j1 : Nat) : Int)))) = (f_X9_byteAt G (w32 ((G 20 3) + ((j1 : Nat) : Int)))) then (Sum.inl ()) else (Sum.inr 0)))
def f_X10_isWord (G : mG) (x : Int) (y : Int) : Int := (fnl (fe (g_X10_isWord_2 G x y) () 8) (fun s1 => (if 8 ≤ ((8 : Nat) : Int) then 1 else 1)))
theorem sp_X10_isWord {D : Nat → Bool} {d : Nat} {G : mG} {x : Int} {y : Int} {Q : Option mV → mG → Prop} (hx : 0 ≤ x ∧ x ≤ 152) (h : Q (some (mI (f_X10_isWord G x y))) G) : P2 D (d + 5) M_X10_isWord [mR 25, mI x, mI y] G Q := by
  unfold f_X10_isWord at h
  refine p2_vc [2, 52] 400 oo_X10 q_X10_isWord (by decide) rfl (Nat.le_of_ble_eq_true rfl) ?_
  refine (show W2 o_X10 M_X10_isWord D (d + 5) Q 2 [some (mR 25), some (mI x), some (mI y), some (mI ((0 : Nat) : Int)), none] [] G from ?_)
  refine lupF (g_X10_isWord_2 G x y) () (fun j1 s1 => W2 o_X10 M_X10_isWord D (d + 5) Q 2 [some (mR 25), some (mI x), some (mI y), some (mI ((j1 : Nat) : Int)), none] [] G) (fun r => Q (some (mI r)) G) (fun _ _ => True) 8 ⟨trivial, fun _ _ _ _ _ _ => trivial⟩ (fun j1 s1 hj1 hI1 ih1 => ?_) ?_
  · have ih1 : sk (fun z => W2 o_X10 M_X10_isWord D (d + 5) Q 2 [some (mR 25), some (mI x), some (mI y), some (mI ((j1 + 1 : Nat) : Int)), none] [] G) (fun r => Q (some (mI r)) G) (g_X10_isWord_2 G x y j1 s1) := ih1
    unfold g_X10_isWord_2 at ih1
    refine w2_vc [2, 52] 400 oo_X10 q_X10_isWord ?_
    refine ⟨fun (c1 : 8 ≤ ((j1 : Nat) : Int)) => ?_, fun (c1 : ((j1 : Nat) : Int) < 8) => ?_⟩
    · skip
      exfalso; first | omega | (rw [w32_i (by omega) (by omega)] at c1; omega) | (simp (disch := omega) only [w32_i] at *; omega)
    · skip
      refine sp_J0_length_8abf5  ?_
      refine ⟨fun (c3 : 160 ≤ (w32 (x + ((j1 : Nat) : Int)))) => ?_, fun (c3 : (w32 (x + ((j1 : Nat) : Int))) < 160) => ?_⟩
      · skip
        exfalso; first | omega | (rw [w32_i (by omega) (by omega)] at c3; omega) | (simp (disch := omega) only [w32_i] at *; omega)
      · skip
        refine ⟨fun (c4 : y ≤ ((j1 : Nat) : Int)) => ?_, fun (c4 : ((j1 : Nat) : Int) < y) => ?_⟩
        · rw [if_pos c4] at ih1
          refine sp_J0_charAt_5068e (by first | omega | (simp (disch := omega) only [w32_i]; omega)) ?_
          refine (show W2 o_X10 M_X10_isWord D (d + 5) Q 52 [some (mR 25), some (mI x), some (mI y), some (mI ((j1 : Nat) : Int)), some (mI 32)] [mI (f_J0_charAt_5068e G (w32 (x + ((j1 : Nat) : Int))))] G from ?_)
          refine w2_vc [2, 52] 400 oo_X10 q_X10_isWord ?_
          refine ⟨fun (c6 : (f_J0_charAt_5068e G (w32 (x + ((j1 : Nat) : Int)))) = 32) => ?_, fun (c6 : ¬ (f_J0_charAt_5068e G (w32 (x + ((j1 : Nat) : Int)))) = 32) => ?_⟩
          · rw [if_pos c6] at ih1
            refine (show W2 o_X10 M_X10_isWord D (d + 5) Q 2 [some (mR 25), some (mI x), some (mI y), some (mI (w32 (((j1 : Nat) : Int) + 1))), some (mI 32)] [] G from ?_)
            refine WP.fg (L' := [some (mR 25), some (mI x), some (mI y), some (mI (w32 (((j1 : Nat) : Int) + 1))), none]) ⟨rfl, rfl, rfl, rfl, trivial⟩ ?_
            rw [w32_nat (by omega)]
            exact ih1
          · rw [if_neg (c6)] at ih1
            exact ⟨by omega, ih1⟩
        · rw [if_neg (Int.not_le.mpr c4)] at ih1
          refine sp_X9_byteAt  ?_
          refine sp_J0_charAt_5068e (by first | omega | (simp (disch := omega) only [w32_i]; omega)) ?_
          refine (show W2 o_X10 M_X10_isWord D (d + 5) Q 52 [some (mR 25), some (mI x), some (mI y), some (mI ((j1 : Nat) : Int)), some (mI (f_X9_byteAt G (w32 ((G 20 3) + ((j1 : Nat) : Int)))))] [mI (f_J0_charAt_5068e G (w32 (x + ((j1 : Nat) : Int))))] G from ?_)
          refine w2_vc [2, 52] 400 oo_X10 q_X10_isWord ?_
          refine ⟨fun (c9 : (f_J0_charAt_5068e G (w32 (x + ((j1 : Nat) : Int)))) = (f_X9_byteAt G (w32 ((G 20 3) + ((j1 : Nat) : Int))))) => ?_, fun (c9 : ¬ (f_J0_charAt_5068e G (w32 (x + ((j1 : Nat) : Int)))) = (f_X9_byteAt G (w32 ((G 20 3) + ((j1 : Nat) : Int))))) => ?_⟩
          · rw [if_pos c9] at ih1
            refine (show W2 o_X10 M_X10_isWord D (d + 5) Q 2 [some (mR 25), some (mI x), some (mI y), some (mI (w32 (((j1 : Nat) : Int) + 1))), some (mI (f_X9_byteAt G (w32 ((G 20 3) + ((j1 : Nat) : Int)))))] [] G from ?_)
            refine WP.fg (L' := [some (mR 25), some (mI x), some (mI y), some (mI (w32 (((j1 : Nat) : Int) + 1))), none]) ⟨rfl, rfl, rfl, rfl, trivial⟩ ?_
            rw [w32_nat (by omega)]
            exact ih1
          · rw [if_neg (c9)] at ih1
            exact ⟨by omega, ih1⟩
  · intro hI1
    generalize (fe (g_X10_isWord_2 G x y) () 8) = z at h hI1 ⊢
    cases z with
    | inr r => exact h
    | inl s1 =>
      have h : Q (some (mI (if 8 ≤ ((8 : Nat) : Int) then 1 else 1))) G := h
      refine (show W2 o_X10 M_X10_isWord D (d + 5) Q 2 [some (mR 25), some (mI x), some (mI y), some (mI ((8 : Nat) : Int)), none] [] G from ?_)
      refine w2_vc [2, 52] 400 oo_X10 q_X10_isWord ?_
      refine ⟨fun (c10 : 8 ≤ ((8 : Nat) : Int)) => ?_, fun (c10 : ((8 : Nat) : Int) < 8) => ?_⟩
      · rw [if_pos c10] at h
        exact ⟨by omega, h⟩
      · rw [if_neg (Int.not_le.mpr c10)] at h
        refine sp_J0_length_8abf5  ?_
        refine ⟨fun (c12 : 160 ≤ (w32 (x + ((8 : Nat) : Int)))) => ?_, fun (c12 : (w32 (x + ((8 : Nat) : Int))) < 160) => ?_⟩
        · skip
          exact ⟨by omega, h⟩
        · skip
          exfalso; first | omega | (rw [w32_i (by omega) (by omega)] at c12; omega) | (simp (disch := omega) only [w32_i] at *; omega)
def g_X10_kindOfWord_2 (G : mG) (y : Int) : Nat → Unit → (Unit ⊕ (Int)) := fun j1 s1 => (if (f_X10_isWord G (8 * ((j1 : Nat) : Int)) y) = 0 then (Sum.inl ()) else (Sum.inr (w32 (14 + (mDiv (8 * ((j1 : Nat) : Int)) 8)))))
def f_X10_kindOfWord (G : mG) (y : Int) : Int := (fnl (fe (g_X10_kindOfWord_2 G y) () 20) (fun s1 => 2))
theorem sp_X10_kindOfWord {D : Nat → Bool} {d : Nat} {G : mG} {y : Int} {Q : Option mV → mG → Prop} (h : Q (some (mI (f_X10_kindOfWord G y))) G) : P2 D (d + 6) M_X10_kindOfWord [mR 25, mI y] G Q := by
  unfold f_X10_kindOfWord at h
  refine p2_vc [2] 400 oo_X10 q_X10_kindOfWord (by decide) rfl (Nat.le_of_ble_eq_true rfl) ?_
  refine (show W2 o_X10 M_X10_kindOfWord D (d + 6) Q 2 [some (mR 25), some (mI y), some (mI (8 * ((0 : Nat) : Int)))] [] G from ?_)
  refine lupF (g_X10_kindOfWord_2 G y) () (fun j1 s1 => W2 o_X10 M_X10_kindOfWord D (d + 6) Q 2 [some (mR 25), some (mI y), some (mI (8 * ((j1 : Nat) : Int)))] [] G) (fun r => Q (some (mI r)) G) (fun _ _ => True) 20 ⟨trivial, fun _ _ _ _ _ _ => trivial⟩ (fun j1 s1 hj1 hI1 ih1 => ?_) ?_
  · have ih1 : sk (fun z => W2 o_X10 M_X10_kindOfWord D (d + 6) Q 2 [some (mR 25), some (mI y), some (mI (8 * ((j1 + 1 : Nat) : Int)))] [] G) (fun r => Q (some (mI r)) G) (g_X10_kindOfWord_2 G y j1 s1) := ih1
    unfold g_X10_kindOfWord_2 at ih1
    refine w2_vc [2] 400 oo_X10 q_X10_kindOfWord ?_
    refine sp_J0_length_8abf5  ?_
    refine ⟨fun (c2 : 160 < (w32 ((8 * ((j1 : Nat) : Int)) + 8))) => ?_, fun (c2 : (w32 ((8 * ((j1 : Nat) : Int)) + 8)) ≤ 160) => ?_⟩
    · skip
      exfalso; first | omega | (rw [w32_i (by omega) (by omega)] at c2; omega) | (simp (disch := omega) only [w32_i] at *; omega)
    · skip
      refine sp_X10_isWord (by omega) ?_
      refine ⟨fun (c4 : (f_X10_isWord G (8 * ((j1 : Nat) : Int)) y) = 0) => ?_, fun (c4 : ¬ (f_X10_isWord G (8 * ((j1 : Nat) : Int)) y) = 0) => ?_⟩
      · rw [if_pos c4] at ih1
        refine (show W2 o_X10 M_X10_kindOfWord D (d + 6) Q 2 [some (mR 25), some (mI y), some (mI (w32 ((8 * ((j1 : Nat) : Int)) + 8)))] [] G from ?_)
        rw [show w32 (8 * ((j1 : Nat) : Int) + 8) = 8 * ((j1 + 1 : Nat) : Int) from by rw [w32_i (by omega) (by omega)]; omega]
        exact ih1
      · rw [if_neg (c4)] at ih1
        refine ⟨(show ¬ (8 : Int) = 0 from by omega), ?_⟩
        exact ih1
  · intro hI1
    generalize (fe (g_X10_kindOfWord_2 G y) () 20) = z at h hI1 ⊢
    cases z with
    | inr r => exact h
    | inl s1 =>
      have h : Q (some (mI 2)) G := h
      refine (show W2 o_X10 M_X10_kindOfWord D (d + 6) Q 2 [some (mR 25), some (mI y), some (mI (8 * ((20 : Nat) : Int)))] [] G from ?_)
      refine w2_vc [2] 400 oo_X10 q_X10_kindOfWord ?_
      refine sp_J0_length_8abf5  ?_
      refine ⟨fun (c6 : 160 < (w32 ((8 * ((20 : Nat) : Int)) + 8))) => ?_, fun (c6 : (w32 ((8 * ((20 : Nat) : Int)) + 8)) ≤ 160) => ?_⟩
      · skip
        exact h
      · skip
        exfalso; first | omega | (rw [w32_i (by omega) (by omega)] at c6; omega) | (simp (disch := omega) only [w32_i] at *; omega)
def g_X10_scanWord_9 (G : mG) : Nat → (Int × mG) → ((Int × mG) ⊕ (Int × mG)) := fun j1 s1 => (if 8 < ((j1 : Nat) : Int) then (Sum.inr (s1.1, s1.2)) else (if (f_X10_isLetter s1.2 (f_X9_byteAt s1.2 (s1.2 20 1))) = 0 then (Sum.inr (s1.1, s1.2)) else (Sum.inl ((w32 (s1.1 + 1)), (gs (gs s1.2 20 5 (w64 ((w64 ((s1.2 20 5) * 27)) + (w32 ((w32 ((f_X9_byteAt s1.2 (s1.2 20 1)) - 97)) + 1))))) 20 1 (w32 ((s1.2 20 1) + 1)))))))
def e_X10_scanWord (G : mG) : mG := (if (brk (fe (g_X10_scanWord_9 G) (0, (gs G 20 5 0)) 9)).1 ≤ 8 then (gs (brk (fe (g_X10_scanWord_9 G) (0, (gs G 20 5 0)) 9)).2 20 2 (f_X10_kindOfWord (brk (fe (g_X10_scanWord_9 G) (0, (gs G 20 5 0)) 9)).2 (brk (fe (g_X10_scanWord_9 G) (0, (gs G 20 5 0)) 9)).1)) else (gs (brk (fe (g_X10_scanWord_9 G) (0, (gs G 20 5 0)) 9)).2 20 2 0))
theorem fr_g_X10_scanWord_9 (G : mG) {k : Nat} (hk : ∀ a ∈ ([20] : List Nat), k ≠ a) (j : Nat) (s z : Int × mG) (h : g_X10_scanWord_9 G j s = Sum.inl z) : z.2 k = s.2 k := by
  unfold g_X10_scanWord_9 at h
  revert h
  repeat' with_reducible apply ite_s
  all_goals intro h
  all_goals first | (cases h; done) | (injection h with h; subst h; first | (simp only [gs_ne (hk (20) (by simp))]; done) | rfl)
theorem fr2_g_X10_scanWord_9 (G : mG) {k : Nat} (hk : ∀ a ∈ ([20] : List Nat), k ≠ a) (j : Nat) (s : Int × mG) (z : (Int × mG)) (h : g_X10_scanWord_9 G j s = Sum.inr z) : z.2 k = s.2 k := by
  unfold g_X10_scanWord_9 at h
  revert h
  repeat' with_reducible apply ite_s
  all_goals intro h
  all_goals first | (cases h; done) | (injection h with h; subst h; first | (simp only [gs_ne (hk (20) (by simp))]; done) | rfl)
theorem frp_g_X10_scanWord_9_20 (G : mG) {i : Nat} (hj : ∀ a ∈ ([1, 2, 5] : List Nat), i ≠ a) (j : Nat) (s z : Int × mG) (h : g_X10_scanWord_9 G j s = Sum.inl z) : z.2 20 i = s.2 20 i := by
  unfold g_X10_scanWord_9 at h
  revert h
  repeat' with_reducible apply ite_s
  all_goals intro h
  all_goals first | (cases h; done) | (injection h with h; subst h; first | (simp only [gs_at_ne (hj 1 (by simp)), gs_at_ne (hj 2 (by simp)), gs_at_ne (hj 5 (by simp))]; done) | rfl)
theorem frp2_g_X10_scanWord_9_20 (G : mG) {i : Nat} (hj : ∀ a ∈ ([1, 2, 5] : List Nat), i ≠ a) (j : Nat) (s : Int × mG) (z : (Int × mG)) (h : g_X10_scanWord_9 G j s = Sum.inr z) : z.2 20 i = s.2 20 i := by
  unfold g_X10_scanWord_9 at h
  revert h
  repeat' with_reducible apply ite_s
  all_goals intro h
  all_goals first | (cases h; done) | (injection h with h; subst h; first | (simp only [gs_at_ne (hj 1 (by simp)), gs_at_ne (hj 2 (by simp)), gs_at_ne (hj 5 (by simp))]; done) | rfl)
theorem frp_X10_scanWord_20 {G : mG} {i : Nat} (hj : ∀ a ∈ ([1, 2, 5] : List Nat), i ≠ a) : (e_X10_scanWord G ) 20 i = G 20 i := by
  unfold e_X10_scanWord
  repeat' with_reducible first | apply ite_f | apply ite_f2 | apply ite_p | apply ite_p2
  all_goals first | (simp only [gs_at_ne (hj 1 (by simp)), gs_at_ne (hj 2 (by simp)), gs_at_ne (hj 5 (by simp)), brk_frp2 (frp_g_X10_scanWord_9_20 _ hj) (frp2_g_X10_scanWord_9_20 _ hj)]; done) | rfl
theorem fr_X10_scanWord {G : mG} {k : Nat} (hk : ∀ a ∈ ([20] : List Nat), k ≠ a) : (e_X10_scanWord G ) k = G k := by
  unfold e_X10_scanWord
  repeat' with_reducible first | apply ite_f | apply ite_f2 | apply ite_p | apply ite_p2
  all_goals first | (simp only [gs_ne (hk (20) (by simp)), brk_fr2 (fr_g_X10_scanWord_9 _ hk) (fr2_g_X10_scanWord_9 _ hk)]; done) | rfl
theorem sp_X10_scanWord {D : Nat → Bool} {d : Nat} {G : mG} {Q : Option mV → mG → Prop} (hD : ∀ k, D k = false → inN [20] k = false) (h : Q none (e_X10_scanWord G )) : P2 D (d + 7) M_X10_scanWord [mR 25] G Q := by
  unfold e_X10_scanWord at h
  refine MP.to (D2 := inN [20]) (Q2 := Q) ?_ hD (fun v G' q _ => q)
  refine p2_vc [7, 9, 62, 72, 81, 100] 400 oo_X10 q_X10_scanWord (by decide) rfl (Nat.le_of_ble_eq_true rfl) ?_
  refine (show W2 o_X10 M_X10_scanWord (inN [20]) (d + 7) Q 7 [some (mR 25), some (mI 0), none] [] (gs G 20 5 0) from ?_)
  refine w2_vc [7, 9, 62, 72, 81, 100] 400 oo_X10 q_X10_scanWord ?_
  refine (show W2 o_X10 M_X10_scanWord (inN [20]) (d + 7) Q 9 [some (mR 25), some (mI 0), some (mI ((0 : Nat) : Int))] [] (gs G 20 5 0) from ?_)
  refine lupB (g_X10_scanWord_9 G) (0, (gs G 20 5 0)) (fun j1 s1 => W2 o_X10 M_X10_scanWord (inN [20]) (d + 7) Q 9 [some (mR 25), some (mI s1.1), some (mI ((j1 : Nat) : Int))] [] s1.2) (fun s1 => W2 o_X10 M_X10_scanWord (inN [20]) (d + 7) Q 81 [some (mR 25), some (mI s1.1), none] [] s1.2) (fun _ _ => True) 9 ⟨trivial, fun _ _ _ _ _ _ => trivial⟩ (fun j1 s1 hj1 hI1 ih1 => ?_) (fun s1 _ ih1 => ?_) ?_
  · have ih1 : sk (fun z => W2 o_X10 M_X10_scanWord (inN [20]) (d + 7) Q 9 [some (mR 25), some (mI z.1), some (mI ((j1 + 1 : Nat) : Int))] [] z.2) (fun r => W2 o_X10 M_X10_scanWord (inN [20]) (d + 7) Q 81 [some (mR 25), some (mI r.1), none] [] r.2) (g_X10_scanWord_9 G j1 s1) := ih1
    unfold g_X10_scanWord_9 at ih1
    refine w2_vc [7, 9, 62, 72, 81, 100] 400 oo_X10 q_X10_scanWord ?_
    refine ⟨fun (c1 : 8 < ((j1 : Nat) : Int)) => ?_, fun (c1 : ((j1 : Nat) : Int) ≤ 8) => ?_⟩
    · rw [if_pos c1] at ih1
      refine (show W2 o_X10 M_X10_scanWord (inN [20]) (d + 7) Q 81 [some (mR 25), some (mI s1.1), some (mI ((j1 : Nat) : Int))] [] s1.2 from ?_)
      refine WP.fg (L' := [some (mR 25), some (mI s1.1), none]) ⟨rfl, rfl, trivial⟩ ?_
      exact ih1
    · rw [if_neg (Int.not_lt.mpr c1)] at ih1
      refine sp_X9_byteAt  ?_
      refine sp_X10_isLetter  ?_
      refine ⟨fun (c4 : (f_X10_isLetter s1.2 (f_X9_byteAt s1.2 (s1.2 20 1))) = 0) => ?_, fun (c4 : ¬ (f_X10_isLetter s1.2 (f_X9_byteAt s1.2 (s1.2 20 1))) = 0) => ?_⟩
      · rw [if_pos c4] at ih1
        refine (show W2 o_X10 M_X10_scanWord (inN [20]) (d + 7) Q 81 [some (mR 25), some (mI s1.1), some (mI ((j1 : Nat) : Int))] [] s1.2 from ?_)
        refine WP.fg (L' := [some (mR 25), some (mI s1.1), none]) ⟨rfl, rfl, trivial⟩ ?_
        exact ih1
      · rw [if_neg (c4)] at ih1
        refine sp_X9_byteAt  ?_
        refine (show W2 o_X10 M_X10_scanWord (inN [20]) (d + 7) Q 62 [some (mR 25), some (mI s1.1), some (mI ((j1 : Nat) : Int))] [] (gs s1.2 20 5 (w64 ((w64 ((s1.2 20 5) * 27)) + (w32 ((w32 ((f_X9_byteAt s1.2 (s1.2 20 1)) - 97)) + 1))))) from ?_)
        refine w2_vc [7, 9, 62, 72, 81, 100] 400 oo_X10 q_X10_scanWord ?_
        refine (show W2 o_X10 M_X10_scanWord (inN [20]) (d + 7) Q 72 [some (mR 25), some (mI s1.1), some (mI ((j1 : Nat) : Int))] [] (gs (gs s1.2 20 5 (w64 ((w64 ((s1.2 20 5) * 27)) + (w32 ((w32 ((f_X9_byteAt s1.2 (s1.2 20 1)) - 97)) + 1))))) 20 1 (w32 ((s1.2 20 1) + 1))) from ?_)
        refine w2_vc [7, 9, 62, 72, 81, 100] 400 oo_X10 q_X10_scanWord ?_
        refine (show W2 o_X10 M_X10_scanWord (inN [20]) (d + 7) Q 9 [some (mR 25), some (mI (w32 (s1.1 + 1))), some (mI (w32 (((j1 : Nat) : Int) + 1)))] [] (gs (gs s1.2 20 5 (w64 ((w64 ((s1.2 20 5) * 27)) + (w32 ((w32 ((f_X9_byteAt s1.2 (s1.2 20 1)) - 97)) + 1))))) 20 1 (w32 ((s1.2 20 1) + 1))) from ?_)
        rw [w32_nat (by omega)]
        exact ih1
  · skip
    have ih1 : W2 o_X10 M_X10_scanWord (inN [20]) (d + 7) Q 81 [some (mR 25), some (mI s1.1), none] [] s1.2 := ih1
    refine (show W2 o_X10 M_X10_scanWord (inN [20]) (d + 7) Q 9 [some (mR 25), some (mI s1.1), some (mI ((9 : Nat) : Int))] [] s1.2 from ?_)
    refine w2_vc [7, 9, 62, 72, 81, 100] 400 oo_X10 q_X10_scanWord ?_
    refine ⟨fun (c6 : 8 < ((9 : Nat) : Int)) => ?_, fun (c6 : ((9 : Nat) : Int) ≤ 8) => ?_⟩
    · skip
      refine (show W2 o_X10 M_X10_scanWord (inN [20]) (d + 7) Q 81 [some (mR 25), some (mI s1.1), some (mI ((9 : Nat) : Int))] [] s1.2 from ?_)
      refine WP.fg (L' := [some (mR 25), some (mI s1.1), none]) ⟨rfl, rfl, trivial⟩ ?_
      exact ih1
    · skip
      refine sp_X9_byteAt  ?_
      refine sp_X10_isLetter  ?_
      refine ⟨fun (c9 : (f_X10_isLetter s1.2 (f_X9_byteAt s1.2 (s1.2 20 1))) = 0) => ?_, fun (c9 : ¬ (f_X10_isLetter s1.2 (f_X9_byteAt s1.2 (s1.2 20 1))) = 0) => ?_⟩
      · skip
        refine (show W2 o_X10 M_X10_scanWord (inN [20]) (d + 7) Q 81 [some (mR 25), some (mI s1.1), some (mI ((9 : Nat) : Int))] [] s1.2 from ?_)
        refine WP.fg (L' := [some (mR 25), some (mI s1.1), none]) ⟨rfl, rfl, trivial⟩ ?_
        exact ih1
      · skip
        exfalso; first | omega | (rw [w32_i (by omega) (by omega)] at c9; omega) | (simp (disch := omega) only [w32_i] at *; omega)
  · skip
    refine (show W2 o_X10 M_X10_scanWord (inN [20]) (d + 7) Q 81 [some (mR 25), some (mI (brk (fe (g_X10_scanWord_9 G) (0, (gs G 20 5 0)) 9)).1), none] [] (brk (fe (g_X10_scanWord_9 G) (0, (gs G 20 5 0)) 9)).2 from ?_)
    refine w2_vc [7, 9, 62, 72, 81, 100] 400 oo_X10 q_X10_scanWord ?_
    refine ⟨fun (c10 : (brk (fe (g_X10_scanWord_9 G) (0, (gs G 20 5 0)) 9)).1 ≤ 8) => ?_, fun (c10 : 8 < (brk (fe (g_X10_scanWord_9 G) (0, (gs G 20 5 0)) 9)).1) => ?_⟩
    · rw [if_pos c10] at h
      refine sp_X10_kindOfWord  ?_
      refine (show W2 o_X10 M_X10_scanWord (inN [20]) (d + 7) Q 100 [some (mR 25), some (mI (brk (fe (g_X10_scanWord_9 G) (0, (gs G 20 5 0)) 9)).1), none] [] (gs (brk (fe (g_X10_scanWord_9 G) (0, (gs G 20 5 0)) 9)).2 20 2 (f_X10_kindOfWord (brk (fe (g_X10_scanWord_9 G) (0, (gs G 20 5 0)) 9)).2 (brk (fe (g_X10_scanWord_9 G) (0, (gs G 20 5 0)) 9)).1)) from ?_)
      refine w2_vc [7, 9, 62, 72, 81, 100] 400 oo_X10 q_X10_scanWord ?_
      exact h
    · rw [if_neg (Int.not_le.mpr c10)] at h
      refine (show W2 o_X10 M_X10_scanWord (inN [20]) (d + 7) Q 100 [some (mR 25), some (mI (brk (fe (g_X10_scanWord_9 G) (0, (gs G 20 5 0)) 9)).1), none] [] (gs (brk (fe (g_X10_scanWord_9 G) (0, (gs G 20 5 0)) 9)).2 20 2 0) from ?_)
      refine w2_vc [7, 9, 62, 72, 81, 100] 400 oo_X10 q_X10_scanWord ?_
      exact h
def g_X10_scanInt_9 (G : mG) : Nat → (Int × mG) → ((Int × mG) ⊕ (Int × mG)) := fun j1 s1 => (if 4 < ((j1 : Nat) : Int) then (Sum.inr (s1.1, s1.2)) else (if (f_X10_isDigit s1.2 (f_X9_byteAt s1.2 (s1.2 20 1))) = 0 then (Sum.inr (s1.1, s1.2)) else (Sum.inl ((w32 (s1.1 + 1)), (gs (gs s1.2 20 4 (w32 ((w32 ((s1.2 20 4) * 10)) + (w32 ((f_X9_byteAt s1.2 (s1.2 20 1)) - 48))))) 20 1 (w32 ((s1.2 20 1) + 1)))))))
def e_X10_scanInt (G : mG) : mG := (if (brk (fe (g_X10_scanInt_9 G) (0, (gs G 20 4 0)) 5)).1 ≤ 4 then (gs (brk (fe (g_X10_scanInt_9 G) (0, (gs G 20 4 0)) 5)).2 20 2 3) else (gs (brk (fe (g_X10_scanInt_9 G) (0, (gs G 20 4 0)) 5)).2 20 2 0))
theorem fr_g_X10_scanInt_9 (G : mG) {k : Nat} (hk : ∀ a ∈ ([20] : List Nat), k ≠ a) (j : Nat) (s z : Int × mG) (h : g_X10_scanInt_9 G j s = Sum.inl z) : z.2 k = s.2 k := by
  unfold g_X10_scanInt_9 at h
  revert h
  repeat' with_reducible apply ite_s
  all_goals intro h
  all_goals first | (cases h; done) | (injection h with h; subst h; first | (simp only [gs_ne (hk (20) (by simp))]; done) | rfl)
theorem fr2_g_X10_scanInt_9 (G : mG) {k : Nat} (hk : ∀ a ∈ ([20] : List Nat), k ≠ a) (j : Nat) (s : Int × mG) (z : (Int × mG)) (h : g_X10_scanInt_9 G j s = Sum.inr z) : z.2 k = s.2 k := by
  unfold g_X10_scanInt_9 at h
  revert h
  repeat' with_reducible apply ite_s
  all_goals intro h
  all_goals first | (cases h; done) | (injection h with h; subst h; first | (simp only [gs_ne (hk (20) (by simp))]; done) | rfl)
theorem frp_g_X10_scanInt_9_20 (G : mG) {i : Nat} (hj : ∀ a ∈ ([1, 2, 4] : List Nat), i ≠ a) (j : Nat) (s z : Int × mG) (h : g_X10_scanInt_9 G j s = Sum.inl z) : z.2 20 i = s.2 20 i := by
  unfold g_X10_scanInt_9 at h
  revert h
  repeat' with_reducible apply ite_s
  all_goals intro h
  all_goals first | (cases h; done) | (injection h with h; subst h; first | (simp only [gs_at_ne (hj 1 (by simp)), gs_at_ne (hj 2 (by simp)), gs_at_ne (hj 4 (by simp))]; done) | rfl)
theorem frp2_g_X10_scanInt_9_20 (G : mG) {i : Nat} (hj : ∀ a ∈ ([1, 2, 4] : List Nat), i ≠ a) (j : Nat) (s : Int × mG) (z : (Int × mG)) (h : g_X10_scanInt_9 G j s = Sum.inr z) : z.2 20 i = s.2 20 i := by
  unfold g_X10_scanInt_9 at h
  revert h
  repeat' with_reducible apply ite_s
  all_goals intro h
  all_goals first | (cases h; done) | (injection h with h; subst h; first | (simp only [gs_at_ne (hj 1 (by simp)), gs_at_ne (hj 2 (by simp)), gs_at_ne (hj 4 (by simp))]; done) | rfl)
theorem frp_X10_scanInt_20 {G : mG} {i : Nat} (hj : ∀ a ∈ ([1, 2, 4] : List Nat), i ≠ a) : (e_X10_scanInt G ) 20 i = G 20 i := by
  unfold e_X10_scanInt
  repeat' with_reducible first | apply ite_f | apply ite_f2 | apply ite_p | apply ite_p2
  all_goals first | (simp only [gs_at_ne (hj 1 (by simp)), gs_at_ne (hj 2 (by simp)), gs_at_ne (hj 4 (by simp)), brk_frp2 (frp_g_X10_scanInt_9_20 _ hj) (frp2_g_X10_scanInt_9_20 _ hj)]; done) | rfl
theorem fr_X10_scanInt {G : mG} {k : Nat} (hk : ∀ a ∈ ([20] : List Nat), k ≠ a) : (e_X10_scanInt G ) k = G k := by
  unfold e_X10_scanInt
  repeat' with_reducible first | apply ite_f | apply ite_f2 | apply ite_p | apply ite_p2
  all_goals first | (simp only [gs_ne (hk (20) (by simp)), brk_fr2 (fr_g_X10_scanInt_9 _ hk) (fr2_g_X10_scanInt_9 _ hk)]; done) | rfl
theorem sp_X10_scanInt {D : Nat → Bool} {d : Nat} {G : mG} {Q : Option mV → mG → Prop} (hD : ∀ k, D k = false → inN [20] k = false) (h : Q none (e_X10_scanInt G )) : P2 D (d + 2) M_X10_scanInt [mR 25] G Q := by
  unfold e_X10_scanInt at h
  refine MP.to (D2 := inN [20]) (Q2 := Q) ?_ hD (fun v G' q _ => q)
  refine p2_vc [7, 9, 57, 67, 76, 90] 400 oo_X10 q_X10_scanInt (by decide) rfl (Nat.le_of_ble_eq_true rfl) ?_
  refine (show W2 o_X10 M_X10_scanInt (inN [20]) (d + 2) Q 7 [some (mR 25), some (mI 0), none] [] (gs G 20 4 0) from ?_)
  refine w2_vc [7, 9, 57, 67, 76, 90] 400 oo_X10 q_X10_scanInt ?_
  refine (show W2 o_X10 M_X10_scanInt (inN [20]) (d + 2) Q 9 [some (mR 25), some (mI 0), some (mI ((0 : Nat) : Int))] [] (gs G 20 4 0) from ?_)
  refine lupB (g_X10_scanInt_9 G) (0, (gs G 20 4 0)) (fun j1 s1 => W2 o_X10 M_X10_scanInt (inN [20]) (d + 2) Q 9 [some (mR 25), some (mI s1.1), some (mI ((j1 : Nat) : Int))] [] s1.2) (fun s1 => W2 o_X10 M_X10_scanInt (inN [20]) (d + 2) Q 76 [some (mR 25), some (mI s1.1), none] [] s1.2) (fun _ _ => True) 5 ⟨trivial, fun _ _ _ _ _ _ => trivial⟩ (fun j1 s1 hj1 hI1 ih1 => ?_) (fun s1 _ ih1 => ?_) ?_
  · have ih1 : sk (fun z => W2 o_X10 M_X10_scanInt (inN [20]) (d + 2) Q 9 [some (mR 25), some (mI z.1), some (mI ((j1 + 1 : Nat) : Int))] [] z.2) (fun r => W2 o_X10 M_X10_scanInt (inN [20]) (d + 2) Q 76 [some (mR 25), some (mI r.1), none] [] r.2) (g_X10_scanInt_9 G j1 s1) := ih1
    unfold g_X10_scanInt_9 at ih1
    refine w2_vc [7, 9, 57, 67, 76, 90] 400 oo_X10 q_X10_scanInt ?_
    refine ⟨fun (c1 : 4 < ((j1 : Nat) : Int)) => ?_, fun (c1 : ((j1 : Nat) : Int) ≤ 4) => ?_⟩
    · rw [if_pos c1] at ih1
      refine (show W2 o_X10 M_X10_scanInt (inN [20]) (d + 2) Q 76 [some (mR 25), some (mI s1.1), some (mI ((j1 : Nat) : Int))] [] s1.2 from ?_)
      refine WP.fg (L' := [some (mR 25), some (mI s1.1), none]) ⟨rfl, rfl, trivial⟩ ?_
      exact ih1
    · rw [if_neg (Int.not_lt.mpr c1)] at ih1
      refine sp_X9_byteAt  ?_
      refine sp_X10_isDigit  ?_
      refine ⟨fun (c4 : (f_X10_isDigit s1.2 (f_X9_byteAt s1.2 (s1.2 20 1))) = 0) => ?_, fun (c4 : ¬ (f_X10_isDigit s1.2 (f_X9_byteAt s1.2 (s1.2 20 1))) = 0) => ?_⟩
      · rw [if_pos c4] at ih1
        refine (show W2 o_X10 M_X10_scanInt (inN [20]) (d + 2) Q 76 [some (mR 25), some (mI s1.1), some (mI ((j1 : Nat) : Int))] [] s1.2 from ?_)
        refine WP.fg (L' := [some (mR 25), some (mI s1.1), none]) ⟨rfl, rfl, trivial⟩ ?_
        exact ih1
      · rw [if_neg (c4)] at ih1
        refine sp_X9_byteAt  ?_
        refine (show W2 o_X10 M_X10_scanInt (inN [20]) (d + 2) Q 57 [some (mR 25), some (mI s1.1), some (mI ((j1 : Nat) : Int))] [] (gs s1.2 20 4 (w32 ((w32 ((s1.2 20 4) * 10)) + (w32 ((f_X9_byteAt s1.2 (s1.2 20 1)) - 48))))) from ?_)
        refine w2_vc [7, 9, 57, 67, 76, 90] 400 oo_X10 q_X10_scanInt ?_
        refine (show W2 o_X10 M_X10_scanInt (inN [20]) (d + 2) Q 67 [some (mR 25), some (mI s1.1), some (mI ((j1 : Nat) : Int))] [] (gs (gs s1.2 20 4 (w32 ((w32 ((s1.2 20 4) * 10)) + (w32 ((f_X9_byteAt s1.2 (s1.2 20 1)) - 48))))) 20 1 (w32 ((s1.2 20 1) + 1))) from ?_)
        refine w2_vc [7, 9, 57, 67, 76, 90] 400 oo_X10 q_X10_scanInt ?_
        refine (show W2 o_X10 M_X10_scanInt (inN [20]) (d + 2) Q 9 [some (mR 25), some (mI (w32 (s1.1 + 1))), some (mI (w32 (((j1 : Nat) : Int) + 1)))] [] (gs (gs s1.2 20 4 (w32 ((w32 ((s1.2 20 4) * 10)) + (w32 ((f_X9_byteAt s1.2 (s1.2 20 1)) - 48))))) 20 1 (w32 ((s1.2 20 1) + 1))) from ?_)
        rw [w32_nat (by omega)]
        exact ih1
  · skip
    have ih1 : W2 o_X10 M_X10_scanInt (inN [20]) (d + 2) Q 76 [some (mR 25), some (mI s1.1), none] [] s1.2 := ih1
    refine (show W2 o_X10 M_X10_scanInt (inN [20]) (d + 2) Q 9 [some (mR 25), some (mI s1.1), some (mI ((5 : Nat) : Int))] [] s1.2 from ?_)
    refine w2_vc [7, 9, 57, 67, 76, 90] 400 oo_X10 q_X10_scanInt ?_
    refine ⟨fun (c6 : 4 < ((5 : Nat) : Int)) => ?_, fun (c6 : ((5 : Nat) : Int) ≤ 4) => ?_⟩
    · skip
      refine (show W2 o_X10 M_X10_scanInt (inN [20]) (d + 2) Q 76 [some (mR 25), some (mI s1.1), some (mI ((5 : Nat) : Int))] [] s1.2 from ?_)
      refine WP.fg (L' := [some (mR 25), some (mI s1.1), none]) ⟨rfl, rfl, trivial⟩ ?_
      exact ih1
    · skip
      refine sp_X9_byteAt  ?_
      refine sp_X10_isDigit  ?_
      refine ⟨fun (c9 : (f_X10_isDigit s1.2 (f_X9_byteAt s1.2 (s1.2 20 1))) = 0) => ?_, fun (c9 : ¬ (f_X10_isDigit s1.2 (f_X9_byteAt s1.2 (s1.2 20 1))) = 0) => ?_⟩
      · skip
        refine (show W2 o_X10 M_X10_scanInt (inN [20]) (d + 2) Q 76 [some (mR 25), some (mI s1.1), some (mI ((5 : Nat) : Int))] [] s1.2 from ?_)
        refine WP.fg (L' := [some (mR 25), some (mI s1.1), none]) ⟨rfl, rfl, trivial⟩ ?_
        exact ih1
      · skip
        exfalso; first | omega | (rw [w32_i (by omega) (by omega)] at c9; omega) | (simp (disch := omega) only [w32_i] at *; omega)
  · skip
    refine (show W2 o_X10 M_X10_scanInt (inN [20]) (d + 2) Q 76 [some (mR 25), some (mI (brk (fe (g_X10_scanInt_9 G) (0, (gs G 20 4 0)) 5)).1), none] [] (brk (fe (g_X10_scanInt_9 G) (0, (gs G 20 4 0)) 5)).2 from ?_)
    refine w2_vc [7, 9, 57, 67, 76, 90] 400 oo_X10 q_X10_scanInt ?_
    refine ⟨fun (c10 : (brk (fe (g_X10_scanInt_9 G) (0, (gs G 20 4 0)) 5)).1 ≤ 4) => ?_, fun (c10 : 4 < (brk (fe (g_X10_scanInt_9 G) (0, (gs G 20 4 0)) 5)).1) => ?_⟩
    · rw [if_pos c10] at h
      refine (show W2 o_X10 M_X10_scanInt (inN [20]) (d + 2) Q 90 [some (mR 25), some (mI (brk (fe (g_X10_scanInt_9 G) (0, (gs G 20 4 0)) 5)).1), none] [] (gs (brk (fe (g_X10_scanInt_9 G) (0, (gs G 20 4 0)) 5)).2 20 2 3) from ?_)
      refine w2_vc [7, 9, 57, 67, 76, 90] 400 oo_X10 q_X10_scanInt ?_
      exact h
    · rw [if_neg (Int.not_le.mpr c10)] at h
      refine (show W2 o_X10 M_X10_scanInt (inN [20]) (d + 2) Q 90 [some (mR 25), some (mI (brk (fe (g_X10_scanInt_9 G) (0, (gs G 20 4 0)) 5)).1), none] [] (gs (brk (fe (g_X10_scanInt_9 G) (0, (gs G 20 4 0)) 5)).2 20 2 0) from ?_)
      refine w2_vc [7, 9, 57, 67, 76, 90] 400 oo_X10 q_X10_scanInt ?_
      exact h
def f_X10_kindOfSign (G : mG) (x : Int) (y : Int) : Int := (if x = 33 then (if y = 0 then 0 else 11) else (if x = 40 then 5 else (if x = 41 then 6 else (if x = 42 then 9 else (if x = 43 then 7 else (if x = 45 then 8 else (if x = 59 then 4 else (if x = 60 then (if y = 0 then 12 else 13) else (if x = 61 then (if y = 0 then 0 else 10) else 0)))))))))
theorem sp_X10_kindOfSign {D : Nat → Bool} {d : Nat} {G : mG} {x : Int} {y : Int} {Q : Option mV → mG → Prop} (h : Q (some (mI (f_X10_kindOfSign G x y))) G) : P2 D (d + 1) M_X10_kindOfSign [mI x, mI y] G Q := by
  unfold f_X10_kindOfSign at h
  refine p2_vc [] 400 oo_X10 q_X10_kindOfSign (by decide) rfl (Nat.le_of_ble_eq_true rfl) ?_
  refine ⟨fun (c1 : x < 33 ∨ 61 < x) => ?_, fun (c1 : x = 33) => ?_, fun (c1 : x = 34) => ?_, fun (c1 : x = 35) => ?_, fun (c1 : x = 36) => ?_, fun (c1 : x = 37) => ?_, fun (c1 : x = 38) => ?_, fun (c1 : x = 39) => ?_, fun (c1 : x = 40) => ?_, fun (c1 : x = 41) => ?_, fun (c1 : x = 42) => ?_, fun (c1 : x = 43) => ?_, fun (c1 : x = 44) => ?_, fun (c1 : x = 45) => ?_, fun (c1 : x = 46) => ?_, fun (c1 : x = 47) => ?_, fun (c1 : x = 48) => ?_, fun (c1 : x = 49) => ?_, fun (c1 : x = 50) => ?_, fun (c1 : x = 51) => ?_, fun (c1 : x = 52) => ?_, fun (c1 : x = 53) => ?_, fun (c1 : x = 54) => ?_, fun (c1 : x = 55) => ?_, fun (c1 : x = 56) => ?_, fun (c1 : x = 57) => ?_, fun (c1 : x = 58) => ?_, fun (c1 : x = 59) => ?_, fun (c1 : x = 60) => ?_, fun (c1 : x = 61) => ?_, trivial⟩
  · skip
    rw [if_neg (show ¬ x = 33 from by omega)] at h
    rw [if_neg (show ¬ x = 40 from by omega)] at h
    rw [if_neg (show ¬ x = 41 from by omega)] at h
    rw [if_neg (show ¬ x = 42 from by omega)] at h
    rw [if_neg (show ¬ x = 43 from by omega)] at h
    rw [if_neg (show ¬ x = 45 from by omega)] at h
    rw [if_neg (show ¬ x = 59 from by omega)] at h
    rw [if_neg (show ¬ x = 60 from by omega)] at h
    rw [if_neg (show ¬ x = 61 from by omega)] at h
    exact h
  · skip
    rw [if_pos c1] at h
    refine ⟨fun (c2 : y = 0) => ?_, fun (c2 : ¬ y = 0) => ?_⟩
    · rw [if_pos c2] at h
      exact h
    · rw [if_neg (c2)] at h
      exact h
  · skip
    rw [if_neg (show ¬ x = 33 from by omega)] at h
    rw [if_neg (show ¬ x = 40 from by omega)] at h
    rw [if_neg (show ¬ x = 41 from by omega)] at h
    rw [if_neg (show ¬ x = 42 from by omega)] at h
    rw [if_neg (show ¬ x = 43 from by omega)] at h
    rw [if_neg (show ¬ x = 45 from by omega)] at h
    rw [if_neg (show ¬ x = 59 from by omega)] at h
    rw [if_neg (show ¬ x = 60 from by omega)] at h
    rw [if_neg (show ¬ x = 61 from by omega)] at h
    exact h
  · skip
    rw [if_neg (show ¬ x = 33 from by omega)] at h
    rw [if_neg (show ¬ x = 40 from by omega)] at h
    rw [if_neg (show ¬ x = 41 from by omega)] at h
    rw [if_neg (show ¬ x = 42 from by omega)] at h
    rw [if_neg (show ¬ x = 43 from by omega)] at h
    rw [if_neg (show ¬ x = 45 from by omega)] at h
    rw [if_neg (show ¬ x = 59 from by omega)] at h
    rw [if_neg (show ¬ x = 60 from by omega)] at h
    rw [if_neg (show ¬ x = 61 from by omega)] at h
    exact h
  · skip
    rw [if_neg (show ¬ x = 33 from by omega)] at h
    rw [if_neg (show ¬ x = 40 from by omega)] at h
    rw [if_neg (show ¬ x = 41 from by omega)] at h
    rw [if_neg (show ¬ x = 42 from by omega)] at h
    rw [if_neg (show ¬ x = 43 from by omega)] at h
    rw [if_neg (show ¬ x = 45 from by omega)] at h
    rw [if_neg (show ¬ x = 59 from by omega)] at h
    rw [if_neg (show ¬ x = 60 from by omega)] at h
    rw [if_neg (show ¬ x = 61 from by omega)] at h
    exact h
  · skip
    rw [if_neg (show ¬ x = 33 from by omega)] at h
    rw [if_neg (show ¬ x = 40 from by omega)] at h
    rw [if_neg (show ¬ x = 41 from by omega)] at h
    rw [if_neg (show ¬ x = 42 from by omega)] at h
    rw [if_neg (show ¬ x = 43 from by omega)] at h
    rw [if_neg (show ¬ x = 45 from by omega)] at h
    rw [if_neg (show ¬ x = 59 from by omega)] at h
    rw [if_neg (show ¬ x = 60 from by omega)] at h
    rw [if_neg (show ¬ x = 61 from by omega)] at h
    exact h
  · skip
    rw [if_neg (show ¬ x = 33 from by omega)] at h
    rw [if_neg (show ¬ x = 40 from by omega)] at h
    rw [if_neg (show ¬ x = 41 from by omega)] at h
    rw [if_neg (show ¬ x = 42 from by omega)] at h
    rw [if_neg (show ¬ x = 43 from by omega)] at h
    rw [if_neg (show ¬ x = 45 from by omega)] at h
    rw [if_neg (show ¬ x = 59 from by omega)] at h
    rw [if_neg (show ¬ x = 60 from by omega)] at h
    rw [if_neg (show ¬ x = 61 from by omega)] at h
    exact h
  · skip
    rw [if_neg (show ¬ x = 33 from by omega)] at h
    rw [if_neg (show ¬ x = 40 from by omega)] at h
    rw [if_neg (show ¬ x = 41 from by omega)] at h
    rw [if_neg (show ¬ x = 42 from by omega)] at h
    rw [if_neg (show ¬ x = 43 from by omega)] at h
    rw [if_neg (show ¬ x = 45 from by omega)] at h
    rw [if_neg (show ¬ x = 59 from by omega)] at h
    rw [if_neg (show ¬ x = 60 from by omega)] at h
    rw [if_neg (show ¬ x = 61 from by omega)] at h
    exact h
  · skip
    rw [if_neg (show ¬ x = 33 from by omega)] at h
    rw [if_pos c1] at h
    exact h
  · skip
    rw [if_neg (show ¬ x = 33 from by omega)] at h
    rw [if_neg (show ¬ x = 40 from by omega)] at h
    rw [if_pos c1] at h
    exact h
  · skip
    rw [if_neg (show ¬ x = 33 from by omega)] at h
    rw [if_neg (show ¬ x = 40 from by omega)] at h
    rw [if_neg (show ¬ x = 41 from by omega)] at h
    rw [if_pos c1] at h
    exact h
  · skip
    rw [if_neg (show ¬ x = 33 from by omega)] at h
    rw [if_neg (show ¬ x = 40 from by omega)] at h
    rw [if_neg (show ¬ x = 41 from by omega)] at h
    rw [if_neg (show ¬ x = 42 from by omega)] at h
    rw [if_pos c1] at h
    exact h
  · skip
    rw [if_neg (show ¬ x = 33 from by omega)] at h
    rw [if_neg (show ¬ x = 40 from by omega)] at h
    rw [if_neg (show ¬ x = 41 from by omega)] at h
    rw [if_neg (show ¬ x = 42 from by omega)] at h
    rw [if_neg (show ¬ x = 43 from by omega)] at h
    rw [if_neg (show ¬ x = 45 from by omega)] at h
    rw [if_neg (show ¬ x = 59 from by omega)] at h
    rw [if_neg (show ¬ x = 60 from by omega)] at h
    rw [if_neg (show ¬ x = 61 from by omega)] at h
    exact h
  · skip
    rw [if_neg (show ¬ x = 33 from by omega)] at h
    rw [if_neg (show ¬ x = 40 from by omega)] at h
    rw [if_neg (show ¬ x = 41 from by omega)] at h
    rw [if_neg (show ¬ x = 42 from by omega)] at h
    rw [if_neg (show ¬ x = 43 from by omega)] at h
    rw [if_pos c1] at h
    exact h
  · skip
    rw [if_neg (show ¬ x = 33 from by omega)] at h
    rw [if_neg (show ¬ x = 40 from by omega)] at h
    rw [if_neg (show ¬ x = 41 from by omega)] at h
    rw [if_neg (show ¬ x = 42 from by omega)] at h
    rw [if_neg (show ¬ x = 43 from by omega)] at h
    rw [if_neg (show ¬ x = 45 from by omega)] at h
    rw [if_neg (show ¬ x = 59 from by omega)] at h
    rw [if_neg (show ¬ x = 60 from by omega)] at h
    rw [if_neg (show ¬ x = 61 from by omega)] at h
    exact h
  · skip
    rw [if_neg (show ¬ x = 33 from by omega)] at h
    rw [if_neg (show ¬ x = 40 from by omega)] at h
    rw [if_neg (show ¬ x = 41 from by omega)] at h
    rw [if_neg (show ¬ x = 42 from by omega)] at h
    rw [if_neg (show ¬ x = 43 from by omega)] at h
    rw [if_neg (show ¬ x = 45 from by omega)] at h
    rw [if_neg (show ¬ x = 59 from by omega)] at h
    rw [if_neg (show ¬ x = 60 from by omega)] at h
    rw [if_neg (show ¬ x = 61 from by omega)] at h
    exact h
  · skip
    rw [if_neg (show ¬ x = 33 from by omega)] at h
    rw [if_neg (show ¬ x = 40 from by omega)] at h
    rw [if_neg (show ¬ x = 41 from by omega)] at h
    rw [if_neg (show ¬ x = 42 from by omega)] at h
    rw [if_neg (show ¬ x = 43 from by omega)] at h
    rw [if_neg (show ¬ x = 45 from by omega)] at h
    rw [if_neg (show ¬ x = 59 from by omega)] at h
    rw [if_neg (show ¬ x = 60 from by omega)] at h
    rw [if_neg (show ¬ x = 61 from by omega)] at h
    exact h
  · skip
    rw [if_neg (show ¬ x = 33 from by omega)] at h
    rw [if_neg (show ¬ x = 40 from by omega)] at h
    rw [if_neg (show ¬ x = 41 from by omega)] at h
    rw [if_neg (show ¬ x = 42 from by omega)] at h
    rw [if_neg (show ¬ x = 43 from by omega)] at h
    rw [if_neg (show ¬ x = 45 from by omega)] at h
    rw [if_neg (show ¬ x = 59 from by omega)] at h
    rw [if_neg (show ¬ x = 60 from by omega)] at h
    rw [if_neg (show ¬ x = 61 from by omega)] at h
    exact h
  · skip
    rw [if_neg (show ¬ x = 33 from by omega)] at h
    rw [if_neg (show ¬ x = 40 from by omega)] at h
    rw [if_neg (show ¬ x = 41 from by omega)] at h
    rw [if_neg (show ¬ x = 42 from by omega)] at h
    rw [if_neg (show ¬ x = 43 from by omega)] at h
    rw [if_neg (show ¬ x = 45 from by omega)] at h
    rw [if_neg (show ¬ x = 59 from by omega)] at h
    rw [if_neg (show ¬ x = 60 from by omega)] at h
    rw [if_neg (show ¬ x = 61 from by omega)] at h
    exact h
  · skip
    rw [if_neg (show ¬ x = 33 from by omega)] at h
    rw [if_neg (show ¬ x = 40 from by omega)] at h
    rw [if_neg (show ¬ x = 41 from by omega)] at h
    rw [if_neg (show ¬ x = 42 from by omega)] at h
    rw [if_neg (show ¬ x = 43 from by omega)] at h
    rw [if_neg (show ¬ x = 45 from by omega)] at h
    rw [if_neg (show ¬ x = 59 from by omega)] at h
    rw [if_neg (show ¬ x = 60 from by omega)] at h
    rw [if_neg (show ¬ x = 61 from by omega)] at h
    exact h
  · skip
    rw [if_neg (show ¬ x = 33 from by omega)] at h
    rw [if_neg (show ¬ x = 40 from by omega)] at h
    rw [if_neg (show ¬ x = 41 from by omega)] at h
    rw [if_neg (show ¬ x = 42 from by omega)] at h
    rw [if_neg (show ¬ x = 43 from by omega)] at h
    rw [if_neg (show ¬ x = 45 from by omega)] at h
    rw [if_neg (show ¬ x = 59 from by omega)] at h
    rw [if_neg (show ¬ x = 60 from by omega)] at h
    rw [if_neg (show ¬ x = 61 from by omega)] at h
    exact h
  · skip
    rw [if_neg (show ¬ x = 33 from by omega)] at h
    rw [if_neg (show ¬ x = 40 from by omega)] at h
    rw [if_neg (show ¬ x = 41 from by omega)] at h
    rw [if_neg (show ¬ x = 42 from by omega)] at h
    rw [if_neg (show ¬ x = 43 from by omega)] at h
    rw [if_neg (show ¬ x = 45 from by omega)] at h
    rw [if_neg (show ¬ x = 59 from by omega)] at h
    rw [if_neg (show ¬ x = 60 from by omega)] at h
    rw [if_neg (show ¬ x = 61 from by omega)] at h
    exact h
  · skip
    rw [if_neg (show ¬ x = 33 from by omega)] at h
    rw [if_neg (show ¬ x = 40 from by omega)] at h
    rw [if_neg (show ¬ x = 41 from by omega)] at h
    rw [if_neg (show ¬ x = 42 from by omega)] at h
    rw [if_neg (show ¬ x = 43 from by omega)] at h
    rw [if_neg (show ¬ x = 45 from by omega)] at h
    rw [if_neg (show ¬ x = 59 from by omega)] at h
    rw [if_neg (show ¬ x = 60 from by omega)] at h
    rw [if_neg (show ¬ x = 61 from by omega)] at h
    exact h
  · skip
    rw [if_neg (show ¬ x = 33 from by omega)] at h
    rw [if_neg (show ¬ x = 40 from by omega)] at h
    rw [if_neg (show ¬ x = 41 from by omega)] at h
    rw [if_neg (show ¬ x = 42 from by omega)] at h
    rw [if_neg (show ¬ x = 43 from by omega)] at h
    rw [if_neg (show ¬ x = 45 from by omega)] at h
    rw [if_neg (show ¬ x = 59 from by omega)] at h
    rw [if_neg (show ¬ x = 60 from by omega)] at h
    rw [if_neg (show ¬ x = 61 from by omega)] at h
    exact h
  · skip
    rw [if_neg (show ¬ x = 33 from by omega)] at h
    rw [if_neg (show ¬ x = 40 from by omega)] at h
    rw [if_neg (show ¬ x = 41 from by omega)] at h
    rw [if_neg (show ¬ x = 42 from by omega)] at h
    rw [if_neg (show ¬ x = 43 from by omega)] at h
    rw [if_neg (show ¬ x = 45 from by omega)] at h
    rw [if_neg (show ¬ x = 59 from by omega)] at h
    rw [if_neg (show ¬ x = 60 from by omega)] at h
    rw [if_neg (show ¬ x = 61 from by omega)] at h
    exact h
  · skip
    rw [if_neg (show ¬ x = 33 from by omega)] at h
    rw [if_neg (show ¬ x = 40 from by omega)] at h
    rw [if_neg (show ¬ x = 41 from by omega)] at h
    rw [if_neg (show ¬ x = 42 from by omega)] at h
    rw [if_neg (show ¬ x = 43 from by omega)] at h
    rw [if_neg (show ¬ x = 45 from by omega)] at h
    rw [if_neg (show ¬ x = 59 from by omega)] at h
    rw [if_neg (show ¬ x = 60 from by omega)] at h
    rw [if_neg (show ¬ x = 61 from by omega)] at h
    exact h
  · skip
    rw [if_neg (show ¬ x = 33 from by omega)] at h
    rw [if_neg (show ¬ x = 40 from by omega)] at h
    rw [if_neg (show ¬ x = 41 from by omega)] at h
    rw [if_neg (show ¬ x = 42 from by omega)] at h
    rw [if_neg (show ¬ x = 43 from by omega)] at h
    rw [if_neg (show ¬ x = 45 from by omega)] at h
    rw [if_neg (show ¬ x = 59 from by omega)] at h
    rw [if_neg (show ¬ x = 60 from by omega)] at h
    rw [if_neg (show ¬ x = 61 from by omega)] at h
    exact h
  · skip
    rw [if_neg (show ¬ x = 33 from by omega)] at h
    rw [if_neg (show ¬ x = 40 from by omega)] at h
    rw [if_neg (show ¬ x = 41 from by omega)] at h
    rw [if_neg (show ¬ x = 42 from by omega)] at h
    rw [if_neg (show ¬ x = 43 from by omega)] at h
    rw [if_neg (show ¬ x = 45 from by omega)] at h
    rw [if_pos c1] at h
    exact h
  · skip
    rw [if_neg (show ¬ x = 33 from by omega)] at h
    rw [if_neg (show ¬ x = 40 from by omega)] at h
    rw [if_neg (show ¬ x = 41 from by omega)] at h
    rw [if_neg (show ¬ x = 42 from by omega)] at h
    rw [if_neg (show ¬ x = 43 from by omega)] at h
    rw [if_neg (show ¬ x = 45 from by omega)] at h
    rw [if_neg (show ¬ x = 59 from by omega)] at h
    rw [if_pos c1] at h
    refine ⟨fun (c3 : y = 0) => ?_, fun (c3 : ¬ y = 0) => ?_⟩
    · rw [if_pos c3] at h
      exact h
    · rw [if_neg (c3)] at h
      exact h
  · skip
    rw [if_neg (show ¬ x = 33 from by omega)] at h
    rw [if_neg (show ¬ x = 40 from by omega)] at h
    rw [if_neg (show ¬ x = 41 from by omega)] at h
    rw [if_neg (show ¬ x = 42 from by omega)] at h
    rw [if_neg (show ¬ x = 43 from by omega)] at h
    rw [if_neg (show ¬ x = 45 from by omega)] at h
    rw [if_neg (show ¬ x = 59 from by omega)] at h
    rw [if_neg (show ¬ x = 60 from by omega)] at h
    rw [if_pos c1] at h
    refine ⟨fun (c4 : y = 0) => ?_, fun (c4 : ¬ y = 0) => ?_⟩
    · rw [if_pos c4] at h
      exact h
    · rw [if_neg (c4)] at h
      exact h
def e_X10_scanSign (G : mG) (x : Int) : mG := (if ¬ (f_X9_byteAt (gs G 20 1 (w32 ((G 20 1) + 1))) (w32 ((G 20 1) + 1))) = 61 then (if (f_X10_kindOfSign (gs G 20 1 (w32 ((G 20 1) + 1))) x 0) < 10 then (gs (gs G 20 1 (w32 ((G 20 1) + 1))) 20 2 (f_X10_kindOfSign (gs G 20 1 (w32 ((G 20 1) + 1))) x 0)) else (if (f_X10_kindOfSign (gs G 20 1 (w32 ((G 20 1) + 1))) x 0) = 12 then (gs (gs G 20 1 (w32 ((G 20 1) + 1))) 20 2 (f_X10_kindOfSign (gs G 20 1 (w32 ((G 20 1) + 1))) x 0)) else (gs (gs (gs G 20 1 (w32 ((G 20 1) + 1))) 20 2 (f_X10_kindOfSign (gs G 20 1 (w32 ((G 20 1) + 1))) x 0)) 20 1 (w32 ((w32 ((G 20 1) + 1)) + 1))))) else (if (f_X10_kindOfSign (gs G 20 1 (w32 ((G 20 1) + 1))) x 1) < 10 then (gs (gs G 20 1 (w32 ((G 20 1) + 1))) 20 2 (f_X10_kindOfSign (gs G 20 1 (w32 ((G 20 1) + 1))) x 1)) else (if (f_X10_kindOfSign (gs G 20 1 (w32 ((G 20 1) + 1))) x 1) = 12 then (gs (gs G 20 1 (w32 ((G 20 1) + 1))) 20 2 (f_X10_kindOfSign (gs G 20 1 (w32 ((G 20 1) + 1))) x 1)) else (gs (gs (gs G 20 1 (w32 ((G 20 1) + 1))) 20 2 (f_X10_kindOfSign (gs G 20 1 (w32 ((G 20 1) + 1))) x 1)) 20 1 (w32 ((w32 ((G 20 1) + 1)) + 1))))))
theorem frp_X10_scanSign_20 {G : mG} {x : Int} {i : Nat} (hj : ∀ a ∈ ([1, 2] : List Nat), i ≠ a) : (e_X10_scanSign G x) 20 i = G 20 i := by
  unfold e_X10_scanSign
  repeat' with_reducible first | apply ite_f | apply ite_f2 | apply ite_p | apply ite_p2
  all_goals first | (simp only [gs_at_ne (hj 1 (by simp)), gs_at_ne (hj 2 (by simp))]; done) | rfl
theorem fr_X10_scanSign {G : mG} {x : Int} {k : Nat} (hk : ∀ a ∈ ([20] : List Nat), k ≠ a) : (e_X10_scanSign G x) k = G k := by
  unfold e_X10_scanSign
  repeat' with_reducible first | apply ite_f | apply ite_f2 | apply ite_p | apply ite_p2
  all_goals first | (simp only [gs_ne (hk (20) (by simp))]; done) | rfl
theorem sp_X10_scanSign {D : Nat → Bool} {d : Nat} {G : mG} {x : Int} {Q : Option mV → mG → Prop} (hD : ∀ k, D k = false → inN [20] k = false) (h : Q none (e_X10_scanSign G x)) : P2 D (d + 2) M_X10_scanSign [mR 25, mI x] G Q := by
  unfold e_X10_scanSign at h
  refine MP.to (D2 := inN [20]) (Q2 := Q) ?_ hD (fun v G' q _ => q)
  refine p2_vc [10, 41, 69] 400 oo_X10 q_X10_scanSign (by decide) rfl (Nat.le_of_ble_eq_true rfl) ?_
  refine (show W2 o_X10 M_X10_scanSign (inN [20]) (d + 2) Q 10 [some (mR 25), some (mI x), none] [] (gs G 20 1 (w32 ((G 20 1) + 1))) from ?_)
  refine w2_vc [10, 41, 69] 400 oo_X10 q_X10_scanSign ?_
  refine sp_X9_byteAt  ?_
  refine ⟨fun (c2 : ¬ (f_X9_byteAt (gs G 20 1 (w32 ((G 20 1) + 1))) (w32 ((G 20 1) + 1))) = 61) => ?_, fun (c2 : (f_X9_byteAt (gs G 20 1 (w32 ((G 20 1) + 1))) (w32 ((G 20 1) + 1))) = 61) => ?_⟩
  · rw [if_pos c2] at h
    refine sp_X10_kindOfSign  ?_
    refine (show W2 o_X10 M_X10_scanSign (inN [20]) (d + 2) Q 41 [some (mR 25), some (mI x), some (mI 0)] [] (gs (gs G 20 1 (w32 ((G 20 1) + 1))) 20 2 (f_X10_kindOfSign (gs G 20 1 (w32 ((G 20 1) + 1))) x 0)) from ?_)
    refine w2_vc [10, 41, 69] 400 oo_X10 q_X10_scanSign ?_
    refine ⟨fun (c4 : (f_X10_kindOfSign (gs G 20 1 (w32 ((G 20 1) + 1))) x 0) < 10) => ?_, fun (c4 : 10 ≤ (f_X10_kindOfSign (gs G 20 1 (w32 ((G 20 1) + 1))) x 0)) => ?_⟩
    · rw [if_pos c4] at h
      refine (show W2 o_X10 M_X10_scanSign (inN [20]) (d + 2) Q 69 [some (mR 25), some (mI x), some (mI 0)] [] (gs (gs G 20 1 (w32 ((G 20 1) + 1))) 20 2 (f_X10_kindOfSign (gs G 20 1 (w32 ((G 20 1) + 1))) x 0)) from ?_)
      refine w2_vc [10, 41, 69] 400 oo_X10 q_X10_scanSign ?_
      exact h
    · rw [if_neg (Int.not_lt.mpr c4)] at h
      refine ⟨fun (c5 : (f_X10_kindOfSign (gs G 20 1 (w32 ((G 20 1) + 1))) x 0) = 12) => ?_, fun (c5 : ¬ (f_X10_kindOfSign (gs G 20 1 (w32 ((G 20 1) + 1))) x 0) = 12) => ?_⟩
      · rw [if_pos c5] at h
        refine (show W2 o_X10 M_X10_scanSign (inN [20]) (d + 2) Q 69 [some (mR 25), some (mI x), some (mI 0)] [] (gs (gs G 20 1 (w32 ((G 20 1) + 1))) 20 2 (f_X10_kindOfSign (gs G 20 1 (w32 ((G 20 1) + 1))) x 0)) from ?_)
        refine w2_vc [10, 41, 69] 400 oo_X10 q_X10_scanSign ?_
        exact h
      · rw [if_neg (c5)] at h
        refine (show W2 o_X10 M_X10_scanSign (inN [20]) (d + 2) Q 69 [some (mR 25), some (mI x), some (mI 0)] [] (gs (gs (gs G 20 1 (w32 ((G 20 1) + 1))) 20 2 (f_X10_kindOfSign (gs G 20 1 (w32 ((G 20 1) + 1))) x 0)) 20 1 (w32 ((w32 ((G 20 1) + 1)) + 1))) from ?_)
        refine w2_vc [10, 41, 69] 400 oo_X10 q_X10_scanSign ?_
        exact h
  · rw [if_neg (fun q => q c2)] at h
    refine sp_X10_kindOfSign  ?_
    refine (show W2 o_X10 M_X10_scanSign (inN [20]) (d + 2) Q 41 [some (mR 25), some (mI x), some (mI 1)] [] (gs (gs G 20 1 (w32 ((G 20 1) + 1))) 20 2 (f_X10_kindOfSign (gs G 20 1 (w32 ((G 20 1) + 1))) x 1)) from ?_)
    refine w2_vc [10, 41, 69] 400 oo_X10 q_X10_scanSign ?_
    refine ⟨fun (c7 : (f_X10_kindOfSign (gs G 20 1 (w32 ((G 20 1) + 1))) x 1) < 10) => ?_, fun (c7 : 10 ≤ (f_X10_kindOfSign (gs G 20 1 (w32 ((G 20 1) + 1))) x 1)) => ?_⟩
    · rw [if_pos c7] at h
      refine (show W2 o_X10 M_X10_scanSign (inN [20]) (d + 2) Q 69 [some (mR 25), some (mI x), some (mI 1)] [] (gs (gs G 20 1 (w32 ((G 20 1) + 1))) 20 2 (f_X10_kindOfSign (gs G 20 1 (w32 ((G 20 1) + 1))) x 1)) from ?_)
      refine w2_vc [10, 41, 69] 400 oo_X10 q_X10_scanSign ?_
      exact h
    · rw [if_neg (Int.not_lt.mpr c7)] at h
      refine ⟨fun (c8 : (f_X10_kindOfSign (gs G 20 1 (w32 ((G 20 1) + 1))) x 1) = 12) => ?_, fun (c8 : ¬ (f_X10_kindOfSign (gs G 20 1 (w32 ((G 20 1) + 1))) x 1) = 12) => ?_⟩
      · rw [if_pos c8] at h
        refine (show W2 o_X10 M_X10_scanSign (inN [20]) (d + 2) Q 69 [some (mR 25), some (mI x), some (mI 1)] [] (gs (gs G 20 1 (w32 ((G 20 1) + 1))) 20 2 (f_X10_kindOfSign (gs G 20 1 (w32 ((G 20 1) + 1))) x 1)) from ?_)
        refine w2_vc [10, 41, 69] 400 oo_X10 q_X10_scanSign ?_
        exact h
      · rw [if_neg (c8)] at h
        refine (show W2 o_X10 M_X10_scanSign (inN [20]) (d + 2) Q 69 [some (mR 25), some (mI x), some (mI 1)] [] (gs (gs (gs G 20 1 (w32 ((G 20 1) + 1))) 20 2 (f_X10_kindOfSign (gs G 20 1 (w32 ((G 20 1) + 1))) x 1)) 20 1 (w32 ((w32 ((G 20 1) + 1)) + 1))) from ?_)
        refine w2_vc [10, 41, 69] 400 oo_X10 q_X10_scanSign ?_
        exact h
def g_X10_advance_2 (G : mG) : Nat → mG → (mG ⊕ mG) := fun j1 s1 => (if 3000 ≤ ((j1 : Nat) : Int) then (Sum.inr s1) else (if (f_X10_isBlank s1 (f_X9_byteAt s1 (s1 20 1))) = 0 then (Sum.inr s1) else (Sum.inl (gs s1 20 1 (w32 ((s1 20 1) + 1))))))
def e_X10_advance (G : mG) : mG := (if ¬ (f_X9_byteAt (gs (brk (fe (g_X10_advance_2 G) G 3000)) 20 3 ((brk (fe (g_X10_advance_2 G) G 3000)) 20 1)) ((brk (fe (g_X10_advance_2 G) G 3000)) 20 1)) = (-1) then (if (f_X10_isLetter (gs (brk (fe (g_X10_advance_2 G) G 3000)) 20 3 ((brk (fe (g_X10_advance_2 G) G 3000)) 20 1)) (f_X9_byteAt (gs (brk (fe (g_X10_advance_2 G) G 3000)) 20 3 ((brk (fe (g_X10_advance_2 G) G 3000)) 20 1)) ((brk (fe (g_X10_advance_2 G) G 3000)) 20 1))) = 0 then (if (f_X10_isDigit (gs (brk (fe (g_X10_advance_2 G) G 3000)) 20 3 ((brk (fe (g_X10_advance_2 G) G 3000)) 20 1)) (f_X9_byteAt (gs (brk (fe (g_X10_advance_2 G) G 3000)) 20 3 ((brk (fe (g_X10_advance_2 G) G 3000)) 20 1)) ((brk (fe (g_X10_advance_2 G) G 3000)) 20 1))) = 0 then (e_X10_scanSign (gs (brk (fe (g_X10_advance_2 G) G 3000)) 20 3 ((brk (fe (g_X10_advance_2 G) G 3000)) 20 1)) (f_X9_byteAt (gs (brk (fe (g_X10_advance_2 G) G 3000)) 20 3 ((brk (fe (g_X10_advance_2 G) G 3000)) 20 1)) ((brk (fe (g_X10_advance_2 G) G 3000)) 20 1))) else (e_X10_scanInt (gs (brk (fe (g_X10_advance_2 G) G 3000)) 20 3 ((brk (fe (g_X10_advance_2 G) G 3000)) 20 1)) )) else (e_X10_scanWord (gs (brk (fe (g_X10_advance_2 G) G 3000)) 20 3 ((brk (fe (g_X10_advance_2 G) G 3000)) 20 1)) )) else (gs (gs (brk (fe (g_X10_advance_2 G) G 3000)) 20 3 ((brk (fe (g_X10_advance_2 G) G 3000)) 20 1)) 20 2 1))
theorem fr_g_X10_advance_2 (G : mG) {k : Nat} (hk : ∀ a ∈ ([20] : List Nat), k ≠ a) (j : Nat) (s z : mG) (h : g_X10_advance_2 G j s = Sum.inl z) : z k = s k := by
  unfold g_X10_advance_2 at h
  revert h
  repeat' with_reducible apply ite_s
  all_goals intro h
  all_goals first | (cases h; done) | (injection h with h; subst h; first | (simp only [gs_ne (hk (20) (by simp)), fr_X10_scanInt (fun a ha => hk a (by simp only [List.mem_cons, List.not_mem_nil, or_false] at ha ⊢; omega)), fr_X10_scanSign (fun a ha => hk a (by simp only [List.mem_cons, List.not_mem_nil, or_false] at ha ⊢; omega)), fr_X10_scanWord (fun a ha => hk a (by simp only [List.mem_cons, List.not_mem_nil, or_false] at ha ⊢; omega))]; done) | rfl)
theorem fr2_g_X10_advance_2 (G : mG) {k : Nat} (hk : ∀ a ∈ ([20] : List Nat), k ≠ a) (j : Nat) (s : mG) (z : mG) (h : g_X10_advance_2 G j s = Sum.inr z) : z k = s k := by
  unfold g_X10_advance_2 at h
  revert h
  repeat' with_reducible apply ite_s
  all_goals intro h
  all_goals first | (cases h; done) | (injection h with h; subst h; first | (simp only [gs_ne (hk (20) (by simp)), fr_X10_scanInt (fun a ha => hk a (by simp only [List.mem_cons, List.not_mem_nil, or_false] at ha ⊢; omega)), fr_X10_scanSign (fun a ha => hk a (by simp only [List.mem_cons, List.not_mem_nil, or_false] at ha ⊢; omega)), fr_X10_scanWord (fun a ha => hk a (by simp only [List.mem_cons, List.not_mem_nil, or_false] at ha ⊢; omega))]; done) | rfl)
theorem frp_g_X10_advance_2_20 (G : mG) {i : Nat} (hj : ∀ a ∈ ([1, 2, 3, 4, 5] : List Nat), i ≠ a) (j : Nat) (s z : mG) (h : g_X10_advance_2 G j s = Sum.inl z) : z 20 i = s 20 i := by
  unfold g_X10_advance_2 at h
  revert h
  repeat' with_reducible apply ite_s
  all_goals intro h
  all_goals first | (cases h; done) | (injection h with h; subst h; first | (simp only [gs_at_ne (hj 1 (by simp)), gs_at_ne (hj 2 (by simp)), gs_at_ne (hj 3 (by simp)), gs_at_ne (hj 4 (by simp)), gs_at_ne (hj 5 (by simp)), frp_X10_scanInt_20 (fun a ha => hj a (by simp only [List.mem_cons, List.not_mem_nil, or_false] at ha ⊢; omega)), frp_X10_scanSign_20 (fun a ha => hj a (by simp only [List.mem_cons, List.not_mem_nil, or_false] at ha ⊢; omega)), frp_X10_scanWord_20 (fun a ha => hj a (by simp only [List.mem_cons, List.not_mem_nil, or_false] at ha ⊢; omega))]; done) | rfl)
theorem frp2_g_X10_advance_2_20 (G : mG) {i : Nat} (hj : ∀ a ∈ ([1, 2, 3, 4, 5] : List Nat), i ≠ a) (j : Nat) (s : mG) (z : mG) (h : g_X10_advance_2 G j s = Sum.inr z) : z 20 i = s 20 i := by
  unfold g_X10_advance_2 at h
  revert h
  repeat' with_reducible apply ite_s
  all_goals intro h
  all_goals first | (cases h; done) | (injection h with h; subst h; first | (simp only [gs_at_ne (hj 1 (by simp)), gs_at_ne (hj 2 (by simp)), gs_at_ne (hj 3 (by simp)), gs_at_ne (hj 4 (by simp)), gs_at_ne (hj 5 (by simp)), frp_X10_scanInt_20 (fun a ha => hj a (by simp only [List.mem_cons, List.not_mem_nil, or_false] at ha ⊢; omega)), frp_X10_scanSign_20 (fun a ha => hj a (by simp only [List.mem_cons, List.not_mem_nil, or_false] at ha ⊢; omega)), frp_X10_scanWord_20 (fun a ha => hj a (by simp only [List.mem_cons, List.not_mem_nil, or_false] at ha ⊢; omega))]; done) | rfl)
theorem frp_X10_advance_20 {G : mG} {i : Nat} (hj : ∀ a ∈ ([1, 2, 3, 4, 5] : List Nat), i ≠ a) : (e_X10_advance G ) 20 i = G 20 i := by
  unfold e_X10_advance
  repeat' with_reducible first | apply ite_f | apply ite_f2 | apply ite_p | apply ite_p2
  all_goals first | (simp only [gs_at_ne (hj 1 (by simp)), gs_at_ne (hj 2 (by simp)), gs_at_ne (hj 3 (by simp)), gs_at_ne (hj 4 (by simp)), gs_at_ne (hj 5 (by simp)), frp_X10_scanInt_20 (fun a ha => hj a (by simp only [List.mem_cons, List.not_mem_nil, or_false] at ha ⊢; omega)), frp_X10_scanSign_20 (fun a ha => hj a (by simp only [List.mem_cons, List.not_mem_nil, or_false] at ha ⊢; omega)), frp_X10_scanWord_20 (fun a ha => hj a (by simp only [List.mem_cons, List.not_mem_nil, or_false] at ha ⊢; omega)), brk_frp (frp_g_X10_advance_2_20 _ hj) (frp2_g_X10_advance_2_20 _ hj)]; done) | rfl
theorem fr_X10_advance {G : mG} {k : Nat} (hk : ∀ a ∈ ([20] : List Nat), k ≠ a) : (e_X10_advance G ) k = G k := by
  unfold e_X10_advance
  repeat' with_reducible first | apply ite_f | apply ite_f2 | apply ite_p | apply ite_p2
  all_goals first | (simp only [gs_ne (hk (20) (by simp)), fr_X10_scanInt (fun a ha => hk a (by simp only [List.mem_cons, List.not_mem_nil, or_false] at ha ⊢; omega)), fr_X10_scanSign (fun a ha => hk a (by simp only [List.mem_cons, List.not_mem_nil, or_false] at ha ⊢; omega)), fr_X10_scanWord (fun a ha => hk a (by simp only [List.mem_cons, List.not_mem_nil, or_false] at ha ⊢; omega)), brk_fr (fr_g_X10_advance_2 _ hk) (fr2_g_X10_advance_2 _ hk)]; done) | rfl
theorem sp_X10_advance {D : Nat → Bool} {d : Nat} {G : mG} {Q : Option mV → mG → Prop} (hD : ∀ k, D k = false → inN [20] k = false) (h : Q none (e_X10_advance G )) : P2 D (d + 8) M_X10_advance [mR 25] G Q := by
  unfold e_X10_advance at h
  refine MP.to (D2 := inN [20]) (Q2 := Q) ?_ hD (fun v G' q _ => q)
  refine p2_vc [2, 36, 42, 50, 72] 400 oo_X10 q_X10_advance (by decide) rfl (Nat.le_of_ble_eq_true rfl) ?_
  refine (show W2 o_X10 M_X10_advance (inN [20]) (d + 8) Q 2 [some (mR 25), some (mI ((0 : Nat) : Int))] [] G from ?_)
  refine lupB (g_X10_advance_2 G) G (fun j1 s1 => W2 o_X10 M_X10_advance (inN [20]) (d + 8) Q 2 [some (mR 25), some (mI ((j1 : Nat) : Int))] [] s1) (fun s1 => W2 o_X10 M_X10_advance (inN [20]) (d + 8) Q 42 [some (mR 25), none] [] s1) (fun _ _ => True) 3000 ⟨trivial, fun _ _ _ _ _ _ => trivial⟩ (fun j1 s1 hj1 hI1 ih1 => ?_) (fun s1 _ ih1 => ?_) ?_
  · have ih1 : sk (fun z => W2 o_X10 M_X10_advance (inN [20]) (d + 8) Q 2 [some (mR 25), some (mI ((j1 + 1 : Nat) : Int))] [] z) (fun r => W2 o_X10 M_X10_advance (inN [20]) (d + 8) Q 42 [some (mR 25), none] [] r) (g_X10_advance_2 G j1 s1) := ih1
    unfold g_X10_advance_2 at ih1
    refine w2_vc [2, 36, 42, 50, 72] 400 oo_X10 q_X10_advance ?_
    refine ⟨fun (c1 : 3000 ≤ ((j1 : Nat) : Int)) => ?_, fun (c1 : ((j1 : Nat) : Int) < 3000) => ?_⟩
    · rw [if_pos c1] at ih1
      refine (show W2 o_X10 M_X10_advance (inN [20]) (d + 8) Q 42 [some (mR 25), some (mI ((j1 : Nat) : Int))] [] s1 from ?_)
      refine WP.fg (L' := [some (mR 25), none]) ⟨rfl, trivial⟩ ?_
      exact ih1
    · rw [if_neg (Int.not_le.mpr c1)] at ih1
      refine sp_X9_byteAt  ?_
      refine sp_X10_isBlank  ?_
      refine ⟨fun (c4 : (f_X10_isBlank s1 (f_X9_byteAt s1 (s1 20 1))) = 0) => ?_, fun (c4 : ¬ (f_X10_isBlank s1 (f_X9_byteAt s1 (s1 20 1))) = 0) => ?_⟩
      · rw [if_pos c4] at ih1
        refine (show W2 o_X10 M_X10_advance (inN [20]) (d + 8) Q 42 [some (mR 25), some (mI ((j1 : Nat) : Int))] [] s1 from ?_)
        refine WP.fg (L' := [some (mR 25), none]) ⟨rfl, trivial⟩ ?_
        exact ih1
      · rw [if_neg (c4)] at ih1
        refine (show W2 o_X10 M_X10_advance (inN [20]) (d + 8) Q 36 [some (mR 25), some (mI ((j1 : Nat) : Int))] [] (gs s1 20 1 (w32 ((s1 20 1) + 1))) from ?_)
        refine w2_vc [2, 36, 42, 50, 72] 400 oo_X10 q_X10_advance ?_
        refine (show W2 o_X10 M_X10_advance (inN [20]) (d + 8) Q 2 [some (mR 25), some (mI (w32 (((j1 : Nat) : Int) + 1)))] [] (gs s1 20 1 (w32 ((s1 20 1) + 1))) from ?_)
        rw [w32_nat (by omega)]
        exact ih1
  · skip
    have ih1 : W2 o_X10 M_X10_advance (inN [20]) (d + 8) Q 42 [some (mR 25), none] [] s1 := ih1
    refine (show W2 o_X10 M_X10_advance (inN [20]) (d + 8) Q 2 [some (mR 25), some (mI ((3000 : Nat) : Int))] [] s1 from ?_)
    refine w2_vc [2, 36, 42, 50, 72] 400 oo_X10 q_X10_advance ?_
    refine ⟨fun (c5 : 3000 ≤ ((3000 : Nat) : Int)) => ?_, fun (c5 : ((3000 : Nat) : Int) < 3000) => ?_⟩
    · skip
      refine (show W2 o_X10 M_X10_advance (inN [20]) (d + 8) Q 42 [some (mR 25), some (mI ((3000 : Nat) : Int))] [] s1 from ?_)
      refine WP.fg (L' := [some (mR 25), none]) ⟨rfl, trivial⟩ ?_
      exact ih1
    · skip
      refine sp_X9_byteAt  ?_
      refine sp_X10_isBlank  ?_
      refine ⟨fun (c8 : (f_X10_isBlank s1 (f_X9_byteAt s1 (s1 20 1))) = 0) => ?_, fun (c8 : ¬ (f_X10_isBlank s1 (f_X9_byteAt s1 (s1 20 1))) = 0) => ?_⟩
      · skip
        refine (show W2 o_X10 M_X10_advance (inN [20]) (d + 8) Q 42 [some (mR 25), some (mI ((3000 : Nat) : Int))] [] s1 from ?_)
        refine WP.fg (L' := [some (mR 25), none]) ⟨rfl, trivial⟩ ?_
        exact ih1
      · skip
        exfalso; first | omega | (rw [w32_i (by omega) (by omega)] at c8; omega) | (simp (disch := omega) only [w32_i] at *; omega)
  · skip
    refine (show W2 o_X10 M_X10_advance (inN [20]) (d + 8) Q 42 [some (mR 25), none] [] (brk (fe (g_X10_advance_2 G) G 3000)) from ?_)
    refine w2_vc [2, 36, 42, 50, 72] 400 oo_X10 q_X10_advance ?_
    refine (show W2 o_X10 M_X10_advance (inN [20]) (d + 8) Q 50 [some (mR 25), none] [] (gs (brk (fe (g_X10_advance_2 G) G 3000)) 20 3 ((brk (fe (g_X10_advance_2 G) G 3000)) 20 1)) from ?_)
    refine w2_vc [2, 36, 42, 50, 72] 400 oo_X10 q_X10_advance ?_
    refine sp_X9_byteAt  ?_
    refine ⟨fun (c10 : ¬ (f_X9_byteAt (gs (brk (fe (g_X10_advance_2 G) G 3000)) 20 3 ((brk (fe (g_X10_advance_2 G) G 3000)) 20 1)) ((brk (fe (g_X10_advance_2 G) G 3000)) 20 1)) = (-1)) => ?_, fun (c10 : (f_X9_byteAt (gs (brk (fe (g_X10_advance_2 G) G 3000)) 20 3 ((brk (fe (g_X10_advance_2 G) G 3000)) 20 1)) ((brk (fe (g_X10_advance_2 G) G 3000)) 20 1)) = (-1)) => ?_⟩
    · rw [if_pos c10] at h
      refine sp_X10_isLetter  ?_
      refine ⟨fun (c12 : (f_X10_isLetter (gs (brk (fe (g_X10_advance_2 G) G 3000)) 20 3 ((brk (fe (g_X10_advance_2 G) G 3000)) 20 1)) (f_X9_byteAt (gs (brk (fe (g_X10_advance_2 G) G 3000)) 20 3 ((brk (fe (g_X10_advance_2 G) G 3000)) 20 1)) ((brk (fe (g_X10_advance_2 G) G 3000)) 20 1))) = 0) => ?_, fun (c12 : ¬ (f_X10_isLetter (gs (brk (fe (g_X10_advance_2 G) G 3000)) 20 3 ((brk (fe (g_X10_advance_2 G) G 3000)) 20 1)) (f_X9_byteAt (gs (brk (fe (g_X10_advance_2 G) G 3000)) 20 3 ((brk (fe (g_X10_advance_2 G) G 3000)) 20 1)) ((brk (fe (g_X10_advance_2 G) G 3000)) 20 1))) = 0) => ?_⟩
      · rw [if_pos c12] at h
        refine sp_X10_isDigit  ?_
        refine ⟨fun (c14 : (f_X10_isDigit (gs (brk (fe (g_X10_advance_2 G) G 3000)) 20 3 ((brk (fe (g_X10_advance_2 G) G 3000)) 20 1)) (f_X9_byteAt (gs (brk (fe (g_X10_advance_2 G) G 3000)) 20 3 ((brk (fe (g_X10_advance_2 G) G 3000)) 20 1)) ((brk (fe (g_X10_advance_2 G) G 3000)) 20 1))) = 0) => ?_, fun (c14 : ¬ (f_X10_isDigit (gs (brk (fe (g_X10_advance_2 G) G 3000)) 20 3 ((brk (fe (g_X10_advance_2 G) G 3000)) 20 1)) (f_X9_byteAt (gs (brk (fe (g_X10_advance_2 G) G 3000)) 20 3 ((brk (fe (g_X10_advance_2 G) G 3000)) 20 1)) ((brk (fe (g_X10_advance_2 G) G 3000)) 20 1))) = 0) => ?_⟩
        · rw [if_pos c14] at h
          refine sp_X10_scanSign  (insub (by decide)) ?_
          exact h
        · rw [if_neg (c14)] at h
          refine sp_X10_scanInt  (insub (by decide)) ?_
          exact h
      · rw [if_neg (c12)] at h
        refine sp_X10_scanWord  (insub (by decide)) ?_
        exact h
    · rw [if_neg (fun q => q c10)] at h
      refine (show W2 o_X10 M_X10_advance (inN [20]) (d + 8) Q 72 [some (mR 25), some (mI (f_X9_byteAt (gs (brk (fe (g_X10_advance_2 G) G 3000)) 20 3 ((brk (fe (g_X10_advance_2 G) G 3000)) 20 1)) ((brk (fe (g_X10_advance_2 G) G 3000)) 20 1)))] [] (gs (gs (brk (fe (g_X10_advance_2 G) G 3000)) 20 3 ((brk (fe (g_X10_advance_2 G) G 3000)) 20 1)) 20 2 1) from ?_)
      refine w2_vc [2, 36, 42, 50, 72] 400 oo_X10 q_X10_advance ?_
      exact h
