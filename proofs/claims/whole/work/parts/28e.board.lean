def g_X12_board_125 (G : mG) (a : Int) (b : Int) (x : Int) (y : Int) (z : Int) : Nat → mG → mG := fun j1 s1 => (gs s1 105 (Int.toNat (w32 ((w32 (9 * ((j1 : Nat) : Int))) + (s1 64 44)))) (-1))
def r_X12_board (G : mG) (a : Int) (b : Int) (x : Int) (y : Int) (z : Int) : Int × mG := (if (G 64 44) = 9 then ((-1), G) else (if a < 0 then ((-1), G) else (if 5 < a then ((-1), G) else (if b < 1 then ((-1), G) else (if 9 < b then ((-1), G) else (if x < 0 then ((-1), G) else (if 1000 < x then ((-1), G) else (if y < 0 then ((-1), G) else (if y ≤ 255 then (if z = 0 then ((w32 ((w32 (((fd (g_X12_board_125 G a b x y z) (gs (gs (gs (gs (gs G 94 (Int.toNat (G 64 44)) a) 95 (Int.toNat (G 64 44)) b) 96 (Int.toNat (G 64 44)) x) 97 (Int.toNat (G 64 44)) y) 98 (Int.toNat (G 64 44)) 0) 26) 64 44) + 1)) - 1)), (gs (fd (g_X12_board_125 G a b x y z) (gs (gs (gs (gs (gs G 94 (Int.toNat (G 64 44)) a) 95 (Int.toNat (G 64 44)) b) 96 (Int.toNat (G 64 44)) x) 97 (Int.toNat (G 64 44)) y) 98 (Int.toNat (G 64 44)) 0) 26) 64 44 (w32 (((fd (g_X12_board_125 G a b x y z) (gs (gs (gs (gs (gs G 94 (Int.toNat (G 64 44)) a) 95 (Int.toNat (G 64 44)) b) 96 (Int.toNat (G 64 44)) x) 97 (Int.toNat (G 64 44)) y) 98 (Int.toNat (G 64 44)) 0) 26) 64 44) + 1)))) else (if (G 64 44) ≤ 0 then ((w32 ((w32 (((fd (g_X12_board_125 G a b x y z) (gs (gs (gs (gs (gs G 94 (Int.toNat (G 64 44)) a) 95 (Int.toNat (G 64 44)) b) 96 (Int.toNat (G 64 44)) x) 97 (Int.toNat (G 64 44)) y) 98 (Int.toNat (G 64 44)) 0) 26) 64 44) + 1)) - 1)), (gs (fd (g_X12_board_125 G a b x y z) (gs (gs (gs (gs (gs G 94 (Int.toNat (G 64 44)) a) 95 (Int.toNat (G 64 44)) b) 96 (Int.toNat (G 64 44)) x) 97 (Int.toNat (G 64 44)) y) 98 (Int.toNat (G 64 44)) 0) 26) 64 44 (w32 (((fd (g_X12_board_125 G a b x y z) (gs (gs (gs (gs (gs G 94 (Int.toNat (G 64 44)) a) 95 (Int.toNat (G 64 44)) b) 96 (Int.toNat (G 64 44)) x) 97 (Int.toNat (G 64 44)) y) 98 (Int.toNat (G 64 44)) 0) 26) 64 44) + 1)))) else ((w32 ((w32 (((fd (g_X12_board_125 G a b x y z) (gs (gs (gs (gs (gs G 94 (Int.toNat (G 64 44)) a) 95 (Int.toNat (G 64 44)) b) 96 (Int.toNat (G 64 44)) x) 97 (Int.toNat (G 64 44)) y) 98 (Int.toNat (G 64 44)) 1) 26) 64 44) + 1)) - 1)), (gs (fd (g_X12_board_125 G a b x y z) (gs (gs (gs (gs (gs G 94 (Int.toNat (G 64 44)) a) 95 (Int.toNat (G 64 44)) b) 96 (Int.toNat (G 64 44)) x) 97 (Int.toNat (G 64 44)) y) 98 (Int.toNat (G 64 44)) 1) 26) 64 44 (w32 (((fd (g_X12_board_125 G a b x y z) (gs (gs (gs (gs (gs G 94 (Int.toNat (G 64 44)) a) 95 (Int.toNat (G 64 44)) b) 96 (Int.toNat (G 64 44)) x) 97 (Int.toNat (G 64 44)) y) 98 (Int.toNat (G 64 44)) 1) 26) 64 44) + 1)))))) else ((-1), G))))))))))
theorem fr_g_X12_board_125 (G : mG) (a : Int) (b : Int) (x : Int) (y : Int) (z : Int) {k : Nat} (hk : ∀ a ∈ ([64, 94, 95, 96, 97, 98, 105] : List Nat), k ≠ a) (j : Nat) (s : mG) : (g_X12_board_125 G a b x y z j s) k = s k := by
  unfold g_X12_board_125
  repeat' with_reducible first | apply ite_f | apply ite_f2 | apply ite_p | apply ite_p2
  all_goals first | (simp only [gs_ne (hk (64) (by simp)), gs_ne (hk (94) (by simp)), gs_ne (hk (95) (by simp)), gs_ne (hk (96) (by simp)), gs_ne (hk (97) (by simp)), gs_ne (hk (98) (by simp)), gs_ne (hk (105) (by simp))]; done) | rfl
theorem frp_g_X12_board_125_64 (G : mG) (a : Int) (b : Int) (x : Int) (y : Int) (z : Int) {i : Nat} (hj : ∀ a ∈ ([44] : List Nat), i ≠ a) (j : Nat) (s : mG) : (g_X12_board_125 G a b x y z j s) 64 i = s 64 i := by
  unfold g_X12_board_125
  repeat' with_reducible first | apply ite_f | apply ite_f2 | apply ite_p | apply ite_p2
  all_goals first | (simp only [gs_at_ne (hj 44 (by simp)), gs_ne (show (64) ≠ (94) from by omega), gs_ne (show (64) ≠ (95) from by omega), gs_ne (show (64) ≠ (96) from by omega), gs_ne (show (64) ≠ (97) from by omega), gs_ne (show (64) ≠ (98) from by omega), gs_ne (show (64) ≠ (105) from by omega)]; done) | rfl
theorem frp_X12_board_64 {G : mG} {a : Int} {b : Int} {x : Int} {y : Int} {z : Int} {i : Nat} (hj : ∀ a ∈ ([44] : List Nat), i ≠ a) : (r_X12_board G a b x y z).2 64 i = G 64 i := by
  unfold r_X12_board
  repeat' with_reducible first | apply ite_f | apply ite_f2 | apply ite_p | apply ite_p2
  all_goals first | (simp only [gs_at_ne (hj 44 (by simp)), gs_ne (show (64) ≠ (94) from by omega), gs_ne (show (64) ≠ (95) from by omega), gs_ne (show (64) ≠ (96) from by omega), gs_ne (show (64) ≠ (97) from by omega), gs_ne (show (64) ≠ (98) from by omega), gs_ne (show (64) ≠ (105) from by omega), fd_frp (frp_g_X12_board_125_64 _ _ _ _ _ _ hj)]; done) | rfl
theorem fr_X12_board {G : mG} {a : Int} {b : Int} {x : Int} {y : Int} {z : Int} {k : Nat} (hk : ∀ a ∈ ([64, 94, 95, 96, 97, 98, 105] : List Nat), k ≠ a) : (r_X12_board G a b x y z).2 k = G k := by
  unfold r_X12_board
  repeat' with_reducible first | apply ite_f | apply ite_f2 | apply ite_p | apply ite_p2
  all_goals first | (simp only [gs_ne (hk (64) (by simp)), gs_ne (hk (94) (by simp)), gs_ne (hk (95) (by simp)), gs_ne (hk (96) (by simp)), gs_ne (hk (97) (by simp)), gs_ne (hk (98) (by simp)), gs_ne (hk (105) (by simp)), fd_fr (fr_g_X12_board_125 _ _ _ _ _ _ hk)]; done) | rfl
set_option maxHeartbeats 8000000 in
theorem sp_X12_board {D : Nat → Bool} {d : Nat} {G : mG} {a : Int} {b : Int} {x : Int} {y : Int} {z : Int} {Q : Option mV → mG → Prop} (hbd : 0 ≤ G 64 44 ∧ G 64 44 ≤ 9) (hz : z = 0 ∨ z = 1) (hD : ∀ k, D k = false → inN [64, 94, 95, 96, 97, 98, 105] k = false) (h : Q (some (mI (r_X12_board G a b x y z).1)) (r_X12_board G a b x y z).2) : P2 D (d + 1) M_X12_board [mR 69, mI a, mI b, mI x, mI y, mI z] G Q := by
  unfold r_X12_board at h
  refine MP.to (D2 := inN [64, 94, 95, 96, 97, 98, 105]) (Q2 := Q) ?_ hD (fun v G' q _ => q)
  refine p2_vc [65, 75, 85, 96, 122, 125, 148, 164] 400 oo_X12 q_X12_board (by decide) rfl (Nat.le_of_ble_eq_true rfl) ?_
  refine ⟨fun (c1 : (G 64 44) = 9) => ?_, fun (c1 : ¬ (G 64 44) = 9) => ?_⟩
  · rw [if_pos c1] at h
    exact h
  · rw [if_neg (c1)] at h
    refine ⟨fun (c2 : a < 0) => ?_, fun (c2 : 0 ≤ a) => ?_⟩
    · rw [if_pos c2] at h
      exact h
    · rw [if_neg (Int.not_lt.mpr c2)] at h
      refine ⟨fun (c3 : 5 < a) => ?_, fun (c3 : a ≤ 5) => ?_⟩
      · rw [if_pos c3] at h
        exact h
      · rw [if_neg (Int.not_lt.mpr c3)] at h
        refine ⟨fun (c4 : b < 1) => ?_, fun (c4 : 1 ≤ b) => ?_⟩
        · rw [if_pos c4] at h
          exact h
        · rw [if_neg (Int.not_lt.mpr c4)] at h
          refine ⟨fun (c5 : 9 < b) => ?_, fun (c5 : b ≤ 9) => ?_⟩
          · rw [if_pos c5] at h
            exact h
          · rw [if_neg (Int.not_lt.mpr c5)] at h
            refine ⟨fun (c6 : x < 0) => ?_, fun (c6 : 0 ≤ x) => ?_⟩
            · rw [if_pos c6] at h
              exact h
            · rw [if_neg (Int.not_lt.mpr c6)] at h
              refine ⟨fun (c7 : 1000 < x) => ?_, fun (c7 : x ≤ 1000) => ?_⟩
              · rw [if_pos c7] at h
                exact h
              · rw [if_neg (Int.not_lt.mpr c7)] at h
                refine ⟨fun (c8 : y < 0) => ?_, fun (c8 : 0 ≤ y) => ?_⟩
                · rw [if_pos c8] at h
                  exact h
                · rw [if_neg (Int.not_lt.mpr c8)] at h
                  refine ⟨fun (c9 : y ≤ 255) => ?_, fun (c9 : 255 < y) => ?_⟩
                  · rw [if_pos c9] at h
                    refine ⟨(show 0 ≤ (G 64 44) ∧ (G 64 44) < ((9 : Nat) : Int) from by first | omega | (simp (disch := omega) only [w32_i]; omega)), ?_⟩
                    refine (show W2 o_X12 M_X12_board (inN [64, 94, 95, 96, 97, 98, 105]) (d + 1) Q 65 [some (mR 69), some (mI a), some (mI b), some (mI x), some (mI y), some (mI z), none] [] (gs G 94 (Int.toNat (G 64 44)) a) from ?_)
                    refine w2_vc [65, 75, 85, 96, 122, 125, 148, 164] 400 oo_X12 q_X12_board ?_
                    refine ⟨(show 0 ≤ (G 64 44) ∧ (G 64 44) < ((9 : Nat) : Int) from by first | omega | (simp (disch := omega) only [w32_i]; omega)), ?_⟩
                    refine (show W2 o_X12 M_X12_board (inN [64, 94, 95, 96, 97, 98, 105]) (d + 1) Q 75 [some (mR 69), some (mI a), some (mI b), some (mI x), some (mI y), some (mI z), none] [] (gs (gs G 94 (Int.toNat (G 64 44)) a) 95 (Int.toNat (G 64 44)) b) from ?_)
                    refine w2_vc [65, 75, 85, 96, 122, 125, 148, 164] 400 oo_X12 q_X12_board ?_
                    refine ⟨(show 0 ≤ (G 64 44) ∧ (G 64 44) < ((9 : Nat) : Int) from by first | omega | (simp (disch := omega) only [w32_i]; omega)), ?_⟩
                    refine (show W2 o_X12 M_X12_board (inN [64, 94, 95, 96, 97, 98, 105]) (d + 1) Q 85 [some (mR 69), some (mI a), some (mI b), some (mI x), some (mI y), some (mI z), none] [] (gs (gs (gs G 94 (Int.toNat (G 64 44)) a) 95 (Int.toNat (G 64 44)) b) 96 (Int.toNat (G 64 44)) x) from ?_)
                    refine w2_vc [65, 75, 85, 96, 122, 125, 148, 164] 400 oo_X12 q_X12_board ?_
                    refine ⟨(show 0 ≤ (G 64 44) ∧ (G 64 44) < ((9 : Nat) : Int) from by first | omega | (simp (disch := omega) only [w32_i]; omega)), ?_⟩
                    refine (show W2 o_X12 M_X12_board (inN [64, 94, 95, 96, 97, 98, 105]) (d + 1) Q 96 [some (mR 69), some (mI a), some (mI b), some (mI x), some (mI y), some (mI z), none] [] (gs (gs (gs (gs G 94 (Int.toNat (G 64 44)) a) 95 (Int.toNat (G 64 44)) b) 96 (Int.toNat (G 64 44)) x) 97 (Int.toNat (G 64 44)) y) from ?_)
                    refine w2_vc [65, 75, 85, 96, 122, 125, 148, 164] 400 oo_X12 q_X12_board ?_
                    refine ⟨fun (c10 : z = 0) => ?_, fun (c10 : ¬ z = 0) => ?_⟩
                    · rw [if_pos c10] at h
                      refine ⟨(show 0 ≤ (G 64 44) ∧ (G 64 44) < ((9 : Nat) : Int) from by first | omega | (simp (disch := omega) only [w32_i]; omega)), by omega, ?_⟩
                      refine (show W2 o_X12 M_X12_board (inN [64, 94, 95, 96, 97, 98, 105]) (d + 1) Q 122 [some (mR 69), some (mI a), some (mI b), some (mI x), some (mI y), some (mI z), none] [] (gs (gs (gs (gs (gs G 94 (Int.toNat (G 64 44)) a) 95 (Int.toNat (G 64 44)) b) 96 (Int.toNat (G 64 44)) x) 97 (Int.toNat (G 64 44)) y) 98 (Int.toNat (G 64 44)) 0) from ?_)
                      refine w2_vc [65, 75, 85, 96, 122, 125, 148, 164] 400 oo_X12 q_X12_board ?_
                      refine (show W2 o_X12 M_X12_board (inN [64, 94, 95, 96, 97, 98, 105]) (d + 1) Q 125 [some (mR 69), some (mI a), some (mI b), some (mI x), some (mI y), some (mI z), some (mI ((0 : Nat) : Int))] [] (gs (gs (gs (gs (gs G 94 (Int.toNat (G 64 44)) a) 95 (Int.toNat (G 64 44)) b) 96 (Int.toNat (G 64 44)) x) 97 (Int.toNat (G 64 44)) y) 98 (Int.toNat (G 64 44)) 0) from ?_)
                      refine lupI (g_X12_board_125 G a b x y z) (gs (gs (gs (gs (gs G 94 (Int.toNat (G 64 44)) a) 95 (Int.toNat (G 64 44)) b) 96 (Int.toNat (G 64 44)) x) 97 (Int.toNat (G 64 44)) y) 98 (Int.toNat (G 64 44)) 0) (fun j1 s1 => W2 o_X12 M_X12_board (inN [64, 94, 95, 96, 97, 98, 105]) (d + 1) Q 125 [some (mR 69), some (mI a), some (mI b), some (mI x), some (mI y), some (mI z), some (mI ((j1 : Nat) : Int))] [] s1) (fun (_ : Nat) s => s 64 44 = G 64 44) 26 ⟨by simp (disch := decide) only [gs_ne], fun j s _ hI => by unfold g_X12_board_125; rw [gs_ne (by decide)]; exact hI⟩ (fun j1 s1 hj1 hI1 ih1 => ?_) (fun hI1 => ?_)
                      · have ih1 : W2 o_X12 M_X12_board (inN [64, 94, 95, 96, 97, 98, 105]) (d + 1) Q 125 [some (mR 69), some (mI a), some (mI b), some (mI x), some (mI y), some (mI z), some (mI ((j1 + 1 : Nat) : Int))] [] (g_X12_board_125 G a b x y z j1 s1) := ih1
                        unfold g_X12_board_125 at ih1
                        have hI1a : s1 64 44 = G 64 44 := hI1
                        refine w2_vc [65, 75, 85, 96, 122, 125, 148, 164] 400 oo_X12 q_X12_board ?_
                        refine ⟨fun (c11 : 26 ≤ ((j1 : Nat) : Int)) => ?_, fun (c11 : ((j1 : Nat) : Int) < 26) => ?_⟩
                        · skip
                          exfalso; first | omega | (rw [w32_i (by omega) (by omega)] at c11; omega) | (simp (disch := omega) only [w32_i] at *; omega)
                        · skip
                          refine ⟨(show 0 ≤ (w32 ((w32 (9 * ((j1 : Nat) : Int))) + (s1 64 44))) ∧ (w32 ((w32 (9 * ((j1 : Nat) : Int))) + (s1 64 44))) < ((234 : Nat) : Int) from by first | omega | (simp (disch := omega) only [w32_i]; omega)), ?_⟩
                          refine (show W2 o_X12 M_X12_board (inN [64, 94, 95, 96, 97, 98, 105]) (d + 1) Q 148 [some (mR 69), some (mI a), some (mI b), some (mI x), some (mI y), some (mI z), some (mI ((j1 : Nat) : Int))] [] (gs s1 105 (Int.toNat (w32 ((w32 (9 * ((j1 : Nat) : Int))) + (s1 64 44)))) (-1)) from ?_)
                          refine w2_vc [65, 75, 85, 96, 122, 125, 148, 164] 400 oo_X12 q_X12_board ?_
                          refine (show W2 o_X12 M_X12_board (inN [64, 94, 95, 96, 97, 98, 105]) (d + 1) Q 125 [some (mR 69), some (mI a), some (mI b), some (mI x), some (mI y), some (mI z), some (mI (w32 (((j1 : Nat) : Int) + 1)))] [] (gs s1 105 (Int.toNat (w32 ((w32 (9 * ((j1 : Nat) : Int))) + (s1 64 44)))) (-1)) from ?_)
                          rw [w32_nat (by omega)]
                          exact ih1
                      · skip
                        refine (show W2 o_X12 M_X12_board (inN [64, 94, 95, 96, 97, 98, 105]) (d + 1) Q 125 [some (mR 69), some (mI a), some (mI b), some (mI x), some (mI y), some (mI z), some (mI ((26 : Nat) : Int))] [] (fd (g_X12_board_125 G a b x y z) (gs (gs (gs (gs (gs G 94 (Int.toNat (G 64 44)) a) 95 (Int.toNat (G 64 44)) b) 96 (Int.toNat (G 64 44)) x) 97 (Int.toNat (G 64 44)) y) 98 (Int.toNat (G 64 44)) 0) 26) from ?_)
                        have hI1a : (fd (g_X12_board_125 G a b x y z) (gs (gs (gs (gs (gs G 94 (Int.toNat (G 64 44)) a) 95 (Int.toNat (G 64 44)) b) 96 (Int.toNat (G 64 44)) x) 97 (Int.toNat (G 64 44)) y) 98 (Int.toNat (G 64 44)) 0) 26) 64 44 = G 64 44 := hI1
                        refine w2_vc [65, 75, 85, 96, 122, 125, 148, 164] 400 oo_X12 q_X12_board ?_
                        refine ⟨fun (c12 : 26 ≤ ((26 : Nat) : Int)) => ?_, fun (c12 : ((26 : Nat) : Int) < 26) => ?_⟩
                        · skip
                          refine (show W2 o_X12 M_X12_board (inN [64, 94, 95, 96, 97, 98, 105]) (d + 1) Q 164 [some (mR 69), some (mI a), some (mI b), some (mI x), some (mI y), some (mI z), some (mI ((26 : Nat) : Int))] [] (gs (fd (g_X12_board_125 G a b x y z) (gs (gs (gs (gs (gs G 94 (Int.toNat (G 64 44)) a) 95 (Int.toNat (G 64 44)) b) 96 (Int.toNat (G 64 44)) x) 97 (Int.toNat (G 64 44)) y) 98 (Int.toNat (G 64 44)) 0) 26) 64 44 (w32 (((fd (g_X12_board_125 G a b x y z) (gs (gs (gs (gs (gs G 94 (Int.toNat (G 64 44)) a) 95 (Int.toNat (G 64 44)) b) 96 (Int.toNat (G 64 44)) x) 97 (Int.toNat (G 64 44)) y) 98 (Int.toNat (G 64 44)) 0) 26) 64 44) + 1))) from ?_)
                          refine w2_vc [65, 75, 85, 96, 122, 125, 148, 164] 400 oo_X12 q_X12_board ?_
                          exact h
                        · skip
                          exfalso; first | omega | (rw [w32_i (by omega) (by omega)] at c12; omega) | (simp (disch := omega) only [w32_i] at *; omega)
                    · rw [if_neg (c10)] at h
                      refine ⟨fun (c13 : (G 64 44) ≤ 0) => ?_, fun (c13 : 0 < (G 64 44)) => ?_⟩
                      · rw [if_pos c13] at h
                        refine ⟨(show 0 ≤ (G 64 44) ∧ (G 64 44) < ((9 : Nat) : Int) from by first | omega | (simp (disch := omega) only [w32_i]; omega)), by omega, ?_⟩
                        refine (show W2 o_X12 M_X12_board (inN [64, 94, 95, 96, 97, 98, 105]) (d + 1) Q 122 [some (mR 69), some (mI a), some (mI b), some (mI x), some (mI y), some (mI z), none] [] (gs (gs (gs (gs (gs G 94 (Int.toNat (G 64 44)) a) 95 (Int.toNat (G 64 44)) b) 96 (Int.toNat (G 64 44)) x) 97 (Int.toNat (G 64 44)) y) 98 (Int.toNat (G 64 44)) 0) from ?_)
                        refine w2_vc [65, 75, 85, 96, 122, 125, 148, 164] 400 oo_X12 q_X12_board ?_
                        refine (show W2 o_X12 M_X12_board (inN [64, 94, 95, 96, 97, 98, 105]) (d + 1) Q 125 [some (mR 69), some (mI a), some (mI b), some (mI x), some (mI y), some (mI z), some (mI ((0 : Nat) : Int))] [] (gs (gs (gs (gs (gs G 94 (Int.toNat (G 64 44)) a) 95 (Int.toNat (G 64 44)) b) 96 (Int.toNat (G 64 44)) x) 97 (Int.toNat (G 64 44)) y) 98 (Int.toNat (G 64 44)) 0) from ?_)
                        refine lupI (g_X12_board_125 G a b x y z) (gs (gs (gs (gs (gs G 94 (Int.toNat (G 64 44)) a) 95 (Int.toNat (G 64 44)) b) 96 (Int.toNat (G 64 44)) x) 97 (Int.toNat (G 64 44)) y) 98 (Int.toNat (G 64 44)) 0) (fun j1 s1 => W2 o_X12 M_X12_board (inN [64, 94, 95, 96, 97, 98, 105]) (d + 1) Q 125 [some (mR 69), some (mI a), some (mI b), some (mI x), some (mI y), some (mI z), some (mI ((j1 : Nat) : Int))] [] s1) (fun (_ : Nat) s => s 64 44 = G 64 44) 26 ⟨by simp (disch := decide) only [gs_ne], fun j s _ hI => by unfold g_X12_board_125; rw [gs_ne (by decide)]; exact hI⟩ (fun j1 s1 hj1 hI1 ih1 => ?_) (fun hI1 => ?_)
                        · have ih1 : W2 o_X12 M_X12_board (inN [64, 94, 95, 96, 97, 98, 105]) (d + 1) Q 125 [some (mR 69), some (mI a), some (mI b), some (mI x), some (mI y), some (mI z), some (mI ((j1 + 1 : Nat) : Int))] [] (g_X12_board_125 G a b x y z j1 s1) := ih1
                          unfold g_X12_board_125 at ih1
                          have hI1a : s1 64 44 = G 64 44 := hI1
                          refine w2_vc [65, 75, 85, 96, 122, 125, 148, 164] 400 oo_X12 q_X12_board ?_
                          refine ⟨fun (c14 : 26 ≤ ((j1 : Nat) : Int)) => ?_, fun (c14 : ((j1 : Nat) : Int) < 26) => ?_⟩
                          · skip
                            exfalso; first | omega | (rw [w32_i (by omega) (by omega)] at c14; omega) | (simp (disch := omega) only [w32_i] at *; omega)
                          · skip
                            refine ⟨(show 0 ≤ (w32 ((w32 (9 * ((j1 : Nat) : Int))) + (s1 64 44))) ∧ (w32 ((w32 (9 * ((j1 : Nat) : Int))) + (s1 64 44))) < ((234 : Nat) : Int) from by first | omega | (simp (disch := omega) only [w32_i]; omega)), ?_⟩
                            refine (show W2 o_X12 M_X12_board (inN [64, 94, 95, 96, 97, 98, 105]) (d + 1) Q 148 [some (mR 69), some (mI a), some (mI b), some (mI x), some (mI y), some (mI z), some (mI ((j1 : Nat) : Int))] [] (gs s1 105 (Int.toNat (w32 ((w32 (9 * ((j1 : Nat) : Int))) + (s1 64 44)))) (-1)) from ?_)
                            refine w2_vc [65, 75, 85, 96, 122, 125, 148, 164] 400 oo_X12 q_X12_board ?_
                            refine (show W2 o_X12 M_X12_board (inN [64, 94, 95, 96, 97, 98, 105]) (d + 1) Q 125 [some (mR 69), some (mI a), some (mI b), some (mI x), some (mI y), some (mI z), some (mI (w32 (((j1 : Nat) : Int) + 1)))] [] (gs s1 105 (Int.toNat (w32 ((w32 (9 * ((j1 : Nat) : Int))) + (s1 64 44)))) (-1)) from ?_)
                            rw [w32_nat (by omega)]
                            exact ih1
                        · skip
                          refine (show W2 o_X12 M_X12_board (inN [64, 94, 95, 96, 97, 98, 105]) (d + 1) Q 125 [some (mR 69), some (mI a), some (mI b), some (mI x), some (mI y), some (mI z), some (mI ((26 : Nat) : Int))] [] (fd (g_X12_board_125 G a b x y z) (gs (gs (gs (gs (gs G 94 (Int.toNat (G 64 44)) a) 95 (Int.toNat (G 64 44)) b) 96 (Int.toNat (G 64 44)) x) 97 (Int.toNat (G 64 44)) y) 98 (Int.toNat (G 64 44)) 0) 26) from ?_)
                          have hI1a : (fd (g_X12_board_125 G a b x y z) (gs (gs (gs (gs (gs G 94 (Int.toNat (G 64 44)) a) 95 (Int.toNat (G 64 44)) b) 96 (Int.toNat (G 64 44)) x) 97 (Int.toNat (G 64 44)) y) 98 (Int.toNat (G 64 44)) 0) 26) 64 44 = G 64 44 := hI1
                          refine w2_vc [65, 75, 85, 96, 122, 125, 148, 164] 400 oo_X12 q_X12_board ?_
                          refine ⟨fun (c15 : 26 ≤ ((26 : Nat) : Int)) => ?_, fun (c15 : ((26 : Nat) : Int) < 26) => ?_⟩
                          · skip
                            refine (show W2 o_X12 M_X12_board (inN [64, 94, 95, 96, 97, 98, 105]) (d + 1) Q 164 [some (mR 69), some (mI a), some (mI b), some (mI x), some (mI y), some (mI z), some (mI ((26 : Nat) : Int))] [] (gs (fd (g_X12_board_125 G a b x y z) (gs (gs (gs (gs (gs G 94 (Int.toNat (G 64 44)) a) 95 (Int.toNat (G 64 44)) b) 96 (Int.toNat (G 64 44)) x) 97 (Int.toNat (G 64 44)) y) 98 (Int.toNat (G 64 44)) 0) 26) 64 44 (w32 (((fd (g_X12_board_125 G a b x y z) (gs (gs (gs (gs (gs G 94 (Int.toNat (G 64 44)) a) 95 (Int.toNat (G 64 44)) b) 96 (Int.toNat (G 64 44)) x) 97 (Int.toNat (G 64 44)) y) 98 (Int.toNat (G 64 44)) 0) 26) 64 44) + 1))) from ?_)
                            refine w2_vc [65, 75, 85, 96, 122, 125, 148, 164] 400 oo_X12 q_X12_board ?_
                            exact h
                          · skip
                            exfalso; first | omega | (rw [w32_i (by omega) (by omega)] at c15; omega) | (simp (disch := omega) only [w32_i] at *; omega)
                      · rw [if_neg (Int.not_le.mpr c13)] at h
                        refine ⟨(show 0 ≤ (G 64 44) ∧ (G 64 44) < ((9 : Nat) : Int) from by first | omega | (simp (disch := omega) only [w32_i]; omega)), by omega, ?_⟩
                        refine (show W2 o_X12 M_X12_board (inN [64, 94, 95, 96, 97, 98, 105]) (d + 1) Q 122 [some (mR 69), some (mI a), some (mI b), some (mI x), some (mI y), some (mI z), none] [] (gs (gs (gs (gs (gs G 94 (Int.toNat (G 64 44)) a) 95 (Int.toNat (G 64 44)) b) 96 (Int.toNat (G 64 44)) x) 97 (Int.toNat (G 64 44)) y) 98 (Int.toNat (G 64 44)) 1) from ?_)
                        refine w2_vc [65, 75, 85, 96, 122, 125, 148, 164] 400 oo_X12 q_X12_board ?_
                        refine (show W2 o_X12 M_X12_board (inN [64, 94, 95, 96, 97, 98, 105]) (d + 1) Q 125 [some (mR 69), some (mI a), some (mI b), some (mI x), some (mI y), some (mI z), some (mI ((0 : Nat) : Int))] [] (gs (gs (gs (gs (gs G 94 (Int.toNat (G 64 44)) a) 95 (Int.toNat (G 64 44)) b) 96 (Int.toNat (G 64 44)) x) 97 (Int.toNat (G 64 44)) y) 98 (Int.toNat (G 64 44)) 1) from ?_)
                        refine lupI (g_X12_board_125 G a b x y z) (gs (gs (gs (gs (gs G 94 (Int.toNat (G 64 44)) a) 95 (Int.toNat (G 64 44)) b) 96 (Int.toNat (G 64 44)) x) 97 (Int.toNat (G 64 44)) y) 98 (Int.toNat (G 64 44)) 1) (fun j1 s1 => W2 o_X12 M_X12_board (inN [64, 94, 95, 96, 97, 98, 105]) (d + 1) Q 125 [some (mR 69), some (mI a), some (mI b), some (mI x), some (mI y), some (mI z), some (mI ((j1 : Nat) : Int))] [] s1) (fun (_ : Nat) s => s 64 44 = G 64 44) 26 ⟨by simp (disch := decide) only [gs_ne], fun j s _ hI => by unfold g_X12_board_125; rw [gs_ne (by decide)]; exact hI⟩ (fun j1 s1 hj1 hI1 ih1 => ?_) (fun hI1 => ?_)
                        · have ih1 : W2 o_X12 M_X12_board (inN [64, 94, 95, 96, 97, 98, 105]) (d + 1) Q 125 [some (mR 69), some (mI a), some (mI b), some (mI x), some (mI y), some (mI z), some (mI ((j1 + 1 : Nat) : Int))] [] (g_X12_board_125 G a b x y z j1 s1) := ih1
                          unfold g_X12_board_125 at ih1
                          have hI1a : s1 64 44 = G 64 44 := hI1
                          refine w2_vc [65, 75, 85, 96, 122, 125, 148, 164] 400 oo_X12 q_X12_board ?_
                          refine ⟨fun (c16 : 26 ≤ ((j1 : Nat) : Int)) => ?_, fun (c16 : ((j1 : Nat) : Int) < 26) => ?_⟩
                          · skip
                            exfalso; first | omega | (rw [w32_i (by omega) (by omega)] at c16; omega) | (simp (disch := omega) only [w32_i] at *; omega)
                          · skip
                            refine ⟨(show 0 ≤ (w32 ((w32 (9 * ((j1 : Nat) : Int))) + (s1 64 44))) ∧ (w32 ((w32 (9 * ((j1 : Nat) : Int))) + (s1 64 44))) < ((234 : Nat) : Int) from by first | omega | (simp (disch := omega) only [w32_i]; omega)), ?_⟩
                            refine (show W2 o_X12 M_X12_board (inN [64, 94, 95, 96, 97, 98, 105]) (d + 1) Q 148 [some (mR 69), some (mI a), some (mI b), some (mI x), some (mI y), some (mI z), some (mI ((j1 : Nat) : Int))] [] (gs s1 105 (Int.toNat (w32 ((w32 (9 * ((j1 : Nat) : Int))) + (s1 64 44)))) (-1)) from ?_)
                            refine w2_vc [65, 75, 85, 96, 122, 125, 148, 164] 400 oo_X12 q_X12_board ?_
                            refine (show W2 o_X12 M_X12_board (inN [64, 94, 95, 96, 97, 98, 105]) (d + 1) Q 125 [some (mR 69), some (mI a), some (mI b), some (mI x), some (mI y), some (mI z), some (mI (w32 (((j1 : Nat) : Int) + 1)))] [] (gs s1 105 (Int.toNat (w32 ((w32 (9 * ((j1 : Nat) : Int))) + (s1 64 44)))) (-1)) from ?_)
                            rw [w32_nat (by omega)]
                            exact ih1
                        · skip
                          refine (show W2 o_X12 M_X12_board (inN [64, 94, 95, 96, 97, 98, 105]) (d + 1) Q 125 [some (mR 69), some (mI a), some (mI b), some (mI x), some (mI y), some (mI z), some (mI ((26 : Nat) : Int))] [] (fd (g_X12_board_125 G a b x y z) (gs (gs (gs (gs (gs G 94 (Int.toNat (G 64 44)) a) 95 (Int.toNat (G 64 44)) b) 96 (Int.toNat (G 64 44)) x) 97 (Int.toNat (G 64 44)) y) 98 (Int.toNat (G 64 44)) 1) 26) from ?_)
                          have hI1a : (fd (g_X12_board_125 G a b x y z) (gs (gs (gs (gs (gs G 94 (Int.toNat (G 64 44)) a) 95 (Int.toNat (G 64 44)) b) 96 (Int.toNat (G 64 44)) x) 97 (Int.toNat (G 64 44)) y) 98 (Int.toNat (G 64 44)) 1) 26) 64 44 = G 64 44 := hI1
                          refine w2_vc [65, 75, 85, 96, 122, 125, 148, 164] 400 oo_X12 q_X12_board ?_
                          refine ⟨fun (c17 : 26 ≤ ((26 : Nat) : Int)) => ?_, fun (c17 : ((26 : Nat) : Int) < 26) => ?_⟩
                          · skip
                            refine (show W2 o_X12 M_X12_board (inN [64, 94, 95, 96, 97, 98, 105]) (d + 1) Q 164 [some (mR 69), some (mI a), some (mI b), some (mI x), some (mI y), some (mI z), some (mI ((26 : Nat) : Int))] [] (gs (fd (g_X12_board_125 G a b x y z) (gs (gs (gs (gs (gs G 94 (Int.toNat (G 64 44)) a) 95 (Int.toNat (G 64 44)) b) 96 (Int.toNat (G 64 44)) x) 97 (Int.toNat (G 64 44)) y) 98 (Int.toNat (G 64 44)) 1) 26) 64 44 (w32 (((fd (g_X12_board_125 G a b x y z) (gs (gs (gs (gs (gs G 94 (Int.toNat (G 64 44)) a) 95 (Int.toNat (G 64 44)) b) 96 (Int.toNat (G 64 44)) x) 97 (Int.toNat (G 64 44)) y) 98 (Int.toNat (G 64 44)) 1) 26) 64 44) + 1))) from ?_)
                            refine w2_vc [65, 75, 85, 96, 122, 125, 148, 164] 400 oo_X12 q_X12_board ?_
                            exact h
                          · skip
                            exfalso; first | omega | (rw [w32_i (by omega) (by omega)] at c17; omega) | (simp (disch := omega) only [w32_i] at *; omega)
                  · rw [if_neg (Int.not_le.mpr c9)] at h
                    exact h
