/-! ===== printed by wip/whole/gen23.py: fills, strings, givings, the course, the judge ===== -/
def f_X6_rankOf (G : mG) (x : Int) : Int := (if x = 7 then 4 else (if x = 8 then 4 else (if x = 9 then 5 else (if x = 10 then 3 else (if x = 11 then 3 else (if x = 12 then 3 else (if x = 13 then 3 else (if x = 25 then 1 else (if x = 26 then 2 else 0)))))))))
theorem sp_X6_rankOf {D : Nat → Bool} {d : Nat} {G : mG} {x : Int} {Q : Option mV → mG → Prop} (h : Q (some (mI (f_X6_rankOf G x))) G) : P2 D (d + 1) M_X6_rankOf [mI x] G Q := by
  unfold f_X6_rankOf at h
  refine p2_vc [] 400 oo_X6 q_X6_rankOf (by decide) rfl (Nat.le_of_ble_eq_true rfl) ?_
  refine ⟨fun (c1 : x < 7 ∨ 26 < x) => ?_, fun (c1 : x = 7) => ?_, fun (c1 : x = 8) => ?_, fun (c1 : x = 9) => ?_, fun (c1 : x = 10) => ?_, fun (c1 : x = 11) => ?_, fun (c1 : x = 12) => ?_, fun (c1 : x = 13) => ?_, fun (c1 : x = 14) => ?_, fun (c1 : x = 15) => ?_, fun (c1 : x = 16) => ?_, fun (c1 : x = 17) => ?_, fun (c1 : x = 18) => ?_, fun (c1 : x = 19) => ?_, fun (c1 : x = 20) => ?_, fun (c1 : x = 21) => ?_, fun (c1 : x = 22) => ?_, fun (c1 : x = 23) => ?_, fun (c1 : x = 24) => ?_, fun (c1 : x = 25) => ?_, fun (c1 : x = 26) => ?_, trivial⟩
  · skip
    rw [if_neg (show ¬ x = 7 from by omega)] at h
    rw [if_neg (show ¬ x = 8 from by omega)] at h
    rw [if_neg (show ¬ x = 9 from by omega)] at h
    rw [if_neg (show ¬ x = 10 from by omega)] at h
    rw [if_neg (show ¬ x = 11 from by omega)] at h
    rw [if_neg (show ¬ x = 12 from by omega)] at h
    rw [if_neg (show ¬ x = 13 from by omega)] at h
    rw [if_neg (show ¬ x = 25 from by omega)] at h
    rw [if_neg (show ¬ x = 26 from by omega)] at h
    exact h
  · skip
    rw [if_pos c1] at h
    exact h
  · skip
    rw [if_neg (show ¬ x = 7 from by omega)] at h
    rw [if_pos c1] at h
    exact h
  · skip
    rw [if_neg (show ¬ x = 7 from by omega)] at h
    rw [if_neg (show ¬ x = 8 from by omega)] at h
    rw [if_pos c1] at h
    exact h
  · skip
    rw [if_neg (show ¬ x = 7 from by omega)] at h
    rw [if_neg (show ¬ x = 8 from by omega)] at h
    rw [if_neg (show ¬ x = 9 from by omega)] at h
    rw [if_pos c1] at h
    exact h
  · skip
    rw [if_neg (show ¬ x = 7 from by omega)] at h
    rw [if_neg (show ¬ x = 8 from by omega)] at h
    rw [if_neg (show ¬ x = 9 from by omega)] at h
    rw [if_neg (show ¬ x = 10 from by omega)] at h
    rw [if_pos c1] at h
    exact h
  · skip
    rw [if_neg (show ¬ x = 7 from by omega)] at h
    rw [if_neg (show ¬ x = 8 from by omega)] at h
    rw [if_neg (show ¬ x = 9 from by omega)] at h
    rw [if_neg (show ¬ x = 10 from by omega)] at h
    rw [if_neg (show ¬ x = 11 from by omega)] at h
    rw [if_pos c1] at h
    exact h
  · skip
    rw [if_neg (show ¬ x = 7 from by omega)] at h
    rw [if_neg (show ¬ x = 8 from by omega)] at h
    rw [if_neg (show ¬ x = 9 from by omega)] at h
    rw [if_neg (show ¬ x = 10 from by omega)] at h
    rw [if_neg (show ¬ x = 11 from by omega)] at h
    rw [if_neg (show ¬ x = 12 from by omega)] at h
    rw [if_pos c1] at h
    exact h
  · skip
    rw [if_neg (show ¬ x = 7 from by omega)] at h
    rw [if_neg (show ¬ x = 8 from by omega)] at h
    rw [if_neg (show ¬ x = 9 from by omega)] at h
    rw [if_neg (show ¬ x = 10 from by omega)] at h
    rw [if_neg (show ¬ x = 11 from by omega)] at h
    rw [if_neg (show ¬ x = 12 from by omega)] at h
    rw [if_neg (show ¬ x = 13 from by omega)] at h
    rw [if_neg (show ¬ x = 25 from by omega)] at h
    rw [if_neg (show ¬ x = 26 from by omega)] at h
    exact h
  · skip
    rw [if_neg (show ¬ x = 7 from by omega)] at h
    rw [if_neg (show ¬ x = 8 from by omega)] at h
    rw [if_neg (show ¬ x = 9 from by omega)] at h
    rw [if_neg (show ¬ x = 10 from by omega)] at h
    rw [if_neg (show ¬ x = 11 from by omega)] at h
    rw [if_neg (show ¬ x = 12 from by omega)] at h
    rw [if_neg (show ¬ x = 13 from by omega)] at h
    rw [if_neg (show ¬ x = 25 from by omega)] at h
    rw [if_neg (show ¬ x = 26 from by omega)] at h
    exact h
  · skip
    rw [if_neg (show ¬ x = 7 from by omega)] at h
    rw [if_neg (show ¬ x = 8 from by omega)] at h
    rw [if_neg (show ¬ x = 9 from by omega)] at h
    rw [if_neg (show ¬ x = 10 from by omega)] at h
    rw [if_neg (show ¬ x = 11 from by omega)] at h
    rw [if_neg (show ¬ x = 12 from by omega)] at h
    rw [if_neg (show ¬ x = 13 from by omega)] at h
    rw [if_neg (show ¬ x = 25 from by omega)] at h
    rw [if_neg (show ¬ x = 26 from by omega)] at h
    exact h
  · skip
    rw [if_neg (show ¬ x = 7 from by omega)] at h
    rw [if_neg (show ¬ x = 8 from by omega)] at h
    rw [if_neg (show ¬ x = 9 from by omega)] at h
    rw [if_neg (show ¬ x = 10 from by omega)] at h
    rw [if_neg (show ¬ x = 11 from by omega)] at h
    rw [if_neg (show ¬ x = 12 from by omega)] at h
    rw [if_neg (show ¬ x = 13 from by omega)] at h
    rw [if_neg (show ¬ x = 25 from by omega)] at h
    rw [if_neg (show ¬ x = 26 from by omega)] at h
    exact h
  · skip
    rw [if_neg (show ¬ x = 7 from by omega)] at h
    rw [if_neg (show ¬ x = 8 from by omega)] at h
    rw [if_neg (show ¬ x = 9 from by omega)] at h
    rw [if_neg (show ¬ x = 10 from by omega)] at h
    rw [if_neg (show ¬ x = 11 from by omega)] at h
    rw [if_neg (show ¬ x = 12 from by omega)] at h
    rw [if_neg (show ¬ x = 13 from by omega)] at h
    rw [if_neg (show ¬ x = 25 from by omega)] at h
    rw [if_neg (show ¬ x = 26 from by omega)] at h
    exact h
  · skip
    rw [if_neg (show ¬ x = 7 from by omega)] at h
    rw [if_neg (show ¬ x = 8 from by omega)] at h
    rw [if_neg (show ¬ x = 9 from by omega)] at h
    rw [if_neg (show ¬ x = 10 from by omega)] at h
    rw [if_neg (show ¬ x = 11 from by omega)] at h
    rw [if_neg (show ¬ x = 12 from by omega)] at h
    rw [if_neg (show ¬ x = 13 from by omega)] at h
    rw [if_neg (show ¬ x = 25 from by omega)] at h
    rw [if_neg (show ¬ x = 26 from by omega)] at h
    exact h
  · skip
    rw [if_neg (show ¬ x = 7 from by omega)] at h
    rw [if_neg (show ¬ x = 8 from by omega)] at h
    rw [if_neg (show ¬ x = 9 from by omega)] at h
    rw [if_neg (show ¬ x = 10 from by omega)] at h
    rw [if_neg (show ¬ x = 11 from by omega)] at h
    rw [if_neg (show ¬ x = 12 from by omega)] at h
    rw [if_neg (show ¬ x = 13 from by omega)] at h
    rw [if_neg (show ¬ x = 25 from by omega)] at h
    rw [if_neg (show ¬ x = 26 from by omega)] at h
    exact h
  · skip
    rw [if_neg (show ¬ x = 7 from by omega)] at h
    rw [if_neg (show ¬ x = 8 from by omega)] at h
    rw [if_neg (show ¬ x = 9 from by omega)] at h
    rw [if_neg (show ¬ x = 10 from by omega)] at h
    rw [if_neg (show ¬ x = 11 from by omega)] at h
    rw [if_neg (show ¬ x = 12 from by omega)] at h
    rw [if_neg (show ¬ x = 13 from by omega)] at h
    rw [if_neg (show ¬ x = 25 from by omega)] at h
    rw [if_neg (show ¬ x = 26 from by omega)] at h
    exact h
  · skip
    rw [if_neg (show ¬ x = 7 from by omega)] at h
    rw [if_neg (show ¬ x = 8 from by omega)] at h
    rw [if_neg (show ¬ x = 9 from by omega)] at h
    rw [if_neg (show ¬ x = 10 from by omega)] at h
    rw [if_neg (show ¬ x = 11 from by omega)] at h
    rw [if_neg (show ¬ x = 12 from by omega)] at h
    rw [if_neg (show ¬ x = 13 from by omega)] at h
    rw [if_neg (show ¬ x = 25 from by omega)] at h
    rw [if_neg (show ¬ x = 26 from by omega)] at h
    exact h
  · skip
    rw [if_neg (show ¬ x = 7 from by omega)] at h
    rw [if_neg (show ¬ x = 8 from by omega)] at h
    rw [if_neg (show ¬ x = 9 from by omega)] at h
    rw [if_neg (show ¬ x = 10 from by omega)] at h
    rw [if_neg (show ¬ x = 11 from by omega)] at h
    rw [if_neg (show ¬ x = 12 from by omega)] at h
    rw [if_neg (show ¬ x = 13 from by omega)] at h
    rw [if_neg (show ¬ x = 25 from by omega)] at h
    rw [if_neg (show ¬ x = 26 from by omega)] at h
    exact h
  · skip
    rw [if_neg (show ¬ x = 7 from by omega)] at h
    rw [if_neg (show ¬ x = 8 from by omega)] at h
    rw [if_neg (show ¬ x = 9 from by omega)] at h
    rw [if_neg (show ¬ x = 10 from by omega)] at h
    rw [if_neg (show ¬ x = 11 from by omega)] at h
    rw [if_neg (show ¬ x = 12 from by omega)] at h
    rw [if_neg (show ¬ x = 13 from by omega)] at h
    rw [if_neg (show ¬ x = 25 from by omega)] at h
    rw [if_neg (show ¬ x = 26 from by omega)] at h
    exact h
  · skip
    rw [if_neg (show ¬ x = 7 from by omega)] at h
    rw [if_neg (show ¬ x = 8 from by omega)] at h
    rw [if_neg (show ¬ x = 9 from by omega)] at h
    rw [if_neg (show ¬ x = 10 from by omega)] at h
    rw [if_neg (show ¬ x = 11 from by omega)] at h
    rw [if_neg (show ¬ x = 12 from by omega)] at h
    rw [if_neg (show ¬ x = 13 from by omega)] at h
    rw [if_pos c1] at h
    exact h
  · skip
    rw [if_neg (show ¬ x = 7 from by omega)] at h
    rw [if_neg (show ¬ x = 8 from by omega)] at h
    rw [if_neg (show ¬ x = 9 from by omega)] at h
    rw [if_neg (show ¬ x = 10 from by omega)] at h
    rw [if_neg (show ¬ x = 11 from by omega)] at h
    rw [if_neg (show ¬ x = 12 from by omega)] at h
    rw [if_neg (show ¬ x = 13 from by omega)] at h
    rw [if_neg (show ¬ x = 25 from by omega)] at h
    rw [if_pos c1] at h
    exact h
def g_fill_22_5 (G : mG) (x : Int) : Nat → mG → mG := fun j1 s1 => (gs s1 22 (Int.toNat ((j1 : Nat) : Int)) x)
def e_fill_22 (G : mG) (x : Int) : mG := (fd (g_fill_22_5 G x) G 234)
theorem fr_g_fill_22_5 (G : mG) (x : Int) {k : Nat} (hk : ∀ a ∈ ([22] : List Nat), k ≠ a) (j : Nat) (s : mG) : (g_fill_22_5 G x j s) k = s k := by
  unfold g_fill_22_5
  repeat' with_reducible first | apply ite_f | apply ite_f2 | apply ite_p | apply ite_p2
  all_goals first | (simp only [gs_ne (hk (22) (by simp))]; done) | rfl
theorem fr_fill_22 {G : mG} {x : Int} {k : Nat} (hk : ∀ a ∈ ([22] : List Nat), k ≠ a) : (e_fill_22 G x) k = G k := by
  unfold e_fill_22
  repeat' with_reducible first | apply ite_f | apply ite_f2 | apply ite_p | apply ite_p2
  all_goals first | (simp only [gs_ne (hk (22) (by simp)), fd_fr (fr_g_fill_22_5 _ _ hk)]; done) | rfl
theorem sp_fill_22 {D : Nat → Bool} {d : Nat} {G : mG} {x : Int} {Q : Option mV → mG → Prop} (hD : ∀ k, D k = false → inN [22] k = false) (h : Q none (e_fill_22 G x)) : P2 D (d + 1) M_J7_fill_53178 [mR 27, mI x] G Q := by
  unfold e_fill_22 at h
  refine MP.to (D2 := inN [22]) (Q2 := Q) ?_ hD (fun v G' q _ => q)
  refine p2_vc [5, 14] 400 oo_J7 q_J7_fill_53178 (by decide) rfl (Nat.le_of_ble_eq_true rfl) ?_
  refine (show W2 o_J7 M_J7_fill_53178 (inN [22]) (d + 1) Q 5 [some (mR 27), some (mI x), some (mI ((0 : Nat) : Int)), some (mI ((234 : Nat) : Int))] [] G from ?_)
  refine lup (g_fill_22_5 G x) G (fun j1 s1 => W2 o_J7 M_J7_fill_53178 (inN [22]) (d + 1) Q 5 [some (mR 27), some (mI x), some (mI ((j1 : Nat) : Int)), some (mI ((234 : Nat) : Int))] [] s1) 234 (fun j1 s1 hj1 ih1 => ?_) ?_
  · have ih1 : W2 o_J7 M_J7_fill_53178 (inN [22]) (d + 1) Q 5 [some (mR 27), some (mI x), some (mI ((j1 + 1 : Nat) : Int)), some (mI ((234 : Nat) : Int))] [] (g_fill_22_5 G x j1 s1) := ih1
    unfold g_fill_22_5 at ih1
    refine w2_vc [5, 14] 400 oo_J7 q_J7_fill_53178 ?_
    refine ⟨fun (c1 : ((234 : Nat) : Int) ≤ ((j1 : Nat) : Int)) => ?_, fun (c1 : ((j1 : Nat) : Int) < ((234 : Nat) : Int)) => ?_⟩
    · skip
      exfalso; first | omega | (rw [w32_i (by omega) (by omega)] at c1; omega) | (simp (disch := omega) only [w32_i] at *; omega)
    · skip
      refine ⟨(show 0 ≤ ((j1 : Nat) : Int) ∧ ((j1 : Nat) : Int) < ((234 : Nat) : Int) from by first | omega | (simp (disch := omega) only [w32_i]; omega)), ?_⟩
      refine (show W2 o_J7 M_J7_fill_53178 (inN [22]) (d + 1) Q 14 [some (mR 27), some (mI x), some (mI ((j1 : Nat) : Int)), some (mI ((234 : Nat) : Int))] [] (gs s1 22 (Int.toNat ((j1 : Nat) : Int)) x) from ?_)
      refine w2_vc [5, 14] 400 oo_J7 q_J7_fill_53178 ?_
      refine (show W2 o_J7 M_J7_fill_53178 (inN [22]) (d + 1) Q 5 [some (mR 27), some (mI x), some (mI (w32 (((j1 : Nat) : Int) + 1))), some (mI ((234 : Nat) : Int))] [] (gs s1 22 (Int.toNat ((j1 : Nat) : Int)) x) from ?_)
      rw [w32_nat (by omega)]
      exact ih1
  · skip
    refine (show W2 o_J7 M_J7_fill_53178 (inN [22]) (d + 1) Q 5 [some (mR 27), some (mI x), some (mI ((234 : Nat) : Int)), some (mI ((234 : Nat) : Int))] [] (fd (g_fill_22_5 G x) G 234) from ?_)
    refine w2_vc [5, 14] 400 oo_J7 q_J7_fill_53178 ?_
    refine ⟨fun (c2 : ((234 : Nat) : Int) ≤ ((234 : Nat) : Int)) => ?_, fun (c2 : ((234 : Nat) : Int) < ((234 : Nat) : Int)) => ?_⟩
    · skip
      exact h
    · skip
      exfalso; first | omega | (rw [w32_i (by omega) (by omega)] at c2; omega) | (simp (disch := omega) only [w32_i] at *; omega)
theorem e_fill_22_eq (G : mG) (x : Int) : e_fill_22 G x = gf G 22 234 x := fd_gf (fun j s _ => by show gs s 22 (Int.toNat ((j : Nat) : Int)) x = _; rw [st_nat])
def g_fill_27_5 (G : mG) (x : Int) : Nat → mG → mG := fun j1 s1 => (gs s1 27 (Int.toNat ((j1 : Nat) : Int)) x)
def e_fill_27 (G : mG) (x : Int) : mG := (fd (g_fill_27_5 G x) G 14)
theorem fr_g_fill_27_5 (G : mG) (x : Int) {k : Nat} (hk : ∀ a ∈ ([27] : List Nat), k ≠ a) (j : Nat) (s : mG) : (g_fill_27_5 G x j s) k = s k := by
  unfold g_fill_27_5
  repeat' with_reducible first | apply ite_f | apply ite_f2 | apply ite_p | apply ite_p2
  all_goals first | (simp only [gs_ne (hk (27) (by simp))]; done) | rfl
theorem fr_fill_27 {G : mG} {x : Int} {k : Nat} (hk : ∀ a ∈ ([27] : List Nat), k ≠ a) : (e_fill_27 G x) k = G k := by
  unfold e_fill_27
  repeat' with_reducible first | apply ite_f | apply ite_f2 | apply ite_p | apply ite_p2
  all_goals first | (simp only [gs_ne (hk (27) (by simp)), fd_fr (fr_g_fill_27_5 _ _ hk)]; done) | rfl
theorem sp_fill_27 {D : Nat → Bool} {d : Nat} {G : mG} {x : Int} {Q : Option mV → mG → Prop} (hD : ∀ k, D k = false → inN [27] k = false) (h : Q none (e_fill_27 G x)) : P2 D (d + 1) M_J7_fill_53178 [mR 32, mI x] G Q := by
  unfold e_fill_27 at h
  refine MP.to (D2 := inN [27]) (Q2 := Q) ?_ hD (fun v G' q _ => q)
  refine p2_vc [5, 14] 400 oo_J7 q_J7_fill_53178 (by decide) rfl (Nat.le_of_ble_eq_true rfl) ?_
  refine (show W2 o_J7 M_J7_fill_53178 (inN [27]) (d + 1) Q 5 [some (mR 32), some (mI x), some (mI ((0 : Nat) : Int)), some (mI ((14 : Nat) : Int))] [] G from ?_)
  refine lup (g_fill_27_5 G x) G (fun j1 s1 => W2 o_J7 M_J7_fill_53178 (inN [27]) (d + 1) Q 5 [some (mR 32), some (mI x), some (mI ((j1 : Nat) : Int)), some (mI ((14 : Nat) : Int))] [] s1) 14 (fun j1 s1 hj1 ih1 => ?_) ?_
  · have ih1 : W2 o_J7 M_J7_fill_53178 (inN [27]) (d + 1) Q 5 [some (mR 32), some (mI x), some (mI ((j1 + 1 : Nat) : Int)), some (mI ((14 : Nat) : Int))] [] (g_fill_27_5 G x j1 s1) := ih1
    unfold g_fill_27_5 at ih1
    refine w2_vc [5, 14] 400 oo_J7 q_J7_fill_53178 ?_
    refine ⟨fun (c1 : ((14 : Nat) : Int) ≤ ((j1 : Nat) : Int)) => ?_, fun (c1 : ((j1 : Nat) : Int) < ((14 : Nat) : Int)) => ?_⟩
    · skip
      exfalso; first | omega | (rw [w32_i (by omega) (by omega)] at c1; omega) | (simp (disch := omega) only [w32_i] at *; omega)
    · skip
      refine ⟨(show 0 ≤ ((j1 : Nat) : Int) ∧ ((j1 : Nat) : Int) < ((14 : Nat) : Int) from by first | omega | (simp (disch := omega) only [w32_i]; omega)), ?_⟩
      refine (show W2 o_J7 M_J7_fill_53178 (inN [27]) (d + 1) Q 14 [some (mR 32), some (mI x), some (mI ((j1 : Nat) : Int)), some (mI ((14 : Nat) : Int))] [] (gs s1 27 (Int.toNat ((j1 : Nat) : Int)) x) from ?_)
      refine w2_vc [5, 14] 400 oo_J7 q_J7_fill_53178 ?_
      refine (show W2 o_J7 M_J7_fill_53178 (inN [27]) (d + 1) Q 5 [some (mR 32), some (mI x), some (mI (w32 (((j1 : Nat) : Int) + 1))), some (mI ((14 : Nat) : Int))] [] (gs s1 27 (Int.toNat ((j1 : Nat) : Int)) x) from ?_)
      rw [w32_nat (by omega)]
      exact ih1
  · skip
    refine (show W2 o_J7 M_J7_fill_53178 (inN [27]) (d + 1) Q 5 [some (mR 32), some (mI x), some (mI ((14 : Nat) : Int)), some (mI ((14 : Nat) : Int))] [] (fd (g_fill_27_5 G x) G 14) from ?_)
    refine w2_vc [5, 14] 400 oo_J7 q_J7_fill_53178 ?_
    refine ⟨fun (c2 : ((14 : Nat) : Int) ≤ ((14 : Nat) : Int)) => ?_, fun (c2 : ((14 : Nat) : Int) < ((14 : Nat) : Int)) => ?_⟩
    · skip
      exact h
    · skip
      exfalso; first | omega | (rw [w32_i (by omega) (by omega)] at c2; omega) | (simp (disch := omega) only [w32_i] at *; omega)
theorem e_fill_27_eq (G : mG) (x : Int) : e_fill_27 G x = gf G 27 14 x := fd_gf (fun j s _ => by show gs s 27 (Int.toNat ((j : Nat) : Int)) x = _; rw [st_nat])
def g_fill_34_5 (G : mG) (x : Int) : Nat → mG → mG := fun j1 s1 => (gs s1 34 (Int.toNat ((j1 : Nat) : Int)) x)
def e_fill_34 (G : mG) (x : Int) : mG := (fd (g_fill_34_5 G x) G 400)
theorem fr_g_fill_34_5 (G : mG) (x : Int) {k : Nat} (hk : ∀ a ∈ ([34] : List Nat), k ≠ a) (j : Nat) (s : mG) : (g_fill_34_5 G x j s) k = s k := by
  unfold g_fill_34_5
  repeat' with_reducible first | apply ite_f | apply ite_f2 | apply ite_p | apply ite_p2
  all_goals first | (simp only [gs_ne (hk (34) (by simp))]; done) | rfl
theorem fr_fill_34 {G : mG} {x : Int} {k : Nat} (hk : ∀ a ∈ ([34] : List Nat), k ≠ a) : (e_fill_34 G x) k = G k := by
  unfold e_fill_34
  repeat' with_reducible first | apply ite_f | apply ite_f2 | apply ite_p | apply ite_p2
  all_goals first | (simp only [gs_ne (hk (34) (by simp)), fd_fr (fr_g_fill_34_5 _ _ hk)]; done) | rfl
theorem sp_fill_34 {D : Nat → Bool} {d : Nat} {G : mG} {x : Int} {Q : Option mV → mG → Prop} (hD : ∀ k, D k = false → inN [34] k = false) (h : Q none (e_fill_34 G x)) : P2 D (d + 1) M_J7_fill_53178 [mR 39, mI x] G Q := by
  unfold e_fill_34 at h
  refine MP.to (D2 := inN [34]) (Q2 := Q) ?_ hD (fun v G' q _ => q)
  refine p2_vc [5, 14] 400 oo_J7 q_J7_fill_53178 (by decide) rfl (Nat.le_of_ble_eq_true rfl) ?_
  refine (show W2 o_J7 M_J7_fill_53178 (inN [34]) (d + 1) Q 5 [some (mR 39), some (mI x), some (mI ((0 : Nat) : Int)), some (mI ((400 : Nat) : Int))] [] G from ?_)
  refine lup (g_fill_34_5 G x) G (fun j1 s1 => W2 o_J7 M_J7_fill_53178 (inN [34]) (d + 1) Q 5 [some (mR 39), some (mI x), some (mI ((j1 : Nat) : Int)), some (mI ((400 : Nat) : Int))] [] s1) 400 (fun j1 s1 hj1 ih1 => ?_) ?_
  · have ih1 : W2 o_J7 M_J7_fill_53178 (inN [34]) (d + 1) Q 5 [some (mR 39), some (mI x), some (mI ((j1 + 1 : Nat) : Int)), some (mI ((400 : Nat) : Int))] [] (g_fill_34_5 G x j1 s1) := ih1
    unfold g_fill_34_5 at ih1
    refine w2_vc [5, 14] 400 oo_J7 q_J7_fill_53178 ?_
    refine ⟨fun (c1 : ((400 : Nat) : Int) ≤ ((j1 : Nat) : Int)) => ?_, fun (c1 : ((j1 : Nat) : Int) < ((400 : Nat) : Int)) => ?_⟩
    · skip
      exfalso; first | omega | (rw [w32_i (by omega) (by omega)] at c1; omega) | (simp (disch := omega) only [w32_i] at *; omega)
    · skip
      refine ⟨(show 0 ≤ ((j1 : Nat) : Int) ∧ ((j1 : Nat) : Int) < ((400 : Nat) : Int) from by first | omega | (simp (disch := omega) only [w32_i]; omega)), ?_⟩
      refine (show W2 o_J7 M_J7_fill_53178 (inN [34]) (d + 1) Q 14 [some (mR 39), some (mI x), some (mI ((j1 : Nat) : Int)), some (mI ((400 : Nat) : Int))] [] (gs s1 34 (Int.toNat ((j1 : Nat) : Int)) x) from ?_)
      refine w2_vc [5, 14] 400 oo_J7 q_J7_fill_53178 ?_
      refine (show W2 o_J7 M_J7_fill_53178 (inN [34]) (d + 1) Q 5 [some (mR 39), some (mI x), some (mI (w32 (((j1 : Nat) : Int) + 1))), some (mI ((400 : Nat) : Int))] [] (gs s1 34 (Int.toNat ((j1 : Nat) : Int)) x) from ?_)
      rw [w32_nat (by omega)]
      exact ih1
  · skip
    refine (show W2 o_J7 M_J7_fill_53178 (inN [34]) (d + 1) Q 5 [some (mR 39), some (mI x), some (mI ((400 : Nat) : Int)), some (mI ((400 : Nat) : Int))] [] (fd (g_fill_34_5 G x) G 400) from ?_)
    refine w2_vc [5, 14] 400 oo_J7 q_J7_fill_53178 ?_
    refine ⟨fun (c2 : ((400 : Nat) : Int) ≤ ((400 : Nat) : Int)) => ?_, fun (c2 : ((400 : Nat) : Int) < ((400 : Nat) : Int)) => ?_⟩
    · skip
      exact h
    · skip
      exfalso; first | omega | (rw [w32_i (by omega) (by omega)] at c2; omega) | (simp (disch := omega) only [w32_i] at *; omega)
theorem e_fill_34_eq (G : mG) (x : Int) : e_fill_34 G x = gf G 34 400 x := fd_gf (fun j s _ => by show gs s 34 (Int.toNat ((j : Nat) : Int)) x = _; rw [st_nat])
def g_fill_37_5 (G : mG) (x : Int) : Nat → mG → mG := fun j1 s1 => (gs s1 37 (Int.toNat ((j1 : Nat) : Int)) x)
def e_fill_37 (G : mG) (x : Int) : mG := (fd (g_fill_37_5 G x) G 10)
theorem fr_g_fill_37_5 (G : mG) (x : Int) {k : Nat} (hk : ∀ a ∈ ([37] : List Nat), k ≠ a) (j : Nat) (s : mG) : (g_fill_37_5 G x j s) k = s k := by
  unfold g_fill_37_5
  repeat' with_reducible first | apply ite_f | apply ite_f2 | apply ite_p | apply ite_p2
  all_goals first | (simp only [gs_ne (hk (37) (by simp))]; done) | rfl
theorem fr_fill_37 {G : mG} {x : Int} {k : Nat} (hk : ∀ a ∈ ([37] : List Nat), k ≠ a) : (e_fill_37 G x) k = G k := by
  unfold e_fill_37
  repeat' with_reducible first | apply ite_f | apply ite_f2 | apply ite_p | apply ite_p2
  all_goals first | (simp only [gs_ne (hk (37) (by simp)), fd_fr (fr_g_fill_37_5 _ _ hk)]; done) | rfl
theorem sp_fill_37 {D : Nat → Bool} {d : Nat} {G : mG} {x : Int} {Q : Option mV → mG → Prop} (hD : ∀ k, D k = false → inN [37] k = false) (h : Q none (e_fill_37 G x)) : P2 D (d + 1) M_J7_fill_53178 [mR 42, mI x] G Q := by
  unfold e_fill_37 at h
  refine MP.to (D2 := inN [37]) (Q2 := Q) ?_ hD (fun v G' q _ => q)
  refine p2_vc [5, 14] 400 oo_J7 q_J7_fill_53178 (by decide) rfl (Nat.le_of_ble_eq_true rfl) ?_
  refine (show W2 o_J7 M_J7_fill_53178 (inN [37]) (d + 1) Q 5 [some (mR 42), some (mI x), some (mI ((0 : Nat) : Int)), some (mI ((10 : Nat) : Int))] [] G from ?_)
  refine lup (g_fill_37_5 G x) G (fun j1 s1 => W2 o_J7 M_J7_fill_53178 (inN [37]) (d + 1) Q 5 [some (mR 42), some (mI x), some (mI ((j1 : Nat) : Int)), some (mI ((10 : Nat) : Int))] [] s1) 10 (fun j1 s1 hj1 ih1 => ?_) ?_
  · have ih1 : W2 o_J7 M_J7_fill_53178 (inN [37]) (d + 1) Q 5 [some (mR 42), some (mI x), some (mI ((j1 + 1 : Nat) : Int)), some (mI ((10 : Nat) : Int))] [] (g_fill_37_5 G x j1 s1) := ih1
    unfold g_fill_37_5 at ih1
    refine w2_vc [5, 14] 400 oo_J7 q_J7_fill_53178 ?_
    refine ⟨fun (c1 : ((10 : Nat) : Int) ≤ ((j1 : Nat) : Int)) => ?_, fun (c1 : ((j1 : Nat) : Int) < ((10 : Nat) : Int)) => ?_⟩
    · skip
      exfalso; first | omega | (rw [w32_i (by omega) (by omega)] at c1; omega) | (simp (disch := omega) only [w32_i] at *; omega)
    · skip
      refine ⟨(show 0 ≤ ((j1 : Nat) : Int) ∧ ((j1 : Nat) : Int) < ((10 : Nat) : Int) from by first | omega | (simp (disch := omega) only [w32_i]; omega)), ?_⟩
      refine (show W2 o_J7 M_J7_fill_53178 (inN [37]) (d + 1) Q 14 [some (mR 42), some (mI x), some (mI ((j1 : Nat) : Int)), some (mI ((10 : Nat) : Int))] [] (gs s1 37 (Int.toNat ((j1 : Nat) : Int)) x) from ?_)
      refine w2_vc [5, 14] 400 oo_J7 q_J7_fill_53178 ?_
      refine (show W2 o_J7 M_J7_fill_53178 (inN [37]) (d + 1) Q 5 [some (mR 42), some (mI x), some (mI (w32 (((j1 : Nat) : Int) + 1))), some (mI ((10 : Nat) : Int))] [] (gs s1 37 (Int.toNat ((j1 : Nat) : Int)) x) from ?_)
      rw [w32_nat (by omega)]
      exact ih1
  · skip
    refine (show W2 o_J7 M_J7_fill_53178 (inN [37]) (d + 1) Q 5 [some (mR 42), some (mI x), some (mI ((10 : Nat) : Int)), some (mI ((10 : Nat) : Int))] [] (fd (g_fill_37_5 G x) G 10) from ?_)
    refine w2_vc [5, 14] 400 oo_J7 q_J7_fill_53178 ?_
    refine ⟨fun (c2 : ((10 : Nat) : Int) ≤ ((10 : Nat) : Int)) => ?_, fun (c2 : ((10 : Nat) : Int) < ((10 : Nat) : Int)) => ?_⟩
    · skip
      exact h
    · skip
      exfalso; first | omega | (rw [w32_i (by omega) (by omega)] at c2; omega) | (simp (disch := omega) only [w32_i] at *; omega)
theorem e_fill_37_eq (G : mG) (x : Int) : e_fill_37 G x = gf G 37 10 x := fd_gf (fun j s _ => by show gs s 37 (Int.toNat ((j : Nat) : Int)) x = _; rw [st_nat])
def g_fill_38_6 (G : mG) (x : Int) : Nat → mG → mG := fun j1 s1 => (gs s1 38 (Int.toNat ((j1 : Nat) : Int)) x)
def e_fill_38 (G : mG) (x : Int) : mG := (fd (g_fill_38_6 G x) G 512)
theorem fr_g_fill_38_6 (G : mG) (x : Int) {k : Nat} (hk : ∀ a ∈ ([38] : List Nat), k ≠ a) (j : Nat) (s : mG) : (g_fill_38_6 G x j s) k = s k := by
  unfold g_fill_38_6
  repeat' with_reducible first | apply ite_f | apply ite_f2 | apply ite_p | apply ite_p2
  all_goals first | (simp only [gs_ne (hk (38) (by simp))]; done) | rfl
theorem fr_fill_38 {G : mG} {x : Int} {k : Nat} (hk : ∀ a ∈ ([38] : List Nat), k ≠ a) : (e_fill_38 G x) k = G k := by
  unfold e_fill_38
  repeat' with_reducible first | apply ite_f | apply ite_f2 | apply ite_p | apply ite_p2
  all_goals first | (simp only [gs_ne (hk (38) (by simp)), fd_fr (fr_g_fill_38_6 _ _ hk)]; done) | rfl
theorem sp_fill_38 {D : Nat → Bool} {d : Nat} {G : mG} {x : Int} {Q : Option mV → mG → Prop} (hD : ∀ k, D k = false → inN [38] k = false) (h : Q none (e_fill_38 G x)) : P2 D (d + 1) M_J7_fill_d0a16 [mR 43, mJ x] G Q := by
  unfold e_fill_38 at h
  refine MP.to (D2 := inN [38]) (Q2 := Q) ?_ hD (fun v G' q _ => q)
  refine p2_vc [6, 16] 400 oo_J7 q_J7_fill_d0a16 (by decide) rfl (Nat.le_of_ble_eq_true rfl) ?_
  refine (show W2 o_J7 M_J7_fill_d0a16 (inN [38]) (d + 1) Q 6 [some (mR 43), some (mJ x), none, some (mI ((0 : Nat) : Int)), some (mI ((512 : Nat) : Int))] [] G from ?_)
  refine lup (g_fill_38_6 G x) G (fun j1 s1 => W2 o_J7 M_J7_fill_d0a16 (inN [38]) (d + 1) Q 6 [some (mR 43), some (mJ x), none, some (mI ((j1 : Nat) : Int)), some (mI ((512 : Nat) : Int))] [] s1) 512 (fun j1 s1 hj1 ih1 => ?_) ?_
  · have ih1 : W2 o_J7 M_J7_fill_d0a16 (inN [38]) (d + 1) Q 6 [some (mR 43), some (mJ x), none, some (mI ((j1 + 1 : Nat) : Int)), some (mI ((512 : Nat) : Int))] [] (g_fill_38_6 G x j1 s1) := ih1
    unfold g_fill_38_6 at ih1
    refine w2_vc [6, 16] 400 oo_J7 q_J7_fill_d0a16 ?_
    refine ⟨fun (c1 : ((512 : Nat) : Int) ≤ ((j1 : Nat) : Int)) => ?_, fun (c1 : ((j1 : Nat) : Int) < ((512 : Nat) : Int)) => ?_⟩
    · skip
      exfalso; first | omega | (rw [w32_i (by omega) (by omega)] at c1; omega) | (simp (disch := omega) only [w32_i] at *; omega)
    · skip
      refine ⟨(show 0 ≤ ((j1 : Nat) : Int) ∧ ((j1 : Nat) : Int) < ((512 : Nat) : Int) from by first | omega | (simp (disch := omega) only [w32_i]; omega)), ?_⟩
      refine (show W2 o_J7 M_J7_fill_d0a16 (inN [38]) (d + 1) Q 16 [some (mR 43), some (mJ x), none, some (mI ((j1 : Nat) : Int)), some (mI ((512 : Nat) : Int))] [] (gs s1 38 (Int.toNat ((j1 : Nat) : Int)) x) from ?_)
      refine w2_vc [6, 16] 400 oo_J7 q_J7_fill_d0a16 ?_
      refine (show W2 o_J7 M_J7_fill_d0a16 (inN [38]) (d + 1) Q 6 [some (mR 43), some (mJ x), none, some (mI (w32 (((j1 : Nat) : Int) + 1))), some (mI ((512 : Nat) : Int))] [] (gs s1 38 (Int.toNat ((j1 : Nat) : Int)) x) from ?_)
      rw [w32_nat (by omega)]
      exact ih1
  · skip
    refine (show W2 o_J7 M_J7_fill_d0a16 (inN [38]) (d + 1) Q 6 [some (mR 43), some (mJ x), none, some (mI ((512 : Nat) : Int)), some (mI ((512 : Nat) : Int))] [] (fd (g_fill_38_6 G x) G 512) from ?_)
    refine w2_vc [6, 16] 400 oo_J7 q_J7_fill_d0a16 ?_
    refine ⟨fun (c2 : ((512 : Nat) : Int) ≤ ((512 : Nat) : Int)) => ?_, fun (c2 : ((512 : Nat) : Int) < ((512 : Nat) : Int)) => ?_⟩
    · skip
      exact h
    · skip
      exfalso; first | omega | (rw [w32_i (by omega) (by omega)] at c2; omega) | (simp (disch := omega) only [w32_i] at *; omega)
theorem e_fill_38_eq (G : mG) (x : Int) : e_fill_38 G x = gf G 38 512 x := fd_gf (fun j s _ => by show gs s 38 (Int.toNat ((j : Nat) : Int)) x = _; rw [st_nat])
def g_X4_clear_10 (G : mG) : Nat → mG → mG := fun j1 s1 => (gs s1 23 (Int.toNat ((j1 : Nat) : Int)) 0)
def e_X4_clear (G : mG) : mG := (fd (g_X4_clear_10 G) (e_fill_22 G (-1)) 26)
theorem fr_g_X4_clear_10 (G : mG) {k : Nat} (hk : ∀ a ∈ ([22, 23] : List Nat), k ≠ a) (j : Nat) (s : mG) : (g_X4_clear_10 G j s) k = s k := by
  unfold g_X4_clear_10
  repeat' with_reducible first | apply ite_f | apply ite_f2 | apply ite_p | apply ite_p2
  all_goals first | (simp only [gs_ne (hk (22) (by simp)), gs_ne (hk (23) (by simp)), fr_fill_22 (fun a ha => hk a (by simp only [List.mem_cons, List.not_mem_nil, or_false] at ha ⊢; omega))]; done) | rfl
theorem fr_X4_clear {G : mG} {k : Nat} (hk : ∀ a ∈ ([22, 23] : List Nat), k ≠ a) : (e_X4_clear G ) k = G k := by
  unfold e_X4_clear
  repeat' with_reducible first | apply ite_f | apply ite_f2 | apply ite_p | apply ite_p2
  all_goals first | (simp only [gs_ne (hk (22) (by simp)), gs_ne (hk (23) (by simp)), fr_fill_22 (fun a ha => hk a (by simp only [List.mem_cons, List.not_mem_nil, or_false] at ha ⊢; omega)), fd_fr (fr_g_X4_clear_10 _ hk)]; done) | rfl
theorem sp_X4_clear {D : Nat → Bool} {d : Nat} {G : mG} {Q : Option mV → mG → Prop} (hD : ∀ k, D k = false → inN [22, 23] k = false) (h : Q none (e_X4_clear G )) : P2 D (d + 2) M_X4_clear [mR 26] G Q := by
  unfold e_X4_clear at h
  refine MP.to (D2 := inN [22, 23]) (Q2 := Q) ?_ hD (fun v G' q _ => q)
  refine p2_vc [10, 23] 400 oo_X4 q_X4_clear (by decide) rfl (Nat.le_of_ble_eq_true rfl) ?_
  refine sp_fill_22  (insub (by decide)) ?_
  refine (show W2 o_X4 M_X4_clear (inN [22, 23]) (d + 2) Q 10 [some (mR 26), some (mI ((0 : Nat) : Int))] [] (e_fill_22 G (-1)) from ?_)
  refine lup (g_X4_clear_10 G) (e_fill_22 G (-1)) (fun j1 s1 => W2 o_X4 M_X4_clear (inN [22, 23]) (d + 2) Q 10 [some (mR 26), some (mI ((j1 : Nat) : Int))] [] s1) 26 (fun j1 s1 hj1 ih1 => ?_) ?_
  · have ih1 : W2 o_X4 M_X4_clear (inN [22, 23]) (d + 2) Q 10 [some (mR 26), some (mI ((j1 + 1 : Nat) : Int))] [] (g_X4_clear_10 G j1 s1) := ih1
    unfold g_X4_clear_10 at ih1
    refine w2_vc [10, 23] 400 oo_X4 q_X4_clear ?_
    refine ⟨fun (c2 : 26 ≤ ((j1 : Nat) : Int)) => ?_, fun (c2 : ((j1 : Nat) : Int) < 26) => ?_⟩
    · skip
      exfalso; first | omega | (rw [w32_i (by omega) (by omega)] at c2; omega) | (simp (disch := omega) only [w32_i] at *; omega)
    · skip
      refine ⟨(show 0 ≤ ((j1 : Nat) : Int) ∧ ((j1 : Nat) : Int) < ((26 : Nat) : Int) from by first | omega | (simp (disch := omega) only [w32_i]; omega)), by omega, ?_⟩
      refine (show W2 o_X4 M_X4_clear (inN [22, 23]) (d + 2) Q 23 [some (mR 26), some (mI ((j1 : Nat) : Int))] [] (gs s1 23 (Int.toNat ((j1 : Nat) : Int)) 0) from ?_)
      refine w2_vc [10, 23] 400 oo_X4 q_X4_clear ?_
      refine (show W2 o_X4 M_X4_clear (inN [22, 23]) (d + 2) Q 10 [some (mR 26), some (mI (w32 (((j1 : Nat) : Int) + 1)))] [] (gs s1 23 (Int.toNat ((j1 : Nat) : Int)) 0) from ?_)
      rw [w32_nat (by omega)]
      exact ih1
  · skip
    refine (show W2 o_X4 M_X4_clear (inN [22, 23]) (d + 2) Q 10 [some (mR 26), some (mI ((26 : Nat) : Int))] [] (fd (g_X4_clear_10 G) (e_fill_22 G (-1)) 26) from ?_)
    refine w2_vc [10, 23] 400 oo_X4 q_X4_clear ?_
    refine ⟨fun (c3 : 26 ≤ ((26 : Nat) : Int)) => ?_, fun (c3 : ((26 : Nat) : Int) < 26) => ?_⟩
    · skip
      exact h
    · skip
      exfalso; first | omega | (rw [w32_i (by omega) (by omega)] at c3; omega) | (simp (disch := omega) only [w32_i] at *; omega)
def g_X4_boardsOf_5 (G : mG) (w : Int) (f : Int) : Nat → Int → Int := fun j1 s1 => (if ¬ (f_X4_clauseOf G ((j1 : Nat) : Int) f) = w then s1 else (w32 (s1 + 1)))
def f_X4_boardsOf (G : mG) (w : Int) (f : Int) : Int := (fd (g_X4_boardsOf_5 G w f) 0 9)
theorem sp_X4_boardsOf {D : Nat → Bool} {d : Nat} {G : mG} {w : Int} {f : Int} {Q : Option mV → mG → Prop} (h : Q (some (mI (f_X4_boardsOf G w f))) G) : P2 D (d + 4) M_X4_boardsOf [mR 26, mI w, mI f] G Q := by
  unfold f_X4_boardsOf at h
  refine p2_vc [5] 400 oo_X4 q_X4_boardsOf (by decide) rfl (Nat.le_of_ble_eq_true rfl) ?_
  refine (show W2 o_X4 M_X4_boardsOf D (d + 4) Q 5 [some (mR 26), some (mI w), some (mI f), some (mI 0), some (mI ((0 : Nat) : Int))] [] G from ?_)
  refine lup (g_X4_boardsOf_5 G w f) 0 (fun j1 s1 => W2 o_X4 M_X4_boardsOf D (d + 4) Q 5 [some (mR 26), some (mI w), some (mI f), some (mI s1), some (mI ((j1 : Nat) : Int))] [] G) 9 (fun j1 s1 hj1 ih1 => ?_) ?_
  · have ih1 : W2 o_X4 M_X4_boardsOf D (d + 4) Q 5 [some (mR 26), some (mI w), some (mI f), some (mI (g_X4_boardsOf_5 G w f j1 s1)), some (mI ((j1 + 1 : Nat) : Int))] [] G := ih1
    unfold g_X4_boardsOf_5 at ih1
    refine w2_vc [5] 400 oo_X4 q_X4_boardsOf ?_
    refine ⟨fun (c1 : 9 ≤ ((j1 : Nat) : Int)) => ?_, fun (c1 : ((j1 : Nat) : Int) < 9) => ?_⟩
    · skip
      exfalso; first | omega | (rw [w32_i (by omega) (by omega)] at c1; omega) | (simp (disch := omega) only [w32_i] at *; omega)
    · skip
      refine sp_X4_clauseOf  ?_
      refine ⟨fun (c3 : ¬ (f_X4_clauseOf G ((j1 : Nat) : Int) f) = w) => ?_, fun (c3 : (f_X4_clauseOf G ((j1 : Nat) : Int) f) = w) => ?_⟩
      · rw [if_pos c3] at ih1
        refine (show W2 o_X4 M_X4_boardsOf D (d + 4) Q 5 [some (mR 26), some (mI w), some (mI f), some (mI s1), some (mI (w32 (((j1 : Nat) : Int) + 1)))] [] G from ?_)
        rw [w32_nat (by omega)]
        exact ih1
      · rw [if_neg (fun q => q c3)] at ih1
        refine (show W2 o_X4 M_X4_boardsOf D (d + 4) Q 5 [some (mR 26), some (mI w), some (mI f), some (mI (w32 (s1 + 1))), some (mI (w32 (((j1 : Nat) : Int) + 1)))] [] G from ?_)
        rw [w32_nat (by omega)]
        exact ih1
  · skip
    refine (show W2 o_X4 M_X4_boardsOf D (d + 4) Q 5 [some (mR 26), some (mI w), some (mI f), some (mI (fd (g_X4_boardsOf_5 G w f) 0 9)), some (mI ((9 : Nat) : Int))] [] G from ?_)
    refine w2_vc [5] 400 oo_X4 q_X4_boardsOf ?_
    refine ⟨fun (c4 : 9 ≤ ((9 : Nat) : Int)) => ?_, fun (c4 : ((9 : Nat) : Int) < 9) => ?_⟩
    · skip
      exact h
    · skip
      exfalso; first | omega | (rw [w32_i (by omega) (by omega)] at c4; omega) | (simp (disch := omega) only [w32_i] at *; omega)
def g_X4_fortnightsMade_4 (G : mG) : Nat → Int → Int := fun j1 s1 => (if (G 23 (Int.toNat ((j1 : Nat) : Int))) = 0 then s1 else (w32 (s1 + 1)))
def f_X4_fortnightsMade (G : mG) : Int := (fd (g_X4_fortnightsMade_4 G) 0 26)
theorem sp_X4_fortnightsMade {D : Nat → Bool} {d : Nat} {G : mG} {Q : Option mV → mG → Prop} (h : Q (some (mI (f_X4_fortnightsMade G ))) G) : P2 D (d + 1) M_X4_fortnightsMade [mR 26] G Q := by
  unfold f_X4_fortnightsMade at h
  refine p2_vc [4] 400 oo_X4 q_X4_fortnightsMade (by decide) rfl (Nat.le_of_ble_eq_true rfl) ?_
  refine (show W2 o_X4 M_X4_fortnightsMade D (d + 1) Q 4 [some (mR 26), some (mI 0), some (mI ((0 : Nat) : Int))] [] G from ?_)
  refine lup (g_X4_fortnightsMade_4 G) 0 (fun j1 s1 => W2 o_X4 M_X4_fortnightsMade D (d + 1) Q 4 [some (mR 26), some (mI s1), some (mI ((j1 : Nat) : Int))] [] G) 26 (fun j1 s1 hj1 ih1 => ?_) ?_
  · have ih1 : W2 o_X4 M_X4_fortnightsMade D (d + 1) Q 4 [some (mR 26), some (mI (g_X4_fortnightsMade_4 G j1 s1)), some (mI ((j1 + 1 : Nat) : Int))] [] G := ih1
    unfold g_X4_fortnightsMade_4 at ih1
    refine w2_vc [4] 400 oo_X4 q_X4_fortnightsMade ?_
    refine ⟨fun (c1 : 26 ≤ ((j1 : Nat) : Int)) => ?_, fun (c1 : ((j1 : Nat) : Int) < 26) => ?_⟩
    · skip
      exfalso; first | omega | (rw [w32_i (by omega) (by omega)] at c1; omega) | (simp (disch := omega) only [w32_i] at *; omega)
    · skip
      refine ⟨(show 0 ≤ ((j1 : Nat) : Int) ∧ ((j1 : Nat) : Int) < ((26 : Nat) : Int) from by first | omega | (simp (disch := omega) only [w32_i]; omega)), ?_⟩
      refine ⟨fun (c2 : (G 23 (Int.toNat ((j1 : Nat) : Int))) = 0) => ?_, fun (c2 : ¬ (G 23 (Int.toNat ((j1 : Nat) : Int))) = 0) => ?_⟩
      · rw [if_pos c2] at ih1
        refine (show W2 o_X4 M_X4_fortnightsMade D (d + 1) Q 4 [some (mR 26), some (mI s1), some (mI (w32 (((j1 : Nat) : Int) + 1)))] [] G from ?_)
        rw [w32_nat (by omega)]
        exact ih1
      · rw [if_neg (c2)] at ih1
        refine (show W2 o_X4 M_X4_fortnightsMade D (d + 1) Q 4 [some (mR 26), some (mI (w32 (s1 + 1))), some (mI (w32 (((j1 : Nat) : Int) + 1)))] [] G from ?_)
        rw [w32_nat (by omega)]
        exact ih1
  · skip
    refine (show W2 o_X4 M_X4_fortnightsMade D (d + 1) Q 4 [some (mR 26), some (mI (fd (g_X4_fortnightsMade_4 G) 0 26)), some (mI ((26 : Nat) : Int))] [] G from ?_)
    refine w2_vc [4] 400 oo_X4 q_X4_fortnightsMade ?_
    refine ⟨fun (c3 : 26 ≤ ((26 : Nat) : Int)) => ?_, fun (c3 : ((26 : Nat) : Int) < 26) => ?_⟩
    · skip
      exact h
    · skip
      exfalso; first | omega | (rw [w32_i (by omega) (by omega)] at c3; omega) | (simp (disch := omega) only [w32_i] at *; omega)
def g_X2_lookThroughDays_4 (G : mG) : Nat → (Int × mG) → (Int × mG) := fun j1 s1 => (if ¬ (s1.2 27 (Int.toNat ((j1 : Nat) : Int))) = (-1) then (if ¬ (s1.2 27 (Int.toNat ((j1 : Nat) : Int))) = (-1) then (if ¬ (s1.2 27 (Int.toNat ((j1 : Nat) : Int))) = 1 then ((s1.2 27 (Int.toNat ((j1 : Nat) : Int))), (gs s1.2 28 (Int.toNat ((j1 : Nat) : Int)) 0)) else ((s1.2 27 (Int.toNat ((j1 : Nat) : Int))), (gs s1.2 28 (Int.toNat ((j1 : Nat) : Int)) 1))) else (if ((j1 : Nat) : Int) < (s1.2 26 2) then ((s1.2 27 (Int.toNat ((j1 : Nat) : Int))), (gs s1.2 28 (Int.toNat ((j1 : Nat) : Int)) 0)) else ((s1.2 27 (Int.toNat ((j1 : Nat) : Int))), (gs s1.2 28 (Int.toNat ((j1 : Nat) : Int)) 2)))) else (if ¬ s1.1 = (-1) then (if ¬ s1.1 = 1 then (s1.1, (gs s1.2 28 (Int.toNat ((j1 : Nat) : Int)) 0)) else (s1.1, (gs s1.2 28 (Int.toNat ((j1 : Nat) : Int)) 1))) else (if ((j1 : Nat) : Int) < (s1.2 26 2) then (s1.1, (gs s1.2 28 (Int.toNat ((j1 : Nat) : Int)) 0)) else (s1.1, (gs s1.2 28 (Int.toNat ((j1 : Nat) : Int)) 2)))))
def e_X2_lookThroughDays (G : mG) : mG := (fd (g_X2_lookThroughDays_4 G) ((-1), G) 14).2
theorem fr_g_X2_lookThroughDays_4 (G : mG) {k : Nat} (hk : ∀ a ∈ ([28] : List Nat), k ≠ a) (j : Nat) (s : Int × mG) : (g_X2_lookThroughDays_4 G j s).2 k = s.2 k := by
  unfold g_X2_lookThroughDays_4
  repeat' with_reducible first | apply ite_f | apply ite_f2 | apply ite_p | apply ite_p2
  all_goals first | (simp only [gs_ne (hk (28) (by simp))]; done) | rfl
theorem fr_X2_lookThroughDays {G : mG} {k : Nat} (hk : ∀ a ∈ ([28] : List Nat), k ≠ a) : (e_X2_lookThroughDays G ) k = G k := by
  unfold e_X2_lookThroughDays
  repeat' with_reducible first | apply ite_f | apply ite_f2 | apply ite_p | apply ite_p2
  all_goals first | (simp only [gs_ne (hk (28) (by simp)), fd_fr2 (fr_g_X2_lookThroughDays_4 _ hk)]; done) | rfl
theorem sp_X2_lookThroughDays {D : Nat → Bool} {d : Nat} {G : mG} {Q : Option mV → mG → Prop} (hD : ∀ k, D k = false → inN [28] k = false) (h : Q none (e_X2_lookThroughDays G )) : P2 D (d + 1) M_X2_lookThroughDays [mR 31] G Q := by
  unfold e_X2_lookThroughDays at h
  refine MP.to (D2 := inN [28]) (Q2 := Q) ?_ hD (fun v G' q _ => q)
  refine p2_vc [4, 55, 74] 400 oo_X2 q_X2_lookThroughDays (by decide) rfl (Nat.le_of_ble_eq_true rfl) ?_
  refine (show W2 o_X2 M_X2_lookThroughDays (inN [28]) (d + 1) Q 4 [some (mR 31), some (mI (-1)), some (mI ((0 : Nat) : Int))] [] G from ?_)
  refine lup (g_X2_lookThroughDays_4 G) ((-1), G) (fun j1 s1 => W2 o_X2 M_X2_lookThroughDays (inN [28]) (d + 1) Q 4 [some (mR 31), some (mI s1.1), some (mI ((j1 : Nat) : Int))] [] s1.2) 14 (fun j1 s1 hj1 ih1 => ?_) ?_
  · have ih1 : W2 o_X2 M_X2_lookThroughDays (inN [28]) (d + 1) Q 4 [some (mR 31), some (mI (g_X2_lookThroughDays_4 G j1 s1).1), some (mI ((j1 + 1 : Nat) : Int))] [] (g_X2_lookThroughDays_4 G j1 s1).2 := ih1
    unfold g_X2_lookThroughDays_4 at ih1
    refine w2_vc [4, 55, 74] 400 oo_X2 q_X2_lookThroughDays ?_
    refine ⟨fun (c1 : 14 ≤ ((j1 : Nat) : Int)) => ?_, fun (c1 : ((j1 : Nat) : Int) < 14) => ?_⟩
    · skip
      exfalso; first | omega | (rw [w32_i (by omega) (by omega)] at c1; omega) | (simp (disch := omega) only [w32_i] at *; omega)
    · skip
      refine ⟨(show 0 ≤ ((j1 : Nat) : Int) ∧ ((j1 : Nat) : Int) < ((14 : Nat) : Int) from by first | omega | (simp (disch := omega) only [w32_i]; omega)), ?_⟩
      refine ⟨fun (c2 : ¬ (s1.2 27 (Int.toNat ((j1 : Nat) : Int))) = (-1)) => ?_, fun (c2 : (s1.2 27 (Int.toNat ((j1 : Nat) : Int))) = (-1)) => ?_⟩
      · rw [if_pos c2] at ih1
        refine ⟨(show 0 ≤ ((j1 : Nat) : Int) ∧ ((j1 : Nat) : Int) < ((14 : Nat) : Int) from by first | omega | (simp (disch := omega) only [w32_i]; omega)), ?_⟩
        refine ⟨fun (c3 : ¬ (s1.2 27 (Int.toNat ((j1 : Nat) : Int))) = (-1)) => ?_, fun (c3 : (s1.2 27 (Int.toNat ((j1 : Nat) : Int))) = (-1)) => ?_⟩
        · rw [if_pos c3] at ih1
          refine ⟨fun (c4 : ¬ (s1.2 27 (Int.toNat ((j1 : Nat) : Int))) = 1) => ?_, fun (c4 : (s1.2 27 (Int.toNat ((j1 : Nat) : Int))) = 1) => ?_⟩
          · rw [if_pos c4] at ih1
            refine ⟨(show 0 ≤ ((j1 : Nat) : Int) ∧ ((j1 : Nat) : Int) < ((14 : Nat) : Int) from by first | omega | (simp (disch := omega) only [w32_i]; omega)), ?_⟩
            refine (show W2 o_X2 M_X2_lookThroughDays (inN [28]) (d + 1) Q 74 [some (mR 31), some (mI (s1.2 27 (Int.toNat ((j1 : Nat) : Int)))), some (mI ((j1 : Nat) : Int))] [] (gs s1.2 28 (Int.toNat ((j1 : Nat) : Int)) 0) from ?_)
            refine w2_vc [4, 55, 74] 400 oo_X2 q_X2_lookThroughDays ?_
            refine (show W2 o_X2 M_X2_lookThroughDays (inN [28]) (d + 1) Q 4 [some (mR 31), some (mI (s1.2 27 (Int.toNat ((j1 : Nat) : Int)))), some (mI (w32 (((j1 : Nat) : Int) + 1)))] [] (gs s1.2 28 (Int.toNat ((j1 : Nat) : Int)) 0) from ?_)
            rw [w32_nat (by omega)]
            exact ih1
          · rw [if_neg (fun q => q c4)] at ih1
            refine ⟨(show 0 ≤ ((j1 : Nat) : Int) ∧ ((j1 : Nat) : Int) < ((14 : Nat) : Int) from by first | omega | (simp (disch := omega) only [w32_i]; omega)), ?_⟩
            refine (show W2 o_X2 M_X2_lookThroughDays (inN [28]) (d + 1) Q 74 [some (mR 31), some (mI (s1.2 27 (Int.toNat ((j1 : Nat) : Int)))), some (mI ((j1 : Nat) : Int))] [] (gs s1.2 28 (Int.toNat ((j1 : Nat) : Int)) 1) from ?_)
            refine w2_vc [4, 55, 74] 400 oo_X2 q_X2_lookThroughDays ?_
            refine (show W2 o_X2 M_X2_lookThroughDays (inN [28]) (d + 1) Q 4 [some (mR 31), some (mI (s1.2 27 (Int.toNat ((j1 : Nat) : Int)))), some (mI (w32 (((j1 : Nat) : Int) + 1)))] [] (gs s1.2 28 (Int.toNat ((j1 : Nat) : Int)) 1) from ?_)
            rw [w32_nat (by omega)]
            exact ih1
        · rw [if_neg (fun q => q c3)] at ih1
          refine ⟨fun (c5 : ((j1 : Nat) : Int) < (s1.2 26 2)) => ?_, fun (c5 : (s1.2 26 2) ≤ ((j1 : Nat) : Int)) => ?_⟩
          · rw [if_pos c5] at ih1
            refine ⟨(show 0 ≤ ((j1 : Nat) : Int) ∧ ((j1 : Nat) : Int) < ((14 : Nat) : Int) from by first | omega | (simp (disch := omega) only [w32_i]; omega)), ?_⟩
            refine (show W2 o_X2 M_X2_lookThroughDays (inN [28]) (d + 1) Q 55 [some (mR 31), some (mI (s1.2 27 (Int.toNat ((j1 : Nat) : Int)))), some (mI ((j1 : Nat) : Int))] [] (gs s1.2 28 (Int.toNat ((j1 : Nat) : Int)) 0) from ?_)
            refine w2_vc [4, 55, 74] 400 oo_X2 q_X2_lookThroughDays ?_
            refine (show W2 o_X2 M_X2_lookThroughDays (inN [28]) (d + 1) Q 74 [some (mR 31), some (mI (s1.2 27 (Int.toNat ((j1 : Nat) : Int)))), some (mI ((j1 : Nat) : Int))] [] (gs s1.2 28 (Int.toNat ((j1 : Nat) : Int)) 0) from ?_)
            refine w2_vc [4, 55, 74] 400 oo_X2 q_X2_lookThroughDays ?_
            refine (show W2 o_X2 M_X2_lookThroughDays (inN [28]) (d + 1) Q 4 [some (mR 31), some (mI (s1.2 27 (Int.toNat ((j1 : Nat) : Int)))), some (mI (w32 (((j1 : Nat) : Int) + 1)))] [] (gs s1.2 28 (Int.toNat ((j1 : Nat) : Int)) 0) from ?_)
            rw [w32_nat (by omega)]
            exact ih1
          · rw [if_neg (Int.not_lt.mpr c5)] at ih1
            refine ⟨(show 0 ≤ ((j1 : Nat) : Int) ∧ ((j1 : Nat) : Int) < ((14 : Nat) : Int) from by first | omega | (simp (disch := omega) only [w32_i]; omega)), ?_⟩
            refine (show W2 o_X2 M_X2_lookThroughDays (inN [28]) (d + 1) Q 55 [some (mR 31), some (mI (s1.2 27 (Int.toNat ((j1 : Nat) : Int)))), some (mI ((j1 : Nat) : Int))] [] (gs s1.2 28 (Int.toNat ((j1 : Nat) : Int)) 2) from ?_)
            refine w2_vc [4, 55, 74] 400 oo_X2 q_X2_lookThroughDays ?_
            refine (show W2 o_X2 M_X2_lookThroughDays (inN [28]) (d + 1) Q 74 [some (mR 31), some (mI (s1.2 27 (Int.toNat ((j1 : Nat) : Int)))), some (mI ((j1 : Nat) : Int))] [] (gs s1.2 28 (Int.toNat ((j1 : Nat) : Int)) 2) from ?_)
            refine w2_vc [4, 55, 74] 400 oo_X2 q_X2_lookThroughDays ?_
            refine (show W2 o_X2 M_X2_lookThroughDays (inN [28]) (d + 1) Q 4 [some (mR 31), some (mI (s1.2 27 (Int.toNat ((j1 : Nat) : Int)))), some (mI (w32 (((j1 : Nat) : Int) + 1)))] [] (gs s1.2 28 (Int.toNat ((j1 : Nat) : Int)) 2) from ?_)
            rw [w32_nat (by omega)]
            exact ih1
      · rw [if_neg (fun q => q c2)] at ih1
        refine ⟨fun (c6 : ¬ s1.1 = (-1)) => ?_, fun (c6 : s1.1 = (-1)) => ?_⟩
        · rw [if_pos c6] at ih1
          refine ⟨fun (c7 : ¬ s1.1 = 1) => ?_, fun (c7 : s1.1 = 1) => ?_⟩
          · rw [if_pos c7] at ih1
            refine ⟨(show 0 ≤ ((j1 : Nat) : Int) ∧ ((j1 : Nat) : Int) < ((14 : Nat) : Int) from by first | omega | (simp (disch := omega) only [w32_i]; omega)), ?_⟩
            refine (show W2 o_X2 M_X2_lookThroughDays (inN [28]) (d + 1) Q 74 [some (mR 31), some (mI s1.1), some (mI ((j1 : Nat) : Int))] [] (gs s1.2 28 (Int.toNat ((j1 : Nat) : Int)) 0) from ?_)
            refine w2_vc [4, 55, 74] 400 oo_X2 q_X2_lookThroughDays ?_
            refine (show W2 o_X2 M_X2_lookThroughDays (inN [28]) (d + 1) Q 4 [some (mR 31), some (mI s1.1), some (mI (w32 (((j1 : Nat) : Int) + 1)))] [] (gs s1.2 28 (Int.toNat ((j1 : Nat) : Int)) 0) from ?_)
            rw [w32_nat (by omega)]
            exact ih1
          · rw [if_neg (fun q => q c7)] at ih1
            refine ⟨(show 0 ≤ ((j1 : Nat) : Int) ∧ ((j1 : Nat) : Int) < ((14 : Nat) : Int) from by first | omega | (simp (disch := omega) only [w32_i]; omega)), ?_⟩
            refine (show W2 o_X2 M_X2_lookThroughDays (inN [28]) (d + 1) Q 74 [some (mR 31), some (mI s1.1), some (mI ((j1 : Nat) : Int))] [] (gs s1.2 28 (Int.toNat ((j1 : Nat) : Int)) 1) from ?_)
            refine w2_vc [4, 55, 74] 400 oo_X2 q_X2_lookThroughDays ?_
            refine (show W2 o_X2 M_X2_lookThroughDays (inN [28]) (d + 1) Q 4 [some (mR 31), some (mI s1.1), some (mI (w32 (((j1 : Nat) : Int) + 1)))] [] (gs s1.2 28 (Int.toNat ((j1 : Nat) : Int)) 1) from ?_)
            rw [w32_nat (by omega)]
            exact ih1
        · rw [if_neg (fun q => q c6)] at ih1
          refine ⟨fun (c8 : ((j1 : Nat) : Int) < (s1.2 26 2)) => ?_, fun (c8 : (s1.2 26 2) ≤ ((j1 : Nat) : Int)) => ?_⟩
          · rw [if_pos c8] at ih1
            refine ⟨(show 0 ≤ ((j1 : Nat) : Int) ∧ ((j1 : Nat) : Int) < ((14 : Nat) : Int) from by first | omega | (simp (disch := omega) only [w32_i]; omega)), ?_⟩
            refine (show W2 o_X2 M_X2_lookThroughDays (inN [28]) (d + 1) Q 55 [some (mR 31), some (mI s1.1), some (mI ((j1 : Nat) : Int))] [] (gs s1.2 28 (Int.toNat ((j1 : Nat) : Int)) 0) from ?_)
            refine w2_vc [4, 55, 74] 400 oo_X2 q_X2_lookThroughDays ?_
            refine (show W2 o_X2 M_X2_lookThroughDays (inN [28]) (d + 1) Q 74 [some (mR 31), some (mI s1.1), some (mI ((j1 : Nat) : Int))] [] (gs s1.2 28 (Int.toNat ((j1 : Nat) : Int)) 0) from ?_)
            refine w2_vc [4, 55, 74] 400 oo_X2 q_X2_lookThroughDays ?_
            refine (show W2 o_X2 M_X2_lookThroughDays (inN [28]) (d + 1) Q 4 [some (mR 31), some (mI s1.1), some (mI (w32 (((j1 : Nat) : Int) + 1)))] [] (gs s1.2 28 (Int.toNat ((j1 : Nat) : Int)) 0) from ?_)
            rw [w32_nat (by omega)]
            exact ih1
          · rw [if_neg (Int.not_lt.mpr c8)] at ih1
            refine ⟨(show 0 ≤ ((j1 : Nat) : Int) ∧ ((j1 : Nat) : Int) < ((14 : Nat) : Int) from by first | omega | (simp (disch := omega) only [w32_i]; omega)), ?_⟩
            refine (show W2 o_X2 M_X2_lookThroughDays (inN [28]) (d + 1) Q 55 [some (mR 31), some (mI s1.1), some (mI ((j1 : Nat) : Int))] [] (gs s1.2 28 (Int.toNat ((j1 : Nat) : Int)) 2) from ?_)
            refine w2_vc [4, 55, 74] 400 oo_X2 q_X2_lookThroughDays ?_
            refine (show W2 o_X2 M_X2_lookThroughDays (inN [28]) (d + 1) Q 74 [some (mR 31), some (mI s1.1), some (mI ((j1 : Nat) : Int))] [] (gs s1.2 28 (Int.toNat ((j1 : Nat) : Int)) 2) from ?_)
            refine w2_vc [4, 55, 74] 400 oo_X2 q_X2_lookThroughDays ?_
            refine (show W2 o_X2 M_X2_lookThroughDays (inN [28]) (d + 1) Q 4 [some (mR 31), some (mI s1.1), some (mI (w32 (((j1 : Nat) : Int) + 1)))] [] (gs s1.2 28 (Int.toNat ((j1 : Nat) : Int)) 2) from ?_)
            rw [w32_nat (by omega)]
            exact ih1
  · skip
    refine (show W2 o_X2 M_X2_lookThroughDays (inN [28]) (d + 1) Q 4 [some (mR 31), some (mI (fd (g_X2_lookThroughDays_4 G) ((-1), G) 14).1), some (mI ((14 : Nat) : Int))] [] (fd (g_X2_lookThroughDays_4 G) ((-1), G) 14).2 from ?_)
    refine w2_vc [4, 55, 74] 400 oo_X2 q_X2_lookThroughDays ?_
    refine ⟨fun (c9 : 14 ≤ ((14 : Nat) : Int)) => ?_, fun (c9 : ((14 : Nat) : Int) < 14) => ?_⟩
    · skip
      exact h
    · skip
      exfalso; first | omega | (rw [w32_i (by omega) (by omega)] at c9; omega) | (simp (disch := omega) only [w32_i] at *; omega)
def g_X2_daysOf_4 (G : mG) (x : Int) : Nat → Int → Int := fun j1 s1 => (if ¬ (G 28 (Int.toNat ((j1 : Nat) : Int))) = x then s1 else (w32 (s1 + 1)))
def f_X2_daysOf (G : mG) (x : Int) : Int := (fd (g_X2_daysOf_4 G x) 0 14)
theorem sp_X2_daysOf {D : Nat → Bool} {d : Nat} {G : mG} {x : Int} {Q : Option mV → mG → Prop} (h : Q (some (mI (f_X2_daysOf G x))) G) : P2 D (d + 1) M_X2_daysOf [mR 31, mI x] G Q := by
  unfold f_X2_daysOf at h
  refine p2_vc [4] 400 oo_X2 q_X2_daysOf (by decide) rfl (Nat.le_of_ble_eq_true rfl) ?_
  refine (show W2 o_X2 M_X2_daysOf D (d + 1) Q 4 [some (mR 31), some (mI x), some (mI 0), some (mI ((0 : Nat) : Int))] [] G from ?_)
  refine lup (g_X2_daysOf_4 G x) 0 (fun j1 s1 => W2 o_X2 M_X2_daysOf D (d + 1) Q 4 [some (mR 31), some (mI x), some (mI s1), some (mI ((j1 : Nat) : Int))] [] G) 14 (fun j1 s1 hj1 ih1 => ?_) ?_
  · have ih1 : W2 o_X2 M_X2_daysOf D (d + 1) Q 4 [some (mR 31), some (mI x), some (mI (g_X2_daysOf_4 G x j1 s1)), some (mI ((j1 + 1 : Nat) : Int))] [] G := ih1
    unfold g_X2_daysOf_4 at ih1
    refine w2_vc [4] 400 oo_X2 q_X2_daysOf ?_
    refine ⟨fun (c1 : 14 ≤ ((j1 : Nat) : Int)) => ?_, fun (c1 : ((j1 : Nat) : Int) < 14) => ?_⟩
    · skip
      exfalso; first | omega | (rw [w32_i (by omega) (by omega)] at c1; omega) | (simp (disch := omega) only [w32_i] at *; omega)
    · skip
      refine ⟨(show 0 ≤ ((j1 : Nat) : Int) ∧ ((j1 : Nat) : Int) < ((14 : Nat) : Int) from by first | omega | (simp (disch := omega) only [w32_i]; omega)), ?_⟩
      refine ⟨fun (c2 : ¬ (G 28 (Int.toNat ((j1 : Nat) : Int))) = x) => ?_, fun (c2 : (G 28 (Int.toNat ((j1 : Nat) : Int))) = x) => ?_⟩
      · rw [if_pos c2] at ih1
        refine (show W2 o_X2 M_X2_daysOf D (d + 1) Q 4 [some (mR 31), some (mI x), some (mI s1), some (mI (w32 (((j1 : Nat) : Int) + 1)))] [] G from ?_)
        rw [w32_nat (by omega)]
        exact ih1
      · rw [if_neg (fun q => q c2)] at ih1
        refine (show W2 o_X2 M_X2_daysOf D (d + 1) Q 4 [some (mR 31), some (mI x), some (mI (w32 (s1 + 1))), some (mI (w32 (((j1 : Nat) : Int) + 1)))] [] G from ?_)
        rw [w32_nat (by omega)]
        exact ih1
  · skip
    refine (show W2 o_X2 M_X2_daysOf D (d + 1) Q 4 [some (mR 31), some (mI x), some (mI (fd (g_X2_daysOf_4 G x) 0 14)), some (mI ((14 : Nat) : Int))] [] G from ?_)
    refine w2_vc [4] 400 oo_X2 q_X2_daysOf ?_
    refine ⟨fun (c3 : 14 ≤ ((14 : Nat) : Int)) => ?_, fun (c3 : ((14 : Nat) : Int) < 14) => ?_⟩
    · skip
      exact h
    · skip
      exfalso; first | omega | (rw [w32_i (by omega) (by omega)] at c3; omega) | (simp (disch := omega) only [w32_i] at *; omega)
def g_X2_follow_17 (G : mG) (b : Int) (f : Int) (n : Int) : Nat → mG → mG := fun j1 s1 => (if (f_X3_isOf s1 ((j1 : Nat) : Int) b f) = 0 then s1 else (e_X2_learn s1 (f_X3_kindOf s1 ((j1 : Nat) : Int)) (f_X3_dayOf s1 ((j1 : Nat) : Int))))
def e_X2_follow (G : mG) (b : Int) (f : Int) (n : Int) : mG := (if n ≤ ((n.toNat : Nat) : Int) then (e_X2_lookThroughDays (fd (g_X2_follow_17 G b f n) (gs (e_fill_27 G (-1)) 26 2 14) n.toNat) ) else (e_X2_lookThroughDays (fd (g_X2_follow_17 G b f n) (gs (e_fill_27 G (-1)) 26 2 14) n.toNat) ))
theorem fr_g_X2_follow_17 (G : mG) (b : Int) (f : Int) (n : Int) {k : Nat} (hk : ∀ a ∈ ([26, 27, 28] : List Nat), k ≠ a) (j : Nat) (s : mG) : (g_X2_follow_17 G b f n j s) k = s k := by
  unfold g_X2_follow_17
  repeat' with_reducible first | apply ite_f | apply ite_f2 | apply ite_p | apply ite_p2
  all_goals first | (simp only [gs_ne (hk (26) (by simp)), gs_ne (hk (27) (by simp)), gs_ne (hk (28) (by simp)), fr_X2_learn (fun a ha => hk a (by simp only [List.mem_cons, List.not_mem_nil, or_false] at ha ⊢; omega)), fr_X2_lookThroughDays (fun a ha => hk a (by simp only [List.mem_cons, List.not_mem_nil, or_false] at ha ⊢; omega)), fr_fill_27 (fun a ha => hk a (by simp only [List.mem_cons, List.not_mem_nil, or_false] at ha ⊢; omega))]; done) | rfl
theorem frp_g_X2_follow_17_26 (G : mG) (b : Int) (f : Int) (n : Int) {i : Nat} (hj : ∀ a ∈ ([2] : List Nat), i ≠ a) (j : Nat) (s : mG) : (g_X2_follow_17 G b f n j s) 26 i = s 26 i := by
  unfold g_X2_follow_17
  repeat' with_reducible first | apply ite_f | apply ite_f2 | apply ite_p | apply ite_p2
  all_goals first | (simp only [gs_at_ne (hj 2 (by simp)), gs_ne (show (26) ≠ (27) from by omega), gs_ne (show (26) ≠ (28) from by omega), frp_X2_learn_26 (fun a ha => hj a (by simp only [List.mem_cons, List.not_mem_nil, or_false] at ha ⊢; omega)), fr_X2_lookThroughDays (k := 26) (fun a ha => by simp only [List.mem_cons, List.not_mem_nil, or_false] at ha; omega), fr_fill_27 (k := 26) (fun a ha => by simp only [List.mem_cons, List.not_mem_nil, or_false] at ha; omega)]; done) | rfl
theorem frp_X2_follow_26 {G : mG} {b : Int} {f : Int} {n : Int} {i : Nat} (hj : ∀ a ∈ ([2] : List Nat), i ≠ a) : (e_X2_follow G b f n) 26 i = G 26 i := by
  unfold e_X2_follow
  repeat' with_reducible first | apply ite_f | apply ite_f2 | apply ite_p | apply ite_p2
  all_goals first | (simp only [gs_at_ne (hj 2 (by simp)), gs_ne (show (26) ≠ (27) from by omega), gs_ne (show (26) ≠ (28) from by omega), frp_X2_learn_26 (fun a ha => hj a (by simp only [List.mem_cons, List.not_mem_nil, or_false] at ha ⊢; omega)), fr_X2_lookThroughDays (k := 26) (fun a ha => by simp only [List.mem_cons, List.not_mem_nil, or_false] at ha; omega), fr_fill_27 (k := 26) (fun a ha => by simp only [List.mem_cons, List.not_mem_nil, or_false] at ha; omega), fd_frp (frp_g_X2_follow_17_26 _ _ _ _ hj)]; done) | rfl
theorem fr_X2_follow {G : mG} {b : Int} {f : Int} {n : Int} {k : Nat} (hk : ∀ a ∈ ([26, 27, 28] : List Nat), k ≠ a) : (e_X2_follow G b f n) k = G k := by
  unfold e_X2_follow
  repeat' with_reducible first | apply ite_f | apply ite_f2 | apply ite_p | apply ite_p2
  all_goals first | (simp only [gs_ne (hk (26) (by simp)), gs_ne (hk (27) (by simp)), gs_ne (hk (28) (by simp)), fr_X2_learn (fun a ha => hk a (by simp only [List.mem_cons, List.not_mem_nil, or_false] at ha ⊢; omega)), fr_X2_lookThroughDays (fun a ha => hk a (by simp only [List.mem_cons, List.not_mem_nil, or_false] at ha ⊢; omega)), fr_fill_27 (fun a ha => hk a (by simp only [List.mem_cons, List.not_mem_nil, or_false] at ha ⊢; omega)), fd_fr (fr_g_X2_follow_17 _ _ _ _ hk)]; done) | rfl
theorem sp_X2_follow {D : Nat → Bool} {d : Nat} {G : mG} {b : Int} {f : Int} {n : Int} {Q : Option mV → mG → Prop} (hn : 0 ≤ n ∧ n ≤ G 8 4) (hs : G 8 4 ≤ 300) (hD : ∀ k, D k = false → inN [26, 27, 28] k = false) (h : Q none (e_X2_follow G b f n)) : P2 D (d + 3) M_X2_follow [mR 31, mR 13, mI b, mI f, mI n] G Q := by
  unfold e_X2_follow at h
  refine MP.to (D2 := inN [26, 27, 28]) (Q2 := Q) ?_ hD (fun v G' q _ => q)
  refine p2_vc [14, 17] 400 oo_X2 q_X2_follow (by decide) rfl (Nat.le_of_ble_eq_true rfl) ?_
  refine sp_fill_27  (insub (by decide)) ?_
  refine (show W2 o_X2 M_X2_follow (inN [26, 27, 28]) (d + 3) Q 14 [some (mR 31), some (mR 13), some (mI b), some (mI f), some (mI n), none] [] (gs (e_fill_27 G (-1)) 26 2 14) from ?_)
  refine w2_vc [14, 17] 400 oo_X2 q_X2_follow ?_
  refine (show W2 o_X2 M_X2_follow (inN [26, 27, 28]) (d + 3) Q 17 [some (mR 31), some (mR 13), some (mI b), some (mI f), some (mI n), some (mI ((0 : Nat) : Int))] [] (gs (e_fill_27 G (-1)) 26 2 14) from ?_)
  refine lupI (g_X2_follow_17 G b f n) (gs (e_fill_27 G (-1)) 26 2 14) (fun j1 s1 => W2 o_X2 M_X2_follow (inN [26, 27, 28]) (d + 3) Q 17 [some (mR 31), some (mR 13), some (mI b), some (mI f), some (mI n), some (mI ((j1 : Nat) : Int))] [] s1) (fun (_ : Nat) s => (∀ k, (∀ a ∈ ([26, 27, 28] : List Nat), k ≠ a) → s k = (gs (e_fill_27 G (-1)) 26 2 14) k) ∧ (∀ i, (∀ a ∈ ([2] : List Nat), i ≠ a) → s 26 i = (gs (e_fill_27 G (-1)) 26 2 14) 26 i)) n.toNat ⟨⟨fun _ _ => rfl, fun _ _ => rfl⟩, fun j s _ hI => ⟨fun k hk => by rw [← hI.1 k hk]; exact fr_g_X2_follow_17 G b f n hk j s, fun i hi => by rw [← hI.2 i hi]; exact frp_g_X2_follow_17_26 G b f n hi j s⟩⟩ (fun j1 s1 hj1 hI1 ih1 => ?_) (fun hI1 => ?_)
  · have ih1 : W2 o_X2 M_X2_follow (inN [26, 27, 28]) (d + 3) Q 17 [some (mR 31), some (mR 13), some (mI b), some (mI f), some (mI n), some (mI ((j1 + 1 : Nat) : Int))] [] (g_X2_follow_17 G b f n j1 s1) := ih1
    unfold g_X2_follow_17 at ih1
    have hF1 := hI1.1
    have hP1_26 := hI1.2
    have hn1 : s1 8 4 = G 8 4 := by simp (disch := decide) only [hF1, gs_ne, fr_fill_27]
    refine w2_vc [14, 17] 400 oo_X2 q_X2_follow ?_
    refine ⟨fun (c2 : n ≤ ((j1 : Nat) : Int)) => ?_, fun (c2 : ((j1 : Nat) : Int) < n) => ?_⟩
    · skip
      exfalso; first | omega | (rw [w32_i (by omega) (by omega)] at c2; omega) | (simp (disch := omega) only [w32_i] at *; omega)
    · skip
      refine sp_X3_size  ?_
      have c4 := (show f_X3_size s1 = s1 8 4 from rfl)
      refine ⟨fun (c5 : (f_X3_size s1 ) ≤ ((j1 : Nat) : Int)) => ?_, fun (c5 : ((j1 : Nat) : Int) < (f_X3_size s1 )) => ?_⟩
      · skip
        exfalso; first | omega | (rw [w32_i (by omega) (by omega)] at c5; omega) | (simp (disch := omega) only [w32_i] at *; omega)
      · skip
        refine sp_X3_isOf  ?_
        refine ⟨fun (c7 : (f_X3_isOf s1 ((j1 : Nat) : Int) b f) = 0) => ?_, fun (c7 : ¬ (f_X3_isOf s1 ((j1 : Nat) : Int) b f) = 0) => ?_⟩
        · rw [if_pos c7] at ih1
          refine (show W2 o_X2 M_X2_follow (inN [26, 27, 28]) (d + 3) Q 17 [some (mR 31), some (mR 13), some (mI b), some (mI f), some (mI n), some (mI (w32 (((j1 : Nat) : Int) + 1)))] [] s1 from ?_)
          rw [w32_nat (by omega)]
          exact ih1
        · rw [if_neg (c7)] at ih1
          refine sp_X3_kindOf  ?_
          refine sp_X3_dayOf  ?_
          refine sp_X2_learn  (insub (by decide)) ?_
          refine (show W2 o_X2 M_X2_follow (inN [26, 27, 28]) (d + 3) Q 17 [some (mR 31), some (mR 13), some (mI b), some (mI f), some (mI n), some (mI (w32 (((j1 : Nat) : Int) + 1)))] [] (e_X2_learn s1 (f_X3_kindOf s1 ((j1 : Nat) : Int)) (f_X3_dayOf s1 ((j1 : Nat) : Int))) from ?_)
          rw [w32_nat (by omega)]
          exact ih1
  · skip
    refine (show W2 o_X2 M_X2_follow (inN [26, 27, 28]) (d + 3) Q 17 [some (mR 31), some (mR 13), some (mI b), some (mI f), some (mI n), some (mI ((n.toNat : Nat) : Int))] [] (fd (g_X2_follow_17 G b f n) (gs (e_fill_27 G (-1)) 26 2 14) n.toNat) from ?_)
    have hF1 := hI1.1
    have hP1_26 := hI1.2
    have hn1 : (fd (g_X2_follow_17 G b f n) (gs (e_fill_27 G (-1)) 26 2 14) n.toNat) 8 4 = G 8 4 := by simp (disch := decide) only [hF1, gs_ne, fr_fill_27]
    refine w2_vc [14, 17] 400 oo_X2 q_X2_follow ?_
    refine ⟨fun (c11 : n ≤ ((n.toNat : Nat) : Int)) => ?_, fun (c11 : ((n.toNat : Nat) : Int) < n) => ?_⟩
    · rw [if_pos c11] at h
      refine sp_X2_lookThroughDays  (insub (by decide)) ?_
      exact h
    · rw [if_neg (Int.not_le.mpr c11)] at h
      refine sp_X3_size  ?_
      have c14 := (show f_X3_size (fd (g_X2_follow_17 G b f n) (gs (e_fill_27 G (-1)) 26 2 14) n.toNat) = (fd (g_X2_follow_17 G b f n) (gs (e_fill_27 G (-1)) 26 2 14) n.toNat) 8 4 from rfl)
      refine ⟨fun (c15 : (f_X3_size (fd (g_X2_follow_17 G b f n) (gs (e_fill_27 G (-1)) 26 2 14) n.toNat) ) ≤ ((n.toNat : Nat) : Int)) => ?_, fun (c15 : ((n.toNat : Nat) : Int) < (f_X3_size (fd (g_X2_follow_17 G b f n) (gs (e_fill_27 G (-1)) 26 2 14) n.toNat) )) => ?_⟩
      · skip
        refine sp_X2_lookThroughDays  (insub (by decide)) ?_
        exact h
      · skip
        exfalso; first | omega | (rw [w32_i (by omega) (by omega)] at c16; omega) | (simp (disch := omega) only [w32_i] at *; omega)
def e_X5_regard (G : mG) (b : Int) : mG := (gs (gs (gs (gs (gs (gs (gs G 24 1 (f_X0_districtOf G b)) 24 2 (f_X0_qualityOf (gs G 24 1 (f_X0_districtOf G b)) b)) 24 3 (f_X0_audienceOf (gs (gs G 24 1 (f_X0_districtOf G b)) 24 2 (f_X0_qualityOf (gs G 24 1 (f_X0_districtOf G b)) b)) b)) 24 4 (f_X0_marksOf (gs (gs (gs G 24 1 (f_X0_districtOf G b)) 24 2 (f_X0_qualityOf (gs G 24 1 (f_X0_districtOf G b)) b)) 24 3 (f_X0_audienceOf (gs (gs G 24 1 (f_X0_districtOf G b)) 24 2 (f_X0_qualityOf (gs G 24 1 (f_X0_districtOf G b)) b)) b)) b)) 24 5 0) 24 6 0) 24 7 0)
theorem frp_X5_regard_24 {G : mG} {b : Int} {i : Nat} (hj : ∀ a ∈ ([1, 2, 3, 4, 5, 6, 7] : List Nat), i ≠ a) : (e_X5_regard G b) 24 i = G 24 i := by
  unfold e_X5_regard
  repeat' with_reducible first | apply ite_f | apply ite_f2 | apply ite_p | apply ite_p2
  all_goals first | (simp only [gs_at_ne (hj 1 (by simp)), gs_at_ne (hj 2 (by simp)), gs_at_ne (hj 3 (by simp)), gs_at_ne (hj 4 (by simp)), gs_at_ne (hj 5 (by simp)), gs_at_ne (hj 6 (by simp)), gs_at_ne (hj 7 (by simp))]; done) | rfl
theorem fr_X5_regard {G : mG} {b : Int} {k : Nat} (hk : ∀ a ∈ ([24] : List Nat), k ≠ a) : (e_X5_regard G b) k = G k := by
  unfold e_X5_regard
  repeat' with_reducible first | apply ite_f | apply ite_f2 | apply ite_p | apply ite_p2
  all_goals first | (simp only [gs_ne (hk (24) (by simp))]; done) | rfl
theorem sp_X5_regard {D : Nat → Bool} {d : Nat} {G : mG} {b : Int} {Q : Option mV → mG → Prop} (hD : ∀ k, D k = false → inN [24] k = false) (h : Q none (e_X5_regard G b)) : P2 D (d + 3) M_X5_regard [mR 29, mR 6, mI b] G Q := by
  unfold e_X5_regard at h
  refine MP.to (D2 := inN [24]) (Q2 := Q) ?_ hD (fun v G' q _ => q)
  refine p2_vc [9, 18, 24, 27, 33, 36, 41, 46, 51] 400 oo_X5 q_X5_regard (by decide) rfl (Nat.le_of_ble_eq_true rfl) ?_
  refine sp_X0_districtOf  ?_
  refine (show W2 o_X5 M_X5_regard (inN [24]) (d + 3) Q 9 [some (mR 29), some (mR 6), some (mI b)] [] (gs G 24 1 (f_X0_districtOf G b)) from ?_)
  refine w2_vc [9, 18, 24, 27, 33, 36, 41, 46, 51] 400 oo_X5 q_X5_regard ?_
  refine sp_X0_qualityOf  ?_
  refine (show W2 o_X5 M_X5_regard (inN [24]) (d + 3) Q 18 [some (mR 29), some (mR 6), some (mI b)] [] (gs (gs G 24 1 (f_X0_districtOf G b)) 24 2 (f_X0_qualityOf (gs G 24 1 (f_X0_districtOf G b)) b)) from ?_)
  refine w2_vc [9, 18, 24, 27, 33, 36, 41, 46, 51] 400 oo_X5 q_X5_regard ?_
  refine sp_X0_audienceOf  ?_
  refine (show W2 o_X5 M_X5_regard (inN [24]) (d + 3) Q 24 [some (mR 29), some (mR 6), some (mI b)] [mI (f_X0_audienceOf (gs (gs G 24 1 (f_X0_districtOf G b)) 24 2 (f_X0_qualityOf (gs G 24 1 (f_X0_districtOf G b)) b)) b), mR 29] (gs (gs G 24 1 (f_X0_districtOf G b)) 24 2 (f_X0_qualityOf (gs G 24 1 (f_X0_districtOf G b)) b)) from ?_)
  refine w2_vc [9, 18, 24, 27, 33, 36, 41, 46, 51] 400 oo_X5 q_X5_regard ?_
  refine (show W2 o_X5 M_X5_regard (inN [24]) (d + 3) Q 27 [some (mR 29), some (mR 6), some (mI b)] [] (gs (gs (gs G 24 1 (f_X0_districtOf G b)) 24 2 (f_X0_qualityOf (gs G 24 1 (f_X0_districtOf G b)) b)) 24 3 (f_X0_audienceOf (gs (gs G 24 1 (f_X0_districtOf G b)) 24 2 (f_X0_qualityOf (gs G 24 1 (f_X0_districtOf G b)) b)) b)) from ?_)
  refine w2_vc [9, 18, 24, 27, 33, 36, 41, 46, 51] 400 oo_X5 q_X5_regard ?_
  refine sp_X0_marksOf  ?_
  refine (show W2 o_X5 M_X5_regard (inN [24]) (d + 3) Q 33 [some (mR 29), some (mR 6), some (mI b)] [mI (f_X0_marksOf (gs (gs (gs G 24 1 (f_X0_districtOf G b)) 24 2 (f_X0_qualityOf (gs G 24 1 (f_X0_districtOf G b)) b)) 24 3 (f_X0_audienceOf (gs (gs G 24 1 (f_X0_districtOf G b)) 24 2 (f_X0_qualityOf (gs G 24 1 (f_X0_districtOf G b)) b)) b)) b), mR 29] (gs (gs (gs G 24 1 (f_X0_districtOf G b)) 24 2 (f_X0_qualityOf (gs G 24 1 (f_X0_districtOf G b)) b)) 24 3 (f_X0_audienceOf (gs (gs G 24 1 (f_X0_districtOf G b)) 24 2 (f_X0_qualityOf (gs G 24 1 (f_X0_districtOf G b)) b)) b)) from ?_)
  refine w2_vc [9, 18, 24, 27, 33, 36, 41, 46, 51] 400 oo_X5 q_X5_regard ?_
  refine (show W2 o_X5 M_X5_regard (inN [24]) (d + 3) Q 36 [some (mR 29), some (mR 6), some (mI b)] [] (gs (gs (gs (gs G 24 1 (f_X0_districtOf G b)) 24 2 (f_X0_qualityOf (gs G 24 1 (f_X0_districtOf G b)) b)) 24 3 (f_X0_audienceOf (gs (gs G 24 1 (f_X0_districtOf G b)) 24 2 (f_X0_qualityOf (gs G 24 1 (f_X0_districtOf G b)) b)) b)) 24 4 (f_X0_marksOf (gs (gs (gs G 24 1 (f_X0_districtOf G b)) 24 2 (f_X0_qualityOf (gs G 24 1 (f_X0_districtOf G b)) b)) 24 3 (f_X0_audienceOf (gs (gs G 24 1 (f_X0_districtOf G b)) 24 2 (f_X0_qualityOf (gs G 24 1 (f_X0_districtOf G b)) b)) b)) b)) from ?_)
  refine w2_vc [9, 18, 24, 27, 33, 36, 41, 46, 51] 400 oo_X5 q_X5_regard ?_
  refine (show W2 o_X5 M_X5_regard (inN [24]) (d + 3) Q 41 [some (mR 29), some (mR 6), some (mI b)] [] (gs (gs (gs (gs (gs G 24 1 (f_X0_districtOf G b)) 24 2 (f_X0_qualityOf (gs G 24 1 (f_X0_districtOf G b)) b)) 24 3 (f_X0_audienceOf (gs (gs G 24 1 (f_X0_districtOf G b)) 24 2 (f_X0_qualityOf (gs G 24 1 (f_X0_districtOf G b)) b)) b)) 24 4 (f_X0_marksOf (gs (gs (gs G 24 1 (f_X0_districtOf G b)) 24 2 (f_X0_qualityOf (gs G 24 1 (f_X0_districtOf G b)) b)) 24 3 (f_X0_audienceOf (gs (gs G 24 1 (f_X0_districtOf G b)) 24 2 (f_X0_qualityOf (gs G 24 1 (f_X0_districtOf G b)) b)) b)) b)) 24 5 0) from ?_)
  refine w2_vc [9, 18, 24, 27, 33, 36, 41, 46, 51] 400 oo_X5 q_X5_regard ?_
  refine (show W2 o_X5 M_X5_regard (inN [24]) (d + 3) Q 46 [some (mR 29), some (mR 6), some (mI b)] [] (gs (gs (gs (gs (gs (gs G 24 1 (f_X0_districtOf G b)) 24 2 (f_X0_qualityOf (gs G 24 1 (f_X0_districtOf G b)) b)) 24 3 (f_X0_audienceOf (gs (gs G 24 1 (f_X0_districtOf G b)) 24 2 (f_X0_qualityOf (gs G 24 1 (f_X0_districtOf G b)) b)) b)) 24 4 (f_X0_marksOf (gs (gs (gs G 24 1 (f_X0_districtOf G b)) 24 2 (f_X0_qualityOf (gs G 24 1 (f_X0_districtOf G b)) b)) 24 3 (f_X0_audienceOf (gs (gs G 24 1 (f_X0_districtOf G b)) 24 2 (f_X0_qualityOf (gs G 24 1 (f_X0_districtOf G b)) b)) b)) b)) 24 5 0) 24 6 0) from ?_)
  refine w2_vc [9, 18, 24, 27, 33, 36, 41, 46, 51] 400 oo_X5 q_X5_regard ?_
  refine (show W2 o_X5 M_X5_regard (inN [24]) (d + 3) Q 51 [some (mR 29), some (mR 6), some (mI b)] [] (gs (gs (gs (gs (gs (gs (gs G 24 1 (f_X0_districtOf G b)) 24 2 (f_X0_qualityOf (gs G 24 1 (f_X0_districtOf G b)) b)) 24 3 (f_X0_audienceOf (gs (gs G 24 1 (f_X0_districtOf G b)) 24 2 (f_X0_qualityOf (gs G 24 1 (f_X0_districtOf G b)) b)) b)) 24 4 (f_X0_marksOf (gs (gs (gs G 24 1 (f_X0_districtOf G b)) 24 2 (f_X0_qualityOf (gs G 24 1 (f_X0_districtOf G b)) b)) 24 3 (f_X0_audienceOf (gs (gs G 24 1 (f_X0_districtOf G b)) 24 2 (f_X0_qualityOf (gs G 24 1 (f_X0_districtOf G b)) b)) b)) b)) 24 5 0) 24 6 0) 24 7 0) from ?_)
  refine w2_vc [9, 18, 24, 27, 33, 36, 41, 46, 51] 400 oo_X5 q_X5_regard ?_
  exact h
def e_X5_regardCourse (G : mG) (x : Int) : mG := (gs (gs (gs G 24 5 (f_X2_daysOf G 1)) 24 6 (f_X2_daysOf (gs G 24 5 (f_X2_daysOf G 1)) 2)) 24 7 x)
theorem frp_X5_regardCourse_24 {G : mG} {x : Int} {i : Nat} (hj : ∀ a ∈ ([5, 6, 7] : List Nat), i ≠ a) : (e_X5_regardCourse G x) 24 i = G 24 i := by
  unfold e_X5_regardCourse
  repeat' with_reducible first | apply ite_f | apply ite_f2 | apply ite_p | apply ite_p2
  all_goals first | (simp only [gs_at_ne (hj 5 (by simp)), gs_at_ne (hj 6 (by simp)), gs_at_ne (hj 7 (by simp))]; done) | rfl
theorem fr_X5_regardCourse {G : mG} {x : Int} {k : Nat} (hk : ∀ a ∈ ([24] : List Nat), k ≠ a) : (e_X5_regardCourse G x) k = G k := by
  unfold e_X5_regardCourse
  repeat' with_reducible first | apply ite_f | apply ite_f2 | apply ite_p | apply ite_p2
  all_goals first | (simp only [gs_ne (hk (24) (by simp))]; done) | rfl
theorem sp_X5_regardCourse {D : Nat → Bool} {d : Nat} {G : mG} {x : Int} {Q : Option mV → mG → Prop} (hD : ∀ k, D k = false → inN [24] k = false) (h : Q none (e_X5_regardCourse G x)) : P2 D (d + 2) M_X5_regardCourse [mR 29, mR 31, mI x] G Q := by
  unfold e_X5_regardCourse at h
  refine MP.to (D2 := inN [24]) (Q2 := Q) ?_ hD (fun v G' q _ => q)
  refine p2_vc [9, 18, 23] 400 oo_X5 q_X5_regardCourse (by decide) rfl (Nat.le_of_ble_eq_true rfl) ?_
  refine sp_X2_daysOf  ?_
  refine (show W2 o_X5 M_X5_regardCourse (inN [24]) (d + 2) Q 9 [some (mR 29), some (mR 31), some (mI x)] [] (gs G 24 5 (f_X2_daysOf G 1)) from ?_)
  refine w2_vc [9, 18, 23] 400 oo_X5 q_X5_regardCourse ?_
  refine sp_X2_daysOf  ?_
  refine (show W2 o_X5 M_X5_regardCourse (inN [24]) (d + 2) Q 18 [some (mR 29), some (mR 31), some (mI x)] [] (gs (gs G 24 5 (f_X2_daysOf G 1)) 24 6 (f_X2_daysOf (gs G 24 5 (f_X2_daysOf G 1)) 2)) from ?_)
  refine w2_vc [9, 18, 23] 400 oo_X5 q_X5_regardCourse ?_
  refine (show W2 o_X5 M_X5_regardCourse (inN [24]) (d + 2) Q 23 [some (mR 29), some (mR 31), some (mI x)] [] (gs (gs (gs G 24 5 (f_X2_daysOf G 1)) 24 6 (f_X2_daysOf (gs G 24 5 (f_X2_daysOf G 1)) 2)) 24 7 x) from ?_)
  refine w2_vc [9, 18, 23] 400 oo_X5 q_X5_regardCourse ?_
  exact h
def f_X5_valueOf (G : mG) (x : Int) (y : Int) : Int := (if x = 3 then y else (if x = 27 then (mAnd (mUshr (G 24 4) y) 1) else (if x = 28 then (G 24 1) else (if x = 29 then (G 24 2) else (if x = 30 then (G 24 3) else (if x = 31 then (G 24 5) else (if x = 32 then (G 24 6) else (if x = 33 then (G 24 7) else 0))))))))
theorem sp_X5_valueOf {D : Nat → Bool} {d : Nat} {G : mG} {x : Int} {y : Int} {Q : Option mV → mG → Prop} (h : Q (some (mI (f_X5_valueOf G x y))) G) : P2 D (d + 1) M_X5_valueOf [mR 29, mI x, mI y] G Q := by
  unfold f_X5_valueOf at h
  refine p2_vc [] 400 oo_X5 q_X5_valueOf (by decide) rfl (Nat.le_of_ble_eq_true rfl) ?_
  refine ⟨fun (c1 : x = 3) => ?_, fun (c1 : ¬ x = 3) => ?_⟩
  · rw [if_pos c1] at h
    exact h
  rw [if_neg c1] at h
  refine ⟨fun (c2 : x = 27) => ?_, fun (c2 : ¬ x = 27) => ?_⟩
  · rw [if_pos c2] at h
    exact h
  rw [if_neg c2] at h
  refine ⟨fun (c3 : x = 28) => ?_, fun (c3 : ¬ x = 28) => ?_⟩
  · rw [if_pos c3] at h
    exact h
  rw [if_neg c3] at h
  refine ⟨fun (c4 : x = 29) => ?_, fun (c4 : ¬ x = 29) => ?_⟩
  · rw [if_pos c4] at h
    exact h
  rw [if_neg c4] at h
  refine ⟨fun (c5 : x = 30) => ?_, fun (c5 : ¬ x = 30) => ?_⟩
  · rw [if_pos c5] at h
    exact h
  rw [if_neg c5] at h
  refine ⟨fun (c6 : x = 31) => ?_, fun (c6 : ¬ x = 31) => ?_⟩
  · rw [if_pos c6] at h
    exact h
  rw [if_neg c6] at h
  refine ⟨fun (c7 : x = 32) => ?_, fun (c7 : ¬ x = 32) => ?_⟩
  · rw [if_pos c7] at h
    exact h
  rw [if_neg c7] at h
  refine ⟨fun (c8 : x = 33) => ?_, fun (c8 : ¬ x = 33) => ?_⟩
  · rw [if_pos c8] at h
    exact h
  rw [if_neg c8] at h
  exact h
def f_X5_combine (G : mG) (x : Int) (y : Int) (z : Int) : Int := (if x = 7 then (w32 (y + z)) else (if x = 8 then (w32 (y - z)) else (if x = 9 then (w32 (y * z)) else (if x = 10 then (if ¬ y = z then 0 else 1) else (if x = 11 then (if y = z then 0 else 1) else (if x = 12 then (if z ≤ y then 0 else 1) else (if x = 13 then (if z < y then 0 else 1) else (if x = 25 then (mOr y z) else (if x = 26 then (mAnd y z) else 0)))))))))
theorem sp_X5_combine {D : Nat → Bool} {d : Nat} {G : mG} {x : Int} {y : Int} {z : Int} {Q : Option mV → mG → Prop} (h : Q (some (mI (f_X5_combine G x y z))) G) : P2 D (d + 1) M_X5_combine [mI x, mI y, mI z] G Q := by
  unfold f_X5_combine at h
  refine p2_vc [] 400 oo_X5 q_X5_combine (by decide) rfl (Nat.le_of_ble_eq_true rfl) ?_
  refine ⟨fun (c1 : x < 7 ∨ 26 < x) => ?_, fun (c1 : x = 7) => ?_, fun (c1 : x = 8) => ?_, fun (c1 : x = 9) => ?_, fun (c1 : x = 10) => ?_, fun (c1 : x = 11) => ?_, fun (c1 : x = 12) => ?_, fun (c1 : x = 13) => ?_, fun (c1 : x = 14) => ?_, fun (c1 : x = 15) => ?_, fun (c1 : x = 16) => ?_, fun (c1 : x = 17) => ?_, fun (c1 : x = 18) => ?_, fun (c1 : x = 19) => ?_, fun (c1 : x = 20) => ?_, fun (c1 : x = 21) => ?_, fun (c1 : x = 22) => ?_, fun (c1 : x = 23) => ?_, fun (c1 : x = 24) => ?_, fun (c1 : x = 25) => ?_, fun (c1 : x = 26) => ?_, trivial⟩
  · skip
    rw [if_neg (show ¬ x = 7 from by omega)] at h
    rw [if_neg (show ¬ x = 8 from by omega)] at h
    rw [if_neg (show ¬ x = 9 from by omega)] at h
    rw [if_neg (show ¬ x = 10 from by omega)] at h
    rw [if_neg (show ¬ x = 11 from by omega)] at h
    rw [if_neg (show ¬ x = 12 from by omega)] at h
    rw [if_neg (show ¬ x = 13 from by omega)] at h
    rw [if_neg (show ¬ x = 25 from by omega)] at h
    rw [if_neg (show ¬ x = 26 from by omega)] at h
    exact h
  · skip
    rw [if_pos c1] at h
    exact h
  · skip
    rw [if_neg (show ¬ x = 7 from by omega)] at h
    rw [if_pos c1] at h
    exact h
  · skip
    rw [if_neg (show ¬ x = 7 from by omega)] at h
    rw [if_neg (show ¬ x = 8 from by omega)] at h
    rw [if_pos c1] at h
    exact h
  · skip
    rw [if_neg (show ¬ x = 7 from by omega)] at h
    rw [if_neg (show ¬ x = 8 from by omega)] at h
    rw [if_neg (show ¬ x = 9 from by omega)] at h
    rw [if_pos c1] at h
    refine ⟨fun (c2 : ¬ y = z) => ?_, fun (c2 : y = z) => ?_⟩
    · rw [if_pos c2] at h
      exact h
    · rw [if_neg (fun q => q c2)] at h
      exact h
  · skip
    rw [if_neg (show ¬ x = 7 from by omega)] at h
    rw [if_neg (show ¬ x = 8 from by omega)] at h
    rw [if_neg (show ¬ x = 9 from by omega)] at h
    rw [if_neg (show ¬ x = 10 from by omega)] at h
    rw [if_pos c1] at h
    refine ⟨fun (c3 : y = z) => ?_, fun (c3 : ¬ y = z) => ?_⟩
    · rw [if_pos c3] at h
      exact h
    · rw [if_neg (c3)] at h
      exact h
  · skip
    rw [if_neg (show ¬ x = 7 from by omega)] at h
    rw [if_neg (show ¬ x = 8 from by omega)] at h
    rw [if_neg (show ¬ x = 9 from by omega)] at h
    rw [if_neg (show ¬ x = 10 from by omega)] at h
    rw [if_neg (show ¬ x = 11 from by omega)] at h
    rw [if_pos c1] at h
    refine ⟨fun (c4 : z ≤ y) => ?_, fun (c4 : y < z) => ?_⟩
    · rw [if_pos c4] at h
      exact h
    · rw [if_neg (Int.not_le.mpr c4)] at h
      exact h
  · skip
    rw [if_neg (show ¬ x = 7 from by omega)] at h
    rw [if_neg (show ¬ x = 8 from by omega)] at h
    rw [if_neg (show ¬ x = 9 from by omega)] at h
    rw [if_neg (show ¬ x = 10 from by omega)] at h
    rw [if_neg (show ¬ x = 11 from by omega)] at h
    rw [if_neg (show ¬ x = 12 from by omega)] at h
    rw [if_pos c1] at h
    refine ⟨fun (c5 : z < y) => ?_, fun (c5 : y ≤ z) => ?_⟩
    · rw [if_pos c5] at h
      exact h
    · rw [if_neg (Int.not_lt.mpr c5)] at h
      exact h
  · skip
    rw [if_neg (show ¬ x = 7 from by omega)] at h
    rw [if_neg (show ¬ x = 8 from by omega)] at h
    rw [if_neg (show ¬ x = 9 from by omega)] at h
    rw [if_neg (show ¬ x = 10 from by omega)] at h
    rw [if_neg (show ¬ x = 11 from by omega)] at h
    rw [if_neg (show ¬ x = 12 from by omega)] at h
    rw [if_neg (show ¬ x = 13 from by omega)] at h
    rw [if_neg (show ¬ x = 25 from by omega)] at h
    rw [if_neg (show ¬ x = 26 from by omega)] at h
    exact h
  · skip
    rw [if_neg (show ¬ x = 7 from by omega)] at h
    rw [if_neg (show ¬ x = 8 from by omega)] at h
    rw [if_neg (show ¬ x = 9 from by omega)] at h
    rw [if_neg (show ¬ x = 10 from by omega)] at h
    rw [if_neg (show ¬ x = 11 from by omega)] at h
    rw [if_neg (show ¬ x = 12 from by omega)] at h
    rw [if_neg (show ¬ x = 13 from by omega)] at h
    rw [if_neg (show ¬ x = 25 from by omega)] at h
    rw [if_neg (show ¬ x = 26 from by omega)] at h
    exact h
  · skip
    rw [if_neg (show ¬ x = 7 from by omega)] at h
    rw [if_neg (show ¬ x = 8 from by omega)] at h
    rw [if_neg (show ¬ x = 9 from by omega)] at h
    rw [if_neg (show ¬ x = 10 from by omega)] at h
    rw [if_neg (show ¬ x = 11 from by omega)] at h
    rw [if_neg (show ¬ x = 12 from by omega)] at h
    rw [if_neg (show ¬ x = 13 from by omega)] at h
    rw [if_neg (show ¬ x = 25 from by omega)] at h
    rw [if_neg (show ¬ x = 26 from by omega)] at h
    exact h
  · skip
    rw [if_neg (show ¬ x = 7 from by omega)] at h
    rw [if_neg (show ¬ x = 8 from by omega)] at h
    rw [if_neg (show ¬ x = 9 from by omega)] at h
    rw [if_neg (show ¬ x = 10 from by omega)] at h
    rw [if_neg (show ¬ x = 11 from by omega)] at h
    rw [if_neg (show ¬ x = 12 from by omega)] at h
    rw [if_neg (show ¬ x = 13 from by omega)] at h
    rw [if_neg (show ¬ x = 25 from by omega)] at h
    rw [if_neg (show ¬ x = 26 from by omega)] at h
    exact h
  · skip
    rw [if_neg (show ¬ x = 7 from by omega)] at h
    rw [if_neg (show ¬ x = 8 from by omega)] at h
    rw [if_neg (show ¬ x = 9 from by omega)] at h
    rw [if_neg (show ¬ x = 10 from by omega)] at h
    rw [if_neg (show ¬ x = 11 from by omega)] at h
    rw [if_neg (show ¬ x = 12 from by omega)] at h
    rw [if_neg (show ¬ x = 13 from by omega)] at h
    rw [if_neg (show ¬ x = 25 from by omega)] at h
    rw [if_neg (show ¬ x = 26 from by omega)] at h
    exact h
  · skip
    rw [if_neg (show ¬ x = 7 from by omega)] at h
    rw [if_neg (show ¬ x = 8 from by omega)] at h
    rw [if_neg (show ¬ x = 9 from by omega)] at h
    rw [if_neg (show ¬ x = 10 from by omega)] at h
    rw [if_neg (show ¬ x = 11 from by omega)] at h
    rw [if_neg (show ¬ x = 12 from by omega)] at h
    rw [if_neg (show ¬ x = 13 from by omega)] at h
    rw [if_neg (show ¬ x = 25 from by omega)] at h
    rw [if_neg (show ¬ x = 26 from by omega)] at h
    exact h
  · skip
    rw [if_neg (show ¬ x = 7 from by omega)] at h
    rw [if_neg (show ¬ x = 8 from by omega)] at h
    rw [if_neg (show ¬ x = 9 from by omega)] at h
    rw [if_neg (show ¬ x = 10 from by omega)] at h
    rw [if_neg (show ¬ x = 11 from by omega)] at h
    rw [if_neg (show ¬ x = 12 from by omega)] at h
    rw [if_neg (show ¬ x = 13 from by omega)] at h
    rw [if_neg (show ¬ x = 25 from by omega)] at h
    rw [if_neg (show ¬ x = 26 from by omega)] at h
    exact h
  · skip
    rw [if_neg (show ¬ x = 7 from by omega)] at h
    rw [if_neg (show ¬ x = 8 from by omega)] at h
    rw [if_neg (show ¬ x = 9 from by omega)] at h
    rw [if_neg (show ¬ x = 10 from by omega)] at h
    rw [if_neg (show ¬ x = 11 from by omega)] at h
    rw [if_neg (show ¬ x = 12 from by omega)] at h
    rw [if_neg (show ¬ x = 13 from by omega)] at h
    rw [if_neg (show ¬ x = 25 from by omega)] at h
    rw [if_neg (show ¬ x = 26 from by omega)] at h
    exact h
  · skip
    rw [if_neg (show ¬ x = 7 from by omega)] at h
    rw [if_neg (show ¬ x = 8 from by omega)] at h
    rw [if_neg (show ¬ x = 9 from by omega)] at h
    rw [if_neg (show ¬ x = 10 from by omega)] at h
    rw [if_neg (show ¬ x = 11 from by omega)] at h
    rw [if_neg (show ¬ x = 12 from by omega)] at h
    rw [if_neg (show ¬ x = 13 from by omega)] at h
    rw [if_neg (show ¬ x = 25 from by omega)] at h
    rw [if_neg (show ¬ x = 26 from by omega)] at h
    exact h
  · skip
    rw [if_neg (show ¬ x = 7 from by omega)] at h
    rw [if_neg (show ¬ x = 8 from by omega)] at h
    rw [if_neg (show ¬ x = 9 from by omega)] at h
    rw [if_neg (show ¬ x = 10 from by omega)] at h
    rw [if_neg (show ¬ x = 11 from by omega)] at h
    rw [if_neg (show ¬ x = 12 from by omega)] at h
    rw [if_neg (show ¬ x = 13 from by omega)] at h
    rw [if_neg (show ¬ x = 25 from by omega)] at h
    rw [if_neg (show ¬ x = 26 from by omega)] at h
    exact h
  · skip
    rw [if_neg (show ¬ x = 7 from by omega)] at h
    rw [if_neg (show ¬ x = 8 from by omega)] at h
    rw [if_neg (show ¬ x = 9 from by omega)] at h
    rw [if_neg (show ¬ x = 10 from by omega)] at h
    rw [if_neg (show ¬ x = 11 from by omega)] at h
    rw [if_neg (show ¬ x = 12 from by omega)] at h
    rw [if_neg (show ¬ x = 13 from by omega)] at h
    rw [if_neg (show ¬ x = 25 from by omega)] at h
    rw [if_neg (show ¬ x = 26 from by omega)] at h
    exact h
  · skip
    rw [if_neg (show ¬ x = 7 from by omega)] at h
    rw [if_neg (show ¬ x = 8 from by omega)] at h
    rw [if_neg (show ¬ x = 9 from by omega)] at h
    rw [if_neg (show ¬ x = 10 from by omega)] at h
    rw [if_neg (show ¬ x = 11 from by omega)] at h
    rw [if_neg (show ¬ x = 12 from by omega)] at h
    rw [if_neg (show ¬ x = 13 from by omega)] at h
    rw [if_pos c1] at h
    exact h
  · skip
    rw [if_neg (show ¬ x = 7 from by omega)] at h
    rw [if_neg (show ¬ x = 8 from by omega)] at h
    rw [if_neg (show ¬ x = 9 from by omega)] at h
    rw [if_neg (show ¬ x = 10 from by omega)] at h
    rw [if_neg (show ¬ x = 11 from by omega)] at h
    rw [if_neg (show ¬ x = 12 from by omega)] at h
    rw [if_neg (show ¬ x = 13 from by omega)] at h
    rw [if_neg (show ¬ x = 25 from by omega)] at h
    rw [if_pos c1] at h
    exact h
