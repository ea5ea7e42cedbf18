def r_X12_pace (G : mG) (x : Int) (y : Int) : Int × mG := (if x < 0 then (0, G) else (if 5 < x then (0, G) else (if y < 1 then (0, G) else (if y ≤ 9 then (1, (gs G 99 (Int.toNat x) y)) else (0, G)))))
theorem fr_X12_pace {G : mG} {x : Int} {y : Int} {k : Nat} (hk : ∀ a ∈ ([99] : List Nat), k ≠ a) : (r_X12_pace G x y).2 k = G k := by
  unfold r_X12_pace
  repeat' with_reducible first | apply ite_f | apply ite_f2 | apply ite_p | apply ite_p2
  all_goals first | (simp only [gs_ne (hk (99) (by simp))]; done) | rfl
theorem sp_X12_pace {D : Nat → Bool} {d : Nat} {G : mG} {x : Int} {y : Int} {Q : Option mV → mG → Prop} (hD : ∀ k, D k = false → inN [99] k = false) (h : Q (some (mI (r_X12_pace G x y).1)) (r_X12_pace G x y).2) : P2 D (d + 1) M_X12_pace [mR 69, mI x, mI y] G Q := by
  unfold r_X12_pace at h
  refine MP.to (D2 := inN [99]) (Q2 := Q) ?_ hD (fun v G' q _ => q)
  refine p2_vc [29] 400 oo_X12 q_X12_pace (by decide) rfl (Nat.le_of_ble_eq_true rfl) ?_
  refine ⟨fun (c1 : x < 0) => ?_, fun (c1 : 0 ≤ x) => ?_⟩
  · rw [if_pos c1] at h
    exact ⟨by omega, h⟩
  · rw [if_neg (Int.not_lt.mpr c1)] at h
    refine ⟨fun (c2 : 5 < x) => ?_, fun (c2 : x ≤ 5) => ?_⟩
    · rw [if_pos c2] at h
      exact ⟨by omega, h⟩
    · rw [if_neg (Int.not_lt.mpr c2)] at h
      refine ⟨fun (c3 : y < 1) => ?_, fun (c3 : 1 ≤ y) => ?_⟩
      · rw [if_pos c3] at h
        exact ⟨by omega, h⟩
      · rw [if_neg (Int.not_lt.mpr c3)] at h
        refine ⟨fun (c4 : y ≤ 9) => ?_, fun (c4 : 9 < y) => ?_⟩
        · rw [if_pos c4] at h
          refine ⟨(show 0 ≤ x ∧ x < ((6 : Nat) : Int) from by first | omega | (simp (disch := omega) only [w32_i]; omega)), ?_⟩
          refine (show W2 o_X12 M_X12_pace (inN [99]) (d + 1) Q 29 [some (mR 69), some (mI x), some (mI y)] [] (gs G 99 (Int.toNat x) y) from ?_)
          refine w2_vc [29] 400 oo_X12 q_X12_pace ?_
          exact ⟨by omega, h⟩
        · rw [if_neg (Int.not_le.mpr c4)] at h
          exact ⟨by omega, h⟩
def r_X12_fact (G : mG) (kd : Int) (b : Int) (f : Int) (dy : Int) : Int × mG := (if (G 64 51) = 300 then ((-1), G) else (if kd < 0 then ((-1), G) else (if 4 < kd then ((-1), G) else (if (f_X12_isBoard G b) = 0 then ((-1), G) else (if (f_X12_isFortnight G f) = 0 then ((-1), G) else (if dy < 0 then ((-1), G) else (if ¬ kd = 4 then (if dy ≤ 13 then ((w32 ((w32 ((G 64 51) + 1)) - 1)), (gs (gs (gs (gs (gs G 100 (Int.toNat (G 64 51)) kd) 101 (Int.toNat (G 64 51)) b) 102 (Int.toNat (G 64 51)) f) 103 (Int.toNat (G 64 51)) dy) 64 51 (w32 ((G 64 51) + 1)))) else ((-1), G)) else (if dy ≤ 0 then ((w32 ((w32 ((G 64 51) + 1)) - 1)), (gs (gs (gs (gs (gs G 100 (Int.toNat (G 64 51)) kd) 101 (Int.toNat (G 64 51)) b) 102 (Int.toNat (G 64 51)) f) 103 (Int.toNat (G 64 51)) dy) 64 51 (w32 ((G 64 51) + 1)))) else ((-1), G)))))))))
theorem frp_X12_fact_64 {G : mG} {kd : Int} {b : Int} {f : Int} {dy : Int} {i : Nat} (hj : ∀ a ∈ ([51] : List Nat), i ≠ a) : (r_X12_fact G kd b f dy).2 64 i = G 64 i := by
  unfold r_X12_fact
  repeat' with_reducible first | apply ite_f | apply ite_f2 | apply ite_p | apply ite_p2
  all_goals first | (simp only [gs_at_ne (hj 51 (by simp)), gs_ne (show (64) ≠ (100) from by omega), gs_ne (show (64) ≠ (101) from by omega), gs_ne (show (64) ≠ (102) from by omega), gs_ne (show (64) ≠ (103) from by omega)]; done) | rfl
theorem fr_X12_fact {G : mG} {kd : Int} {b : Int} {f : Int} {dy : Int} {k : Nat} (hk : ∀ a ∈ ([64, 100, 101, 102, 103] : List Nat), k ≠ a) : (r_X12_fact G kd b f dy).2 k = G k := by
  unfold r_X12_fact
  repeat' with_reducible first | apply ite_f | apply ite_f2 | apply ite_p | apply ite_p2
  all_goals first | (simp only [gs_ne (hk (64) (by simp)), gs_ne (hk (100) (by simp)), gs_ne (hk (101) (by simp)), gs_ne (hk (102) (by simp)), gs_ne (hk (103) (by simp))]; done) | rfl
set_option maxHeartbeats 8000000 in
theorem sp_X12_fact {D : Nat → Bool} {d : Nat} {G : mG} {kd : Int} {b : Int} {f : Int} {dy : Int} {Q : Option mV → mG → Prop} (hfa : 0 ≤ G 64 51 ∧ G 64 51 ≤ 300) (hD : ∀ k, D k = false → inN [64, 100, 101, 102, 103] k = false) (h : Q (some (mI (r_X12_fact G kd b f dy).1)) (r_X12_fact G kd b f dy).2) : P2 D (d + 2) M_X12_fact [mR 69, mI kd, mI b, mI f, mI dy] G Q := by
  unfold r_X12_fact at h
  refine MP.to (D2 := inN [64, 100, 101, 102, 103]) (Q2 := Q) ?_ hD (fun v G' q _ => q)
  refine p2_vc [67, 77, 87, 98, 108] 400 oo_X12 q_X12_fact (by decide) rfl (Nat.le_of_ble_eq_true rfl) ?_
  refine ⟨fun (c1 : (G 64 51) = 300) => ?_, fun (c1 : ¬ (G 64 51) = 300) => ?_⟩
  · rw [if_pos c1] at h
    exact h
  · rw [if_neg (c1)] at h
    refine ⟨fun (c2 : kd < 0) => ?_, fun (c2 : 0 ≤ kd) => ?_⟩
    · rw [if_pos c2] at h
      exact h
    · rw [if_neg (Int.not_lt.mpr c2)] at h
      refine ⟨fun (c3 : 4 < kd) => ?_, fun (c3 : kd ≤ 4) => ?_⟩
      · rw [if_pos c3] at h
        exact h
      · rw [if_neg (Int.not_lt.mpr c3)] at h
        refine sp_X12_isBoard  ?_
        have c5 := fa_X12_isBoard G b
        refine ⟨fun (c6 : (f_X12_isBoard G b) = 0) => ?_, fun (c6 : ¬ (f_X12_isBoard G b) = 0) => ?_⟩
        · rw [if_pos c6] at h
          exact h
        · rw [if_neg (c6)] at h
          refine sp_X12_isFortnight  ?_
          have c8 := fa_X12_isFortnight G f
          refine ⟨fun (c9 : (f_X12_isFortnight G f) = 0) => ?_, fun (c9 : ¬ (f_X12_isFortnight G f) = 0) => ?_⟩
          · rw [if_pos c9] at h
            exact h
          · rw [if_neg (c9)] at h
            refine ⟨fun (c10 : dy < 0) => ?_, fun (c10 : 0 ≤ dy) => ?_⟩
            · rw [if_pos c10] at h
              exact h
            · rw [if_neg (Int.not_lt.mpr c10)] at h
              refine ⟨fun (c11 : ¬ kd = 4) => ?_, fun (c11 : kd = 4) => ?_⟩
              · rw [if_pos c11] at h
                refine ⟨fun (c12 : dy ≤ 13) => ?_, fun (c12 : 13 < dy) => ?_⟩
                · rw [if_pos c12] at h
                  refine ⟨(show 0 ≤ (G 64 51) ∧ (G 64 51) < ((300 : Nat) : Int) from by first | omega | (simp (disch := omega) only [w32_i]; omega)), ?_⟩
                  refine (show W2 o_X12 M_X12_fact (inN [64, 100, 101, 102, 103]) (d + 2) Q 67 [some (mR 69), some (mI kd), some (mI b), some (mI f), some (mI dy)] [] (gs G 100 (Int.toNat (G 64 51)) kd) from ?_)
                  refine w2_vc [67, 77, 87, 98, 108] 400 oo_X12 q_X12_fact ?_
                  refine ⟨(show 0 ≤ (G 64 51) ∧ (G 64 51) < ((300 : Nat) : Int) from by first | omega | (simp (disch := omega) only [w32_i]; omega)), ?_⟩
                  refine (show W2 o_X12 M_X12_fact (inN [64, 100, 101, 102, 103]) (d + 2) Q 77 [some (mR 69), some (mI kd), some (mI b), some (mI f), some (mI dy)] [] (gs (gs G 100 (Int.toNat (G 64 51)) kd) 101 (Int.toNat (G 64 51)) b) from ?_)
                  refine w2_vc [67, 77, 87, 98, 108] 400 oo_X12 q_X12_fact ?_
                  refine ⟨(show 0 ≤ (G 64 51) ∧ (G 64 51) < ((300 : Nat) : Int) from by first | omega | (simp (disch := omega) only [w32_i]; omega)), ?_⟩
                  refine (show W2 o_X12 M_X12_fact (inN [64, 100, 101, 102, 103]) (d + 2) Q 87 [some (mR 69), some (mI kd), some (mI b), some (mI f), some (mI dy)] [] (gs (gs (gs G 100 (Int.toNat (G 64 51)) kd) 101 (Int.toNat (G 64 51)) b) 102 (Int.toNat (G 64 51)) f) from ?_)
                  refine w2_vc [67, 77, 87, 98, 108] 400 oo_X12 q_X12_fact ?_
                  refine ⟨(show 0 ≤ (G 64 51) ∧ (G 64 51) < ((300 : Nat) : Int) from by first | omega | (simp (disch := omega) only [w32_i]; omega)), ?_⟩
                  refine (show W2 o_X12 M_X12_fact (inN [64, 100, 101, 102, 103]) (d + 2) Q 98 [some (mR 69), some (mI kd), some (mI b), some (mI f), some (mI dy)] [] (gs (gs (gs (gs G 100 (Int.toNat (G 64 51)) kd) 101 (Int.toNat (G 64 51)) b) 102 (Int.toNat (G 64 51)) f) 103 (Int.toNat (G 64 51)) dy) from ?_)
                  refine w2_vc [67, 77, 87, 98, 108] 400 oo_X12 q_X12_fact ?_
                  refine (show W2 o_X12 M_X12_fact (inN [64, 100, 101, 102, 103]) (d + 2) Q 108 [some (mR 69), some (mI kd), some (mI b), some (mI f), some (mI dy)] [] (gs (gs (gs (gs (gs G 100 (Int.toNat (G 64 51)) kd) 101 (Int.toNat (G 64 51)) b) 102 (Int.toNat (G 64 51)) f) 103 (Int.toNat (G 64 51)) dy) 64 51 (w32 ((G 64 51) + 1))) from ?_)
                  refine w2_vc [67, 77, 87, 98, 108] 400 oo_X12 q_X12_fact ?_
                  exact h
                · rw [if_neg (Int.not_le.mpr c12)] at h
                  exact h
              · rw [if_neg (fun q => q c11)] at h
                refine ⟨fun (c13 : dy ≤ 0) => ?_, fun (c13 : 0 < dy) => ?_⟩
                · rw [if_pos c13] at h
                  refine ⟨(show 0 ≤ (G 64 51) ∧ (G 64 51) < ((300 : Nat) : Int) from by first | omega | (simp (disch := omega) only [w32_i]; omega)), ?_⟩
                  refine (show W2 o_X12 M_X12_fact (inN [64, 100, 101, 102, 103]) (d + 2) Q 67 [some (mR 69), some (mI kd), some (mI b), some (mI f), some (mI dy)] [] (gs G 100 (Int.toNat (G 64 51)) kd) from ?_)
                  refine w2_vc [67, 77, 87, 98, 108] 400 oo_X12 q_X12_fact ?_
                  refine ⟨(show 0 ≤ (G 64 51) ∧ (G 64 51) < ((300 : Nat) : Int) from by first | omega | (simp (disch := omega) only [w32_i]; omega)), ?_⟩
                  refine (show W2 o_X12 M_X12_fact (inN [64, 100, 101, 102, 103]) (d + 2) Q 77 [some (mR 69), some (mI kd), some (mI b), some (mI f), some (mI dy)] [] (gs (gs G 100 (Int.toNat (G 64 51)) kd) 101 (Int.toNat (G 64 51)) b) from ?_)
                  refine w2_vc [67, 77, 87, 98, 108] 400 oo_X12 q_X12_fact ?_
                  refine ⟨(show 0 ≤ (G 64 51) ∧ (G 64 51) < ((300 : Nat) : Int) from by first | omega | (simp (disch := omega) only [w32_i]; omega)), ?_⟩
                  refine (show W2 o_X12 M_X12_fact (inN [64, 100, 101, 102, 103]) (d + 2) Q 87 [some (mR 69), some (mI kd), some (mI b), some (mI f), some (mI dy)] [] (gs (gs (gs G 100 (Int.toNat (G 64 51)) kd) 101 (Int.toNat (G 64 51)) b) 102 (Int.toNat (G 64 51)) f) from ?_)
                  refine w2_vc [67, 77, 87, 98, 108] 400 oo_X12 q_X12_fact ?_
                  refine ⟨(show 0 ≤ (G 64 51) ∧ (G 64 51) < ((300 : Nat) : Int) from by first | omega | (simp (disch := omega) only [w32_i]; omega)), ?_⟩
                  refine (show W2 o_X12 M_X12_fact (inN [64, 100, 101, 102, 103]) (d + 2) Q 98 [some (mR 69), some (mI kd), some (mI b), some (mI f), some (mI dy)] [] (gs (gs (gs (gs G 100 (Int.toNat (G 64 51)) kd) 101 (Int.toNat (G 64 51)) b) 102 (Int.toNat (G 64 51)) f) 103 (Int.toNat (G 64 51)) dy) from ?_)
                  refine w2_vc [67, 77, 87, 98, 108] 400 oo_X12 q_X12_fact ?_
                  refine (show W2 o_X12 M_X12_fact (inN [64, 100, 101, 102, 103]) (d + 2) Q 108 [some (mR 69), some (mI kd), some (mI b), some (mI f), some (mI dy)] [] (gs (gs (gs (gs (gs G 100 (Int.toNat (G 64 51)) kd) 101 (Int.toNat (G 64 51)) b) 102 (Int.toNat (G 64 51)) f) 103 (Int.toNat (G 64 51)) dy) 64 51 (w32 ((G 64 51) + 1))) from ?_)
                  refine w2_vc [67, 77, 87, 98, 108] 400 oo_X12 q_X12_fact ?_
                  exact h
                · rw [if_neg (Int.not_le.mpr c13)] at h
                  exact h
def g_X12_isLost_3 (G : mG) (b : Int) (f : Int) (n : Int) : Nat → Unit → (Unit ⊕ (Int)) := fun j1 s1 => (if ¬ (G 100 (Int.toNat ((j1 : Nat) : Int))) = 4 then (Sum.inl ()) else (if ¬ (G 101 (Int.toNat ((j1 : Nat) : Int))) = b then (Sum.inl ()) else (if f < (G 102 (Int.toNat ((j1 : Nat) : Int))) then (Sum.inl ()) else (Sum.inr 1))))
def f_X12_isLost (G : mG) (b : Int) (f : Int) (n : Int) : Int := (fnl (fe (g_X12_isLost_3 G b f n) () (Int.toNat n)) (fun s1 => 0))
theorem sp_X12_isLost {D : Nat → Bool} {d : Nat} {G : mG} {b : Int} {f : Int} {n : Int} {Q : Option mV → mG → Prop} (hk : 0 ≤ n ∧ n ≤ 300) (h : Q (some (mI (f_X12_isLost G b f n))) G) : P2 D (d + 1) M_X12_isLost [mR 69, mI b, mI f, mI n] G Q := by
  unfold f_X12_isLost at h
  refine p2_vc [3] 400 oo_X12 q_X12_isLost (by decide) rfl (Nat.le_of_ble_eq_true rfl) ?_
  refine (show W2 o_X12 M_X12_isLost D (d + 1) Q 3 [some (mR 69), some (mI b), some (mI f), some (mI n), some (mI ((0 : Nat) : Int))] [] G from ?_)
  refine lupF (g_X12_isLost_3 G b f n) () (fun j1 s1 => W2 o_X12 M_X12_isLost D (d + 1) Q 3 [some (mR 69), some (mI b), some (mI f), some (mI n), some (mI ((j1 : Nat) : Int))] [] G) (fun r => Q (some (mI r)) G) (fun _ _ => True) (Int.toNat n) ⟨trivial, fun _ _ _ _ _ _ => trivial⟩ (fun j1 s1 hj1 hI1 ih1 => ?_) ?_
  · have ih1 : sk (fun z => W2 o_X12 M_X12_isLost D (d + 1) Q 3 [some (mR 69), some (mI b), some (mI f), some (mI n), some (mI ((j1 + 1 : Nat) : Int))] [] G) (fun r => Q (some (mI r)) G) (g_X12_isLost_3 G b f n j1 s1) := ih1
    unfold g_X12_isLost_3 at ih1
    refine w2_vc [3] 400 oo_X12 q_X12_isLost ?_
    refine ⟨fun (c1 : n ≤ ((j1 : Nat) : Int)) => ?_, fun (c1 : ((j1 : Nat) : Int) < n) => ?_⟩
    · skip
      exfalso; first | omega | (rw [w32_i (by omega) (by omega)] at c1; omega) | (simp (disch := omega) only [w32_i] at *; omega)
    · skip
      refine ⟨(show 0 ≤ ((j1 : Nat) : Int) ∧ ((j1 : Nat) : Int) < ((300 : Nat) : Int) from by first | omega | (simp (disch := omega) only [w32_i]; omega)), ?_⟩
      refine ⟨fun (c2 : ¬ (G 100 (Int.toNat ((j1 : Nat) : Int))) = 4) => ?_, fun (c2 : (G 100 (Int.toNat ((j1 : Nat) : Int))) = 4) => ?_⟩
      · rw [if_pos c2] at ih1
        refine (show W2 o_X12 M_X12_isLost D (d + 1) Q 3 [some (mR 69), some (mI b), some (mI f), some (mI n), some (mI (w32 (((j1 : Nat) : Int) + 1)))] [] G from ?_)
        rw [w32_nat (by omega)]
        exact ih1
      · rw [if_neg (fun q => q c2)] at ih1
        refine ⟨(show 0 ≤ ((j1 : Nat) : Int) ∧ ((j1 : Nat) : Int) < ((300 : Nat) : Int) from by first | omega | (simp (disch := omega) only [w32_i]; omega)), ?_⟩
        refine ⟨fun (c3 : ¬ (G 101 (Int.toNat ((j1 : Nat) : Int))) = b) => ?_, fun (c3 : (G 101 (Int.toNat ((j1 : Nat) : Int))) = b) => ?_⟩
        · rw [if_pos c3] at ih1
          refine (show W2 o_X12 M_X12_isLost D (d + 1) Q 3 [some (mR 69), some (mI b), some (mI f), some (mI n), some (mI (w32 (((j1 : Nat) : Int) + 1)))] [] G from ?_)
          rw [w32_nat (by omega)]
          exact ih1
        · rw [if_neg (fun q => q c3)] at ih1
          refine ⟨(show 0 ≤ ((j1 : Nat) : Int) ∧ ((j1 : Nat) : Int) < ((300 : Nat) : Int) from by first | omega | (simp (disch := omega) only [w32_i]; omega)), ?_⟩
          refine ⟨fun (c4 : f < (G 102 (Int.toNat ((j1 : Nat) : Int)))) => ?_, fun (c4 : (G 102 (Int.toNat ((j1 : Nat) : Int))) ≤ f) => ?_⟩
          · rw [if_pos c4] at ih1
            refine (show W2 o_X12 M_X12_isLost D (d + 1) Q 3 [some (mR 69), some (mI b), some (mI f), some (mI n), some (mI (w32 (((j1 : Nat) : Int) + 1)))] [] G from ?_)
            rw [w32_nat (by omega)]
            exact ih1
          · rw [if_neg (Int.not_lt.mpr c4)] at ih1
            exact ⟨by omega, ih1⟩
  · intro hI1
    generalize (fe (g_X12_isLost_3 G b f n) () (Int.toNat n)) = z at h hI1 ⊢
    cases z with
    | inr r => exact h
    | inl s1 =>
      have h : Q (some (mI 0)) G := h
      refine (show W2 o_X12 M_X12_isLost D (d + 1) Q 3 [some (mR 69), some (mI b), some (mI f), some (mI n), some (mI (((Int.toNat n) : Nat) : Int))] [] G from ?_)
      refine w2_vc [3] 400 oo_X12 q_X12_isLost ?_
      refine ⟨fun (c5 : n ≤ (((Int.toNat n) : Nat) : Int)) => ?_, fun (c5 : (((Int.toNat n) : Nat) : Int) < n) => ?_⟩
      · skip
        exact ⟨by omega, h⟩
      · skip
        exfalso; first | omega | (rw [w32_i (by omega) (by omega)] at c5; omega) | (simp (disch := omega) only [w32_i] at *; omega)
def g_X12_shownOn_9 (G : mG) (b : Int) (f : Int) (dy : Int) (n : Int) : Nat → (Int × Int) → (Int × Int) := fun j1 s1 => (if (G 100 (Int.toNat ((j1 : Nat) : Int))) = 4 then (s1.1, s1.2) else (if ¬ (G 101 (Int.toNat ((j1 : Nat) : Int))) = b then (s1.1, s1.2) else (if ¬ (G 102 (Int.toNat ((j1 : Nat) : Int))) = f then (s1.1, s1.2) else (if (G 103 (Int.toNat ((j1 : Nat) : Int))) ≤ dy then (if ¬ (G 100 (Int.toNat ((j1 : Nat) : Int))) = 0 then (if s1.1 = (-1) then (((j1 : Nat) : Int), s1.2) else (if (G 103 (Int.toNat ((j1 : Nat) : Int))) < (G 103 (Int.toNat s1.1)) then (s1.1, s1.2) else (((j1 : Nat) : Int), s1.2))) else (s1.1, 1)) else (s1.1, s1.2)))))
def f_X12_shownOn (G : mG) (b : Int) (f : Int) (dy : Int) (n : Int) : Int := (if ¬ (fd (g_X12_shownOn_9 G b f dy n) ((-1), 0) (Int.toNat n)).1 = (-1) then (if ¬ (G 100 (Int.toNat (fd (g_X12_shownOn_9 G b f dy n) ((-1), 0) (Int.toNat n)).1)) = 1 then 0 else 1) else (if (fd (g_X12_shownOn_9 G b f dy n) ((-1), 0) (Int.toNat n)).2 = 0 then 0 else 2))
theorem shn_s (G : mG) (b f dy n : Int) (j : Nat) (s : Int × Int) (hI : s.1 = -1 ∨ (0 ≤ s.1 ∧ s.1 < ((j : Nat) : Int))) : (g_X12_shownOn_9 G b f dy n j s).1 = -1 ∨ (0 ≤ (g_X12_shownOn_9 G b f dy n j s).1 ∧ (g_X12_shownOn_9 G b f dy n j s).1 < ((j + 1 : Nat) : Int)) := by
  generalize hz : g_X12_shownOn_9 G b f dy n j s = z
  unfold g_X12_shownOn_9 at hz
  revert hz
  repeat' with_reducible apply ite_s
  all_goals (intro hz; subst hz; (try dsimp only); omega)
set_option maxHeartbeats 8000000 in
theorem sp_X12_shownOn {D : Nat → Bool} {d : Nat} {G : mG} {b : Int} {f : Int} {dy : Int} {n : Int} {Q : Option mV → mG → Prop} (hk : 0 ≤ n ∧ n ≤ 300) (h : Q (some (mI (f_X12_shownOn G b f dy n))) G) : P2 D (d + 1) M_X12_shownOn [mR 69, mI b, mI f, mI dy, mI n] G Q := by
  unfold f_X12_shownOn at h
  refine p2_vc [9] 400 oo_X12 q_X12_shownOn (by decide) rfl (Nat.le_of_ble_eq_true rfl) ?_
  refine (show W2 o_X12 M_X12_shownOn D (d + 1) Q 9 [some (mR 69), some (mI b), some (mI f), some (mI dy), some (mI n), some (mI (-1)), some (mI 0), some (mI ((0 : Nat) : Int))] [] G from ?_)
  refine lupI (g_X12_shownOn_9 G b f dy n) ((-1), 0) (fun j1 s1 => W2 o_X12 M_X12_shownOn D (d + 1) Q 9 [some (mR 69), some (mI b), some (mI f), some (mI dy), some (mI n), some (mI s1.1), some (mI s1.2), some (mI ((j1 : Nat) : Int))] [] G) (fun j s => s.1 = -1 ∨ (0 ≤ s.1 ∧ s.1 < ((j : Nat) : Int))) (Int.toNat n) ⟨Or.inl rfl, fun j s _ hI => shn_s G b f dy n j s hI⟩ (fun j1 s1 hj1 hI1 ih1 => ?_) (fun hI1 => ?_)
  · have ih1 : W2 o_X12 M_X12_shownOn D (d + 1) Q 9 [some (mR 69), some (mI b), some (mI f), some (mI dy), some (mI n), some (mI (g_X12_shownOn_9 G b f dy n j1 s1).1), some (mI (g_X12_shownOn_9 G b f dy n j1 s1).2), some (mI ((j1 + 1 : Nat) : Int))] [] G := ih1
    unfold g_X12_shownOn_9 at ih1
    have hI1 := hI1
    refine w2_vc [9] 400 oo_X12 q_X12_shownOn ?_
    refine ⟨fun (c1 : n ≤ ((j1 : Nat) : Int)) => ?_, fun (c1 : ((j1 : Nat) : Int) < n) => ?_⟩
    · skip
      exfalso; first | omega | (rw [w32_i (by omega) (by omega)] at c1; omega) | (simp (disch := omega) only [w32_i] at *; omega)
    · skip
      refine ⟨(show 0 ≤ ((j1 : Nat) : Int) ∧ ((j1 : Nat) : Int) < ((300 : Nat) : Int) from by first | omega | (simp (disch := omega) only [w32_i]; omega)), ?_⟩
      refine ⟨fun (c2 : (G 100 (Int.toNat ((j1 : Nat) : Int))) = 4) => ?_, fun (c2 : ¬ (G 100 (Int.toNat ((j1 : Nat) : Int))) = 4) => ?_⟩
      · rw [if_pos c2] at ih1
        refine (show W2 o_X12 M_X12_shownOn D (d + 1) Q 9 [some (mR 69), some (mI b), some (mI f), some (mI dy), some (mI n), some (mI s1.1), some (mI s1.2), some (mI (w32 (((j1 : Nat) : Int) + 1)))] [] G from ?_)
        rw [w32_nat (by omega)]
        exact ih1
      · rw [if_neg (c2)] at ih1
        refine ⟨(show 0 ≤ ((j1 : Nat) : Int) ∧ ((j1 : Nat) : Int) < ((300 : Nat) : Int) from by first | omega | (simp (disch := omega) only [w32_i]; omega)), ?_⟩
        refine ⟨fun (c3 : ¬ (G 101 (Int.toNat ((j1 : Nat) : Int))) = b) => ?_, fun (c3 : (G 101 (Int.toNat ((j1 : Nat) : Int))) = b) => ?_⟩
        · rw [if_pos c3] at ih1
          refine (show W2 o_X12 M_X12_shownOn D (d + 1) Q 9 [some (mR 69), some (mI b), some (mI f), some (mI dy), some (mI n), some (mI s1.1), some (mI s1.2), some (mI (w32 (((j1 : Nat) : Int) + 1)))] [] G from ?_)
          rw [w32_nat (by omega)]
          exact ih1
        · rw [if_neg (fun q => q c3)] at ih1
          refine ⟨(show 0 ≤ ((j1 : Nat) : Int) ∧ ((j1 : Nat) : Int) < ((300 : Nat) : Int) from by first | omega | (simp (disch := omega) only [w32_i]; omega)), ?_⟩
          refine ⟨fun (c4 : ¬ (G 102 (Int.toNat ((j1 : Nat) : Int))) = f) => ?_, fun (c4 : (G 102 (Int.toNat ((j1 : Nat) : Int))) = f) => ?_⟩
          · rw [if_pos c4] at ih1
            refine (show W2 o_X12 M_X12_shownOn D (d + 1) Q 9 [some (mR 69), some (mI b), some (mI f), some (mI dy), some (mI n), some (mI s1.1), some (mI s1.2), some (mI (w32 (((j1 : Nat) : Int) + 1)))] [] G from ?_)
            rw [w32_nat (by omega)]
            exact ih1
          · rw [if_neg (fun q => q c4)] at ih1
            refine ⟨(show 0 ≤ ((j1 : Nat) : Int) ∧ ((j1 : Nat) : Int) < ((300 : Nat) : Int) from by first | omega | (simp (disch := omega) only [w32_i]; omega)), ?_⟩
            refine ⟨fun (c5 : (G 103 (Int.toNat ((j1 : Nat) : Int))) ≤ dy) => ?_, fun (c5 : dy < (G 103 (Int.toNat ((j1 : Nat) : Int)))) => ?_⟩
            · rw [if_pos c5] at ih1
              refine ⟨(show 0 ≤ ((j1 : Nat) : Int) ∧ ((j1 : Nat) : Int) < ((300 : Nat) : Int) from by first | omega | (simp (disch := omega) only [w32_i]; omega)), ?_⟩
              refine ⟨fun (c6 : ¬ (G 100 (Int.toNat ((j1 : Nat) : Int))) = 0) => ?_, fun (c6 : (G 100 (Int.toNat ((j1 : Nat) : Int))) = 0) => ?_⟩
              · rw [if_pos c6] at ih1
                refine ⟨fun (c7 : s1.1 = (-1)) => ?_, fun (c7 : ¬ s1.1 = (-1)) => ?_⟩
                · rw [if_pos c7] at ih1
                  refine (show W2 o_X12 M_X12_shownOn D (d + 1) Q 9 [some (mR 69), some (mI b), some (mI f), some (mI dy), some (mI n), some (mI ((j1 : Nat) : Int)), some (mI s1.2), some (mI (w32 (((j1 : Nat) : Int) + 1)))] [] G from ?_)
                  rw [w32_nat (by omega)]
                  exact ih1
                · rw [if_neg (c7)] at ih1
                  refine ⟨(show 0 ≤ ((j1 : Nat) : Int) ∧ ((j1 : Nat) : Int) < ((300 : Nat) : Int) from by first | omega | (simp (disch := omega) only [w32_i]; omega)), ?_⟩
                  refine ⟨(show 0 ≤ s1.1 ∧ s1.1 < ((300 : Nat) : Int) from by first | omega | (simp (disch := omega) only [w32_i]; omega)), ?_⟩
                  refine ⟨fun (c8 : (G 103 (Int.toNat ((j1 : Nat) : Int))) < (G 103 (Int.toNat s1.1))) => ?_, fun (c8 : (G 103 (Int.toNat s1.1)) ≤ (G 103 (Int.toNat ((j1 : Nat) : Int)))) => ?_⟩
                  · rw [if_pos c8] at ih1
                    refine (show W2 o_X12 M_X12_shownOn D (d + 1) Q 9 [some (mR 69), some (mI b), some (mI f), some (mI dy), some (mI n), some (mI s1.1), some (mI s1.2), some (mI (w32 (((j1 : Nat) : Int) + 1)))] [] G from ?_)
                    rw [w32_nat (by omega)]
                    exact ih1
                  · rw [if_neg (Int.not_lt.mpr c8)] at ih1
                    refine (show W2 o_X12 M_X12_shownOn D (d + 1) Q 9 [some (mR 69), some (mI b), some (mI f), some (mI dy), some (mI n), some (mI ((j1 : Nat) : Int)), some (mI s1.2), some (mI (w32 (((j1 : Nat) : Int) + 1)))] [] G from ?_)
                    rw [w32_nat (by omega)]
                    exact ih1
              · rw [if_neg (fun q => q c6)] at ih1
                refine (show W2 o_X12 M_X12_shownOn D (d + 1) Q 9 [some (mR 69), some (mI b), some (mI f), some (mI dy), some (mI n), some (mI s1.1), some (mI 1), some (mI (w32 (((j1 : Nat) : Int) + 1)))] [] G from ?_)
                rw [w32_nat (by omega)]
                exact ih1
            · rw [if_neg (Int.not_le.mpr c5)] at ih1
              refine (show W2 o_X12 M_X12_shownOn D (d + 1) Q 9 [some (mR 69), some (mI b), some (mI f), some (mI dy), some (mI n), some (mI s1.1), some (mI s1.2), some (mI (w32 (((j1 : Nat) : Int) + 1)))] [] G from ?_)
              rw [w32_nat (by omega)]
              exact ih1
  · skip
    refine (show W2 o_X12 M_X12_shownOn D (d + 1) Q 9 [some (mR 69), some (mI b), some (mI f), some (mI dy), some (mI n), some (mI (fd (g_X12_shownOn_9 G b f dy n) ((-1), 0) (Int.toNat n)).1), some (mI (fd (g_X12_shownOn_9 G b f dy n) ((-1), 0) (Int.toNat n)).2), some (mI (((Int.toNat n) : Nat) : Int))] [] G from ?_)
    have hI1 := hI1
    refine w2_vc [9] 400 oo_X12 q_X12_shownOn ?_
    refine ⟨fun (c9 : n ≤ (((Int.toNat n) : Nat) : Int)) => ?_, fun (c9 : (((Int.toNat n) : Nat) : Int) < n) => ?_⟩
    · skip
      refine ⟨fun (c10 : ¬ (fd (g_X12_shownOn_9 G b f dy n) ((-1), 0) (Int.toNat n)).1 = (-1)) => ?_, fun (c10 : (fd (g_X12_shownOn_9 G b f dy n) ((-1), 0) (Int.toNat n)).1 = (-1)) => ?_⟩
      · rw [if_pos c10] at h
        refine ⟨(show 0 ≤ (fd (g_X12_shownOn_9 G b f dy n) ((-1), 0) (Int.toNat n)).1 ∧ (fd (g_X12_shownOn_9 G b f dy n) ((-1), 0) (Int.toNat n)).1 < ((300 : Nat) : Int) from by first | omega | (simp (disch := omega) only [w32_i]; omega)), ?_⟩
        refine ⟨fun (c11 : ¬ (G 100 (Int.toNat (fd (g_X12_shownOn_9 G b f dy n) ((-1), 0) (Int.toNat n)).1)) = 1) => ?_, fun (c11 : (G 100 (Int.toNat (fd (g_X12_shownOn_9 G b f dy n) ((-1), 0) (Int.toNat n)).1)) = 1) => ?_⟩
        · rw [if_pos c11] at h
          exact h
        · rw [if_neg (fun q => q c11)] at h
          exact h
      · rw [if_neg (fun q => q c10)] at h
        refine ⟨fun (c12 : (fd (g_X12_shownOn_9 G b f dy n) ((-1), 0) (Int.toNat n)).2 = 0) => ?_, fun (c12 : ¬ (fd (g_X12_shownOn_9 G b f dy n) ((-1), 0) (Int.toNat n)).2 = 0) => ?_⟩
        · rw [if_pos c12] at h
          exact h
        · rw [if_neg (c12)] at h
          exact h
    · skip
      exfalso; first | omega | (rw [w32_i (by omega) (by omega)] at c12; omega) | (simp (disch := omega) only [w32_i] at *; omega)
def g_X12_days_6 (G : mG) (b : Int) (f : Int) (n : Int) (y : Int) : Nat → Int → Int := fun j1 s1 => (if ¬ (f_X12_shownOn G b f ((j1 : Nat) : Int) n) = y then s1 else (w32 (s1 + 1)))
def f_X12_days (G : mG) (b : Int) (f : Int) (n : Int) (y : Int) : Int := (fd (g_X12_days_6 G b f n y) 0 14)
theorem sp_X12_days {D : Nat → Bool} {d : Nat} {G : mG} {b : Int} {f : Int} {n : Int} {y : Int} {Q : Option mV → mG → Prop} (hk : 0 ≤ n ∧ n ≤ 300) (h : Q (some (mI (f_X12_days G b f n y))) G) : P2 D (d + 2) M_X12_days [mR 69, mI b, mI f, mI n, mI y] G Q := by
  unfold f_X12_days at h
  refine p2_vc [6] 400 oo_X12 q_X12_days (by decide) rfl (Nat.le_of_ble_eq_true rfl) ?_
  refine (show W2 o_X12 M_X12_days D (d + 2) Q 6 [some (mR 69), some (mI b), some (mI f), some (mI n), some (mI y), some (mI 0), some (mI ((0 : Nat) : Int))] [] G from ?_)
  refine lup (g_X12_days_6 G b f n y) 0 (fun j1 s1 => W2 o_X12 M_X12_days D (d + 2) Q 6 [some (mR 69), some (mI b), some (mI f), some (mI n), some (mI y), some (mI s1), some (mI ((j1 : Nat) : Int))] [] G) 14 (fun j1 s1 hj1 ih1 => ?_) ?_
  · have ih1 : W2 o_X12 M_X12_days D (d + 2) Q 6 [some (mR 69), some (mI b), some (mI f), some (mI n), some (mI y), some (mI (g_X12_days_6 G b f n y j1 s1)), some (mI ((j1 + 1 : Nat) : Int))] [] G := ih1
    unfold g_X12_days_6 at ih1
    refine w2_vc [6] 400 oo_X12 q_X12_days ?_
    refine ⟨fun (c1 : 14 ≤ ((j1 : Nat) : Int)) => ?_, fun (c1 : ((j1 : Nat) : Int) < 14) => ?_⟩
    · skip
      exfalso; first | omega | (rw [w32_i (by omega) (by omega)] at c1; omega) | (simp (disch := omega) only [w32_i] at *; omega)
    · skip
      refine sp_X12_shownOn (by omega) ?_
      refine ⟨fun (c3 : ¬ (f_X12_shownOn G b f ((j1 : Nat) : Int) n) = y) => ?_, fun (c3 : (f_X12_shownOn G b f ((j1 : Nat) : Int) n) = y) => ?_⟩
      · rw [if_pos c3] at ih1
        refine (show W2 o_X12 M_X12_days D (d + 2) Q 6 [some (mR 69), some (mI b), some (mI f), some (mI n), some (mI y), some (mI s1), some (mI (w32 (((j1 : Nat) : Int) + 1)))] [] G from ?_)
        rw [w32_nat (by omega)]
        exact ih1
      · rw [if_neg (fun q => q c3)] at ih1
        refine (show W2 o_X12 M_X12_days D (d + 2) Q 6 [some (mR 69), some (mI b), some (mI f), some (mI n), some (mI y), some (mI (w32 (s1 + 1))), some (mI (w32 (((j1 : Nat) : Int) + 1)))] [] G from ?_)
        rw [w32_nat (by omega)]
        exact ih1
  · skip
    refine (show W2 o_X12 M_X12_days D (d + 2) Q 6 [some (mR 69), some (mI b), some (mI f), some (mI n), some (mI y), some (mI (fd (g_X12_days_6 G b f n y) 0 14)), some (mI ((14 : Nat) : Int))] [] G from ?_)
    refine w2_vc [6] 400 oo_X12 q_X12_days ?_
    refine ⟨fun (c4 : 14 ≤ ((14 : Nat) : Int)) => ?_, fun (c4 : ((14 : Nat) : Int) < 14) => ?_⟩
    · skip
      exact h
    · skip
      exfalso; first | omega | (rw [w32_i (by omega) (by omega)] at c4; omega) | (simp (disch := omega) only [w32_i] at *; omega)
