/-! ===== printed by wip/whole/gen29.py: the reference, what is asked of it ===== -/
def g_X12_due_5 (G : mG) (b : Int) (f : Int) : Nat → Int → Int := fun j1 s1 => (if ¬ (G 94 (Int.toNat ((j1 : Nat) : Int))) = (G 94 (Int.toNat b)) then s1 else (if (G 105 (Int.toNat (w32 ((w32 (9 * f)) + ((j1 : Nat) : Int))))) = (-1) then s1 else (w32 (s1 + 1))))
def f_X12_due (G : mG) (b : Int) (f : Int) : Int := (mDiv (fd (g_X12_due_5 G b f) 0 (Int.toNat b)) (G 99 (Int.toNat (G 94 (Int.toNat b)))))
theorem sp_X12_due {D : Nat → Bool} {d : Nat} {G : mG} {b : Int} {f : Int} {Q : Option mV → mG → Prop} (hb : 0 ≤ b ∧ b < 9) (hf : 0 ≤ f ∧ f < 26) (hd : ∀ i, i < 9 → 0 ≤ G 94 i ∧ G 94 i ≤ 5) (hpc : ∀ i, i < 6 → 1 ≤ G 99 i) (h : Q (some (mI (f_X12_due G b f))) G) : P2 D (d + 1) M_X12_due [mR 69, mI b, mI f] G Q := by
  unfold f_X12_due at h
  refine p2_vc [5] 400 oo_X12 q_X12_due (by decide) rfl (Nat.le_of_ble_eq_true rfl) ?_
  refine (show W2 o_X12 M_X12_due D (d + 1) Q 5 [some (mR 69), some (mI b), some (mI f), some (mI 0), some (mI ((0 : Nat) : Int))] [] G from ?_)
  refine lup (g_X12_due_5 G b f) 0 (fun j1 s1 => W2 o_X12 M_X12_due D (d + 1) Q 5 [some (mR 69), some (mI b), some (mI f), some (mI s1), some (mI ((j1 : Nat) : Int))] [] G) (Int.toNat b) (fun j1 s1 hj1 ih1 => ?_) ?_
  · have ih1 : W2 o_X12 M_X12_due D (d + 1) Q 5 [some (mR 69), some (mI b), some (mI f), some (mI (g_X12_due_5 G b f j1 s1)), some (mI ((j1 + 1 : Nat) : Int))] [] G := ih1
    unfold g_X12_due_5 at ih1
    refine w2_vc [5] 400 oo_X12 q_X12_due ?_
    refine ⟨fun (c1 : b ≤ ((j1 : Nat) : Int)) => ?_, fun (c1 : ((j1 : Nat) : Int) < b) => ?_⟩
    · skip
      exfalso; first | omega | (rw [w32_i (by omega) (by omega)] at c1; omega) | (simp (disch := omega) only [w32_i] at *; omega)
    · skip
      refine ⟨(show 0 ≤ ((j1 : Nat) : Int) ∧ ((j1 : Nat) : Int) < ((9 : Nat) : Int) from by first | omega | (simp (disch := omega) only [w32_i]; omega)), ?_⟩
      have c2 := hd (Int.toNat ((j1 : Nat) : Int)) (by first | omega | (simp (disch := omega) only [w32_i]; omega))
      refine ⟨(show 0 ≤ b ∧ b < ((9 : Nat) : Int) from by first | omega | (simp (disch := omega) only [w32_i]; omega)), ?_⟩
      have c3 := hd (Int.toNat b) (by first | omega | (simp (disch := omega) only [w32_i]; omega))
      refine ⟨fun (c4 : ¬ (G 94 (Int.toNat ((j1 : Nat) : Int))) = (G 94 (Int.toNat b))) => ?_, fun (c4 : (G 94 (Int.toNat ((j1 : Nat) : Int))) = (G 94 (Int.toNat b))) => ?_⟩
      · rw [if_pos c4] at ih1
        refine (show W2 o_X12 M_X12_due D (d + 1) Q 5 [some (mR 69), some (mI b), some (mI f), some (mI s1), some (mI (w32 (((j1 : Nat) : Int) + 1)))] [] G from ?_)
        rw [w32_nat (by omega)]
        exact ih1
      · rw [if_neg (fun q => q c4)] at ih1
        refine ⟨(show 0 ≤ (w32 ((w32 (9 * f)) + ((j1 : Nat) : Int))) ∧ (w32 ((w32 (9 * f)) + ((j1 : Nat) : Int))) < ((234 : Nat) : Int) from by first | omega | (rw [show (w32 ((w32 (9 * f)) + ((j1 : Nat) : Int))) = (9 * f) + ((j1 : Nat) : Int) from by rw [w32_i (x := (9 * f)) (by omega) (by omega), w32_i (x := (9 * f) + ((j1 : Nat) : Int)) (by omega) (by omega)]]; omega) | (simp (disch := omega) only [w32_i]; omega)), ?_⟩
        refine ⟨fun (c5 : (G 105 (Int.toNat (w32 ((w32 (9 * f)) + ((j1 : Nat) : Int))))) = (-1)) => ?_, fun (c5 : ¬ (G 105 (Int.toNat (w32 ((w32 (9 * f)) + ((j1 : Nat) : Int))))) = (-1)) => ?_⟩
        · rw [if_pos c5] at ih1
          refine (show W2 o_X12 M_X12_due D (d + 1) Q 5 [some (mR 69), some (mI b), some (mI f), some (mI s1), some (mI (w32 (((j1 : Nat) : Int) + 1)))] [] G from ?_)
          rw [w32_nat (by omega)]
          exact ih1
        · rw [if_neg (c5)] at ih1
          refine (show W2 o_X12 M_X12_due D (d + 1) Q 5 [some (mR 69), some (mI b), some (mI f), some (mI (w32 (s1 + 1))), some (mI (w32 (((j1 : Nat) : Int) + 1)))] [] G from ?_)
          rw [w32_nat (by omega)]
          exact ih1
  · skip
    refine (show W2 o_X12 M_X12_due D (d + 1) Q 5 [some (mR 69), some (mI b), some (mI f), some (mI (fd (g_X12_due_5 G b f) 0 (Int.toNat b))), some (mI (((Int.toNat b) : Nat) : Int))] [] G from ?_)
    refine w2_vc [5] 400 oo_X12 q_X12_due ?_
    refine ⟨fun (c6 : b ≤ (((Int.toNat b) : Nat) : Int)) => ?_, fun (c6 : (((Int.toNat b) : Nat) : Int) < b) => ?_⟩
    · skip
      refine ⟨(show 0 ≤ b ∧ b < ((9 : Nat) : Int) from by first | omega | (simp (disch := omega) only [w32_i]; omega)), ?_⟩
      have c7 := hd (Int.toNat b) (by first | omega | (simp (disch := omega) only [w32_i]; omega))
      refine ⟨(show 0 ≤ (G 94 (Int.toNat b)) ∧ (G 94 (Int.toNat b)) < ((6 : Nat) : Int) from by first | omega | (simp (disch := omega) only [w32_i]; omega)), ?_⟩
      have c8 := hpc (Int.toNat (G 94 (Int.toNat b))) (by first | omega | (simp (disch := omega) only [w32_i]; omega))
      refine ⟨(show ¬ (G 99 (Int.toNat (G 94 (Int.toNat b)))) = 0 from by omega), ?_⟩
      exact h
    · skip
      exfalso; first | omega | (rw [w32_i (by omega) (by omega)] at c8; omega) | (simp (disch := omega) only [w32_i] at *; omega)
def g_X12_late_33 (G : mG) (b : Int) (f : Int) (n : Int) : Nat → Int → Int := fun j1 s1 => (if ¬ (G 100 (Int.toNat ((j1 : Nat) : Int))) = 0 then s1 else (if ¬ (G 101 (Int.toNat ((j1 : Nat) : Int))) = b then s1 else (if ¬ (G 102 (Int.toNat ((j1 : Nat) : Int))) = f then s1 else (if s1 ≤ (G 103 (Int.toNat ((j1 : Nat) : Int))) then s1 else (G 103 (Int.toNat ((j1 : Nat) : Int)))))))
def f_X12_late (G : mG) (b : Int) (f : Int) (n : Int) : Int := (if (G 104 (Int.toNat f)) = 0 then 0 else (if ¬ (G 105 (Int.toNat (w32 ((w32 (9 * f)) + b)))) = (-1) then (if (w32 ((fd (g_X12_late_33 G b f n) 14 (Int.toNat n)) - (f_X12_due G b f))) ≤ 0 then 0 else (w32 ((fd (g_X12_late_33 G b f n) 14 (Int.toNat n)) - (f_X12_due G b f)))) else 0))
set_option maxHeartbeats 8000000 in
theorem sp_X12_late {D : Nat → Bool} {d : Nat} {G : mG} {b : Int} {f : Int} {n : Int} {Q : Option mV → mG → Prop} (hb : 0 ≤ b ∧ b < 9) (hf : 0 ≤ f ∧ f < 26) (hd : ∀ i, i < 9 → 0 ≤ G 94 i ∧ G 94 i ≤ 5) (hpc : ∀ i, i < 6 → 1 ≤ G 99 i) (hk : 0 ≤ n ∧ n ≤ 300) (h : Q (some (mI (f_X12_late G b f n))) G) : P2 D (d + 2) M_X12_late [mR 69, mI b, mI f, mI n] G Q := by
  unfold f_X12_late at h
  refine p2_vc [33] 400 oo_X12 q_X12_late (by decide) rfl (Nat.le_of_ble_eq_true rfl) ?_
  refine ⟨(show 0 ≤ f ∧ f < ((26 : Nat) : Int) from by first | omega | (simp (disch := omega) only [w32_i]; omega)), ?_⟩
  refine ⟨fun (c1 : (G 104 (Int.toNat f)) = 0) => ?_, fun (c1 : ¬ (G 104 (Int.toNat f)) = 0) => ?_⟩
  · rw [if_pos c1] at h
    exact h
  · rw [if_neg (c1)] at h
    refine ⟨(show 0 ≤ (w32 ((w32 (9 * f)) + b)) ∧ (w32 ((w32 (9 * f)) + b)) < ((234 : Nat) : Int) from by first | omega | (rw [show (w32 ((w32 (9 * f)) + b)) = (9 * f) + b from by rw [w32_i (x := (9 * f)) (by omega) (by omega), w32_i (x := (9 * f) + b) (by omega) (by omega)]]; omega) | (simp (disch := omega) only [w32_i]; omega)), ?_⟩
    refine ⟨fun (c2 : ¬ (G 105 (Int.toNat (w32 ((w32 (9 * f)) + b)))) = (-1)) => ?_, fun (c2 : (G 105 (Int.toNat (w32 ((w32 (9 * f)) + b)))) = (-1)) => ?_⟩
    · rw [if_pos c2] at h
      refine (show W2 o_X12 M_X12_late D (d + 2) Q 33 [some (mR 69), some (mI b), some (mI f), some (mI n), some (mI 14), some (mI ((0 : Nat) : Int))] [] G from ?_)
      refine lup (g_X12_late_33 G b f n) 14 (fun j1 s1 => W2 o_X12 M_X12_late D (d + 2) Q 33 [some (mR 69), some (mI b), some (mI f), some (mI n), some (mI s1), some (mI ((j1 : Nat) : Int))] [] G) (Int.toNat n) (fun j1 s1 hj1 ih1 => ?_) ?_
      · have ih1 : W2 o_X12 M_X12_late D (d + 2) Q 33 [some (mR 69), some (mI b), some (mI f), some (mI n), some (mI (g_X12_late_33 G b f n j1 s1)), some (mI ((j1 + 1 : Nat) : Int))] [] G := ih1
        unfold g_X12_late_33 at ih1
        refine w2_vc [33] 400 oo_X12 q_X12_late ?_
        refine ⟨fun (c3 : n ≤ ((j1 : Nat) : Int)) => ?_, fun (c3 : ((j1 : Nat) : Int) < n) => ?_⟩
        · skip
          exfalso; first | omega | (rw [w32_i (by omega) (by omega)] at c3; omega) | (simp (disch := omega) only [w32_i] at *; omega)
        · skip
          refine ⟨(show 0 ≤ ((j1 : Nat) : Int) ∧ ((j1 : Nat) : Int) < ((300 : Nat) : Int) from by first | omega | (simp (disch := omega) only [w32_i]; omega)), ?_⟩
          refine ⟨fun (c4 : ¬ (G 100 (Int.toNat ((j1 : Nat) : Int))) = 0) => ?_, fun (c4 : (G 100 (Int.toNat ((j1 : Nat) : Int))) = 0) => ?_⟩
          · rw [if_pos c4] at ih1
            refine (show W2 o_X12 M_X12_late D (d + 2) Q 33 [some (mR 69), some (mI b), some (mI f), some (mI n), some (mI s1), some (mI (w32 (((j1 : Nat) : Int) + 1)))] [] G from ?_)
            rw [w32_nat (by omega)]
            exact ih1
          · rw [if_neg (fun q => q c4)] at ih1
            refine ⟨(show 0 ≤ ((j1 : Nat) : Int) ∧ ((j1 : Nat) : Int) < ((300 : Nat) : Int) from by first | omega | (simp (disch := omega) only [w32_i]; omega)), ?_⟩
            refine ⟨fun (c5 : ¬ (G 101 (Int.toNat ((j1 : Nat) : Int))) = b) => ?_, fun (c5 : (G 101 (Int.toNat ((j1 : Nat) : Int))) = b) => ?_⟩
            · rw [if_pos c5] at ih1
              refine (show W2 o_X12 M_X12_late D (d + 2) Q 33 [some (mR 69), some (mI b), some (mI f), some (mI n), some (mI s1), some (mI (w32 (((j1 : Nat) : Int) + 1)))] [] G from ?_)
              rw [w32_nat (by omega)]
              exact ih1
            · rw [if_neg (fun q => q c5)] at ih1
              refine ⟨(show 0 ≤ ((j1 : Nat) : Int) ∧ ((j1 : Nat) : Int) < ((300 : Nat) : Int) from by first | omega | (simp (disch := omega) only [w32_i]; omega)), ?_⟩
              refine ⟨fun (c6 : ¬ (G 102 (Int.toNat ((j1 : Nat) : Int))) = f) => ?_, fun (c6 : (G 102 (Int.toNat ((j1 : Nat) : Int))) = f) => ?_⟩
              · rw [if_pos c6] at ih1
                refine (show W2 o_X12 M_X12_late D (d + 2) Q 33 [some (mR 69), some (mI b), some (mI f), some (mI n), some (mI s1), some (mI (w32 (((j1 : Nat) : Int) + 1)))] [] G from ?_)
                rw [w32_nat (by omega)]
                exact ih1
              · rw [if_neg (fun q => q c6)] at ih1
                refine ⟨(show 0 ≤ ((j1 : Nat) : Int) ∧ ((j1 : Nat) : Int) < ((300 : Nat) : Int) from by first | omega | (simp (disch := omega) only [w32_i]; omega)), ?_⟩
                refine ⟨fun (c7 : s1 ≤ (G 103 (Int.toNat ((j1 : Nat) : Int)))) => ?_, fun (c7 : (G 103 (Int.toNat ((j1 : Nat) : Int))) < s1) => ?_⟩
                · rw [if_pos c7] at ih1
                  refine (show W2 o_X12 M_X12_late D (d + 2) Q 33 [some (mR 69), some (mI b), some (mI f), some (mI n), some (mI s1), some (mI (w32 (((j1 : Nat) : Int) + 1)))] [] G from ?_)
                  rw [w32_nat (by omega)]
                  exact ih1
                · rw [if_neg (Int.not_le.mpr c7)] at ih1
                  refine ⟨(show 0 ≤ ((j1 : Nat) : Int) ∧ ((j1 : Nat) : Int) < ((300 : Nat) : Int) from by first | omega | (simp (disch := omega) only [w32_i]; omega)), ?_⟩
                  refine (show W2 o_X12 M_X12_late D (d + 2) Q 33 [some (mR 69), some (mI b), some (mI f), some (mI n), some (mI (G 103 (Int.toNat ((j1 : Nat) : Int)))), some (mI (w32 (((j1 : Nat) : Int) + 1)))] [] G from ?_)
                  rw [w32_nat (by omega)]
                  exact ih1
      · skip
        refine (show W2 o_X12 M_X12_late D (d + 2) Q 33 [some (mR 69), some (mI b), some (mI f), some (mI n), some (mI (fd (g_X12_late_33 G b f n) 14 (Int.toNat n))), some (mI (((Int.toNat n) : Nat) : Int))] [] G from ?_)
        refine w2_vc [33] 400 oo_X12 q_X12_late ?_
        refine ⟨fun (c8 : n ≤ (((Int.toNat n) : Nat) : Int)) => ?_, fun (c8 : (((Int.toNat n) : Nat) : Int) < n) => ?_⟩
        · skip
          refine sp_X12_due (by omega) (by omega) (hd) (hpc) ?_
          refine ⟨fun (c10 : (w32 ((fd (g_X12_late_33 G b f n) 14 (Int.toNat n)) - (f_X12_due G b f))) ≤ 0) => ?_, fun (c10 : 0 < (w32 ((fd (g_X12_late_33 G b f n) 14 (Int.toNat n)) - (f_X12_due G b f)))) => ?_⟩
          · rw [if_pos c10] at h
            exact h
          · rw [if_neg (Int.not_le.mpr c10)] at h
            exact h
        · skip
          exfalso; first | omega | (rw [w32_i (by omega) (by omega)] at c10; omega) | (simp (disch := omega) only [w32_i] at *; omega)
    · rw [if_neg (fun q => q c2)] at h
      exact h
def e_X12_asksBoard (G : mG) (b : Int) : mG := (gs (gs (gs (gs (gs (gs G 106 (Int.toNat 0) (G 94 (Int.toNat b))) 106 (Int.toNat 1) (G 95 (Int.toNat b))) 106 (Int.toNat 2) (G 96 (Int.toNat b))) 106 (Int.toNat 3) 0) 106 (Int.toNat 4) 0) 106 (Int.toNat 5) 0)
theorem fr_X12_asksBoard {G : mG} {b : Int} {k : Nat} (hk : ∀ a ∈ ([106] : List Nat), k ≠ a) : (e_X12_asksBoard G b) k = G k := by
  unfold e_X12_asksBoard
  repeat' with_reducible first | apply ite_f | apply ite_f2 | apply ite_p | apply ite_p2
  all_goals first | (simp only [gs_ne (hk (106) (by simp))]; done) | rfl
theorem sp_X12_asksBoard {D : Nat → Bool} {d : Nat} {G : mG} {b : Int} {Q : Option mV → mG → Prop} (hb : 0 ≤ b ∧ b < 9) (hD : ∀ k, D k = false → inN [106] k = false) (h : Q none (e_X12_asksBoard G b)) : P2 D (d + 1) M_X12_asksBoard [mR 69, mI b] G Q := by
  unfold e_X12_asksBoard at h
  refine MP.to (D2 := inN [106]) (Q2 := Q) ?_ hD (fun v G' q _ => q)
  refine p2_vc [12, 23, 24, 35, 36, 43, 50, 57] 400 oo_X12 q_X12_asksBoard (by decide) rfl (Nat.le_of_ble_eq_true rfl) ?_
  refine ⟨(show 0 ≤ b ∧ b < ((9 : Nat) : Int) from by first | omega | (simp (disch := omega) only [w32_i]; omega)), ?_⟩
  refine ⟨(show 0 ≤ 0 ∧ 0 < ((6 : Nat) : Int) from by first | omega | (simp (disch := omega) only [w32_i]; omega)), ?_⟩
  refine (show W2 o_X12 M_X12_asksBoard (inN [106]) (d + 1) Q 12 [some (mR 69), some (mI b)] [] (gs G 106 (Int.toNat 0) (G 94 (Int.toNat b))) from ?_)
  refine w2_vc [12, 23, 24, 35, 36, 43, 50, 57] 400 oo_X12 q_X12_asksBoard ?_
  refine ⟨(show 0 ≤ b ∧ b < ((9 : Nat) : Int) from by first | omega | (simp (disch := omega) only [w32_i]; omega)), ?_⟩
  refine (show W2 o_X12 M_X12_asksBoard (inN [106]) (d + 1) Q 23 [some (mR 69), some (mI b)] [mI (G 95 (Int.toNat b)), mI 1, mR 111] (gs G 106 (Int.toNat 0) (G 94 (Int.toNat b))) from ?_)
  refine w2_vc [12, 23, 24, 35, 36, 43, 50, 57] 400 oo_X12 q_X12_asksBoard ?_
  refine ⟨(show 0 ≤ 1 ∧ 1 < ((6 : Nat) : Int) from by first | omega | (simp (disch := omega) only [w32_i]; omega)), ?_⟩
  refine (show W2 o_X12 M_X12_asksBoard (inN [106]) (d + 1) Q 24 [some (mR 69), some (mI b)] [] (gs (gs G 106 (Int.toNat 0) (G 94 (Int.toNat b))) 106 (Int.toNat 1) (G 95 (Int.toNat b))) from ?_)
  refine w2_vc [12, 23, 24, 35, 36, 43, 50, 57] 400 oo_X12 q_X12_asksBoard ?_
  refine ⟨(show 0 ≤ b ∧ b < ((9 : Nat) : Int) from by first | omega | (simp (disch := omega) only [w32_i]; omega)), ?_⟩
  refine (show W2 o_X12 M_X12_asksBoard (inN [106]) (d + 1) Q 35 [some (mR 69), some (mI b)] [mI (G 96 (Int.toNat b)), mI 2, mR 111] (gs (gs G 106 (Int.toNat 0) (G 94 (Int.toNat b))) 106 (Int.toNat 1) (G 95 (Int.toNat b))) from ?_)
  refine w2_vc [12, 23, 24, 35, 36, 43, 50, 57] 400 oo_X12 q_X12_asksBoard ?_
  refine ⟨(show 0 ≤ 2 ∧ 2 < ((6 : Nat) : Int) from by first | omega | (simp (disch := omega) only [w32_i]; omega)), ?_⟩
  refine (show W2 o_X12 M_X12_asksBoard (inN [106]) (d + 1) Q 36 [some (mR 69), some (mI b)] [] (gs (gs (gs G 106 (Int.toNat 0) (G 94 (Int.toNat b))) 106 (Int.toNat 1) (G 95 (Int.toNat b))) 106 (Int.toNat 2) (G 96 (Int.toNat b))) from ?_)
  refine w2_vc [12, 23, 24, 35, 36, 43, 50, 57] 400 oo_X12 q_X12_asksBoard ?_
  refine ⟨(show 0 ≤ 3 ∧ 3 < ((6 : Nat) : Int) from by first | omega | (simp (disch := omega) only [w32_i]; omega)), ?_⟩
  refine (show W2 o_X12 M_X12_asksBoard (inN [106]) (d + 1) Q 43 [some (mR 69), some (mI b)] [] (gs (gs (gs (gs G 106 (Int.toNat 0) (G 94 (Int.toNat b))) 106 (Int.toNat 1) (G 95 (Int.toNat b))) 106 (Int.toNat 2) (G 96 (Int.toNat b))) 106 (Int.toNat 3) 0) from ?_)
  refine w2_vc [12, 23, 24, 35, 36, 43, 50, 57] 400 oo_X12 q_X12_asksBoard ?_
  refine ⟨(show 0 ≤ 4 ∧ 4 < ((6 : Nat) : Int) from by first | omega | (simp (disch := omega) only [w32_i]; omega)), ?_⟩
  refine (show W2 o_X12 M_X12_asksBoard (inN [106]) (d + 1) Q 50 [some (mR 69), some (mI b)] [] (gs (gs (gs (gs (gs G 106 (Int.toNat 0) (G 94 (Int.toNat b))) 106 (Int.toNat 1) (G 95 (Int.toNat b))) 106 (Int.toNat 2) (G 96 (Int.toNat b))) 106 (Int.toNat 3) 0) 106 (Int.toNat 4) 0) from ?_)
  refine w2_vc [12, 23, 24, 35, 36, 43, 50, 57] 400 oo_X12 q_X12_asksBoard ?_
  refine ⟨(show 0 ≤ 5 ∧ 5 < ((6 : Nat) : Int) from by first | omega | (simp (disch := omega) only [w32_i]; omega)), ?_⟩
  refine (show W2 o_X12 M_X12_asksBoard (inN [106]) (d + 1) Q 57 [some (mR 69), some (mI b)] [] (gs (gs (gs (gs (gs (gs G 106 (Int.toNat 0) (G 94 (Int.toNat b))) 106 (Int.toNat 1) (G 95 (Int.toNat b))) 106 (Int.toNat 2) (G 96 (Int.toNat b))) 106 (Int.toNat 3) 0) 106 (Int.toNat 4) 0) 106 (Int.toNat 5) 0) from ?_)
  refine w2_vc [12, 23, 24, 35, 36, 43, 50, 57] 400 oo_X12 q_X12_asksBoard ?_
  exact h
def f_X12_isForce (G : mG) (x : Int) (f : Int) : Int := (if f < (G 74 (Int.toNat (w32 ((w32 (8 * (G 64 18))) + x)))) then 0 else (if (G 75 (Int.toNat (w32 ((w32 (8 * (G 64 18))) + x)))) ≤ f then 0 else 1))
theorem sp_X12_isForce {D : Nat → Bool} {d : Nat} {G : mG} {x : Int} {f : Int} {Q : Option mV → mG → Prop} (hl : 0 ≤ G 64 18 ∧ G 64 18 ≤ 1) (hx : 0 ≤ x ∧ x < 8) (h : Q (some (mI (f_X12_isForce G x f))) G) : P2 D (d + 1) M_X12_isForce [mR 69, mI x, mI f] G Q := by
  unfold f_X12_isForce at h
  refine p2_vc [] 400 oo_X12 q_X12_isForce (by decide) rfl (Nat.le_of_ble_eq_true rfl) ?_
  refine ⟨(show 0 ≤ (w32 ((w32 (8 * (G 64 18))) + x)) ∧ (w32 ((w32 (8 * (G 64 18))) + x)) < ((16 : Nat) : Int) from by first | omega | (rw [show (w32 ((w32 (8 * (G 64 18))) + x)) = (8 * (G 64 18)) + x from by rw [w32_i (x := (8 * (G 64 18))) (by omega) (by omega), w32_i (x := (8 * (G 64 18)) + x) (by omega) (by omega)]]; omega) | (simp (disch := omega) only [w32_i]; omega)), ?_⟩
  refine ⟨fun (c1 : f < (G 74 (Int.toNat (w32 ((w32 (8 * (G 64 18))) + x))))) => ?_, fun (c1 : (G 74 (Int.toNat (w32 ((w32 (8 * (G 64 18))) + x)))) ≤ f) => ?_⟩
  · rw [if_pos c1] at h
    exact ⟨by omega, h⟩
  · rw [if_neg (Int.not_lt.mpr c1)] at h
    refine ⟨(show 0 ≤ (w32 ((w32 (8 * (G 64 18))) + x)) ∧ (w32 ((w32 (8 * (G 64 18))) + x)) < ((16 : Nat) : Int) from by first | omega | (rw [show (w32 ((w32 (8 * (G 64 18))) + x)) = (8 * (G 64 18)) + x from by rw [w32_i (x := (8 * (G 64 18))) (by omega) (by omega), w32_i (x := (8 * (G 64 18)) + x) (by omega) (by omega)]]; omega) | (simp (disch := omega) only [w32_i]; omega)), ?_⟩
    refine ⟨fun (c2 : (G 75 (Int.toNat (w32 ((w32 (8 * (G 64 18))) + x)))) ≤ f) => ?_, fun (c2 : f < (G 75 (Int.toNat (w32 ((w32 (8 * (G 64 18))) + x))))) => ?_⟩
    · rw [if_pos c2] at h
      exact ⟨by omega, h⟩
    · rw [if_neg (Int.not_le.mpr c2)] at h
      exact ⟨by omega, h⟩
theorem fa_X12_isForce (G : mG) (x f : Int) : f_X12_isForce G x f = 1 ∨ f_X12_isForce G x f = 0 := by
  unfold f_X12_isForce
  repeat' split
  all_goals omega
def g_X12_isFull_4 (G : mG) (f : Int) : Nat → Int → Int := fun j1 s1 => (if (f_X12_isForce G ((j1 : Nat) : Int) f) = 0 then s1 else (w32 (s1 + 1)))
def f_X12_isFull (G : mG) (f : Int) : Int := (if (fd (g_X12_isFull_4 G f) 0 (Int.toNat (G 72 (Int.toNat (G 64 18))))) ≤ 4 then 0 else 1)
theorem sp_X12_isFull {D : Nat → Bool} {d : Nat} {G : mG} {f : Int} {Q : Option mV → mG → Prop} (hl : 0 ≤ G 64 18 ∧ G 64 18 ≤ 1) (hca : G 72 (Int.toNat (G 64 18)) ≤ 8) (h : Q (some (mI (f_X12_isFull G f))) G) : P2 D (d + 2) M_X12_isFull [mR 69, mI f] G Q := by
  unfold f_X12_isFull at h
  refine p2_vc [4] 400 oo_X12 q_X12_isFull (by decide) rfl (Nat.le_of_ble_eq_true rfl) ?_
  refine (show W2 o_X12 M_X12_isFull D (d + 2) Q 4 [some (mR 69), some (mI f), some (mI 0), some (mI ((0 : Nat) : Int))] [] G from ?_)
  refine lup (g_X12_isFull_4 G f) 0 (fun j1 s1 => W2 o_X12 M_X12_isFull D (d + 2) Q 4 [some (mR 69), some (mI f), some (mI s1), some (mI ((j1 : Nat) : Int))] [] G) (Int.toNat (G 72 (Int.toNat (G 64 18)))) (fun j1 s1 hj1 ih1 => ?_) ?_
  · have ih1 : W2 o_X12 M_X12_isFull D (d + 2) Q 4 [some (mR 69), some (mI f), some (mI (g_X12_isFull_4 G f j1 s1)), some (mI ((j1 + 1 : Nat) : Int))] [] G := ih1
    unfold g_X12_isFull_4 at ih1
    refine w2_vc [4] 400 oo_X12 q_X12_isFull ?_
    refine ⟨(show 0 ≤ (G 64 18) ∧ (G 64 18) < ((2 : Nat) : Int) from by first | omega | (simp (disch := omega) only [w32_i]; omega)), ?_⟩
    refine ⟨fun (c1 : (G 72 (Int.toNat (G 64 18))) ≤ ((j1 : Nat) : Int)) => ?_, fun (c1 : ((j1 : Nat) : Int) < (G 72 (Int.toNat (G 64 18)))) => ?_⟩
    · skip
      exfalso; first | omega | (rw [w32_i (by omega) (by omega)] at c1; omega) | (simp (disch := omega) only [w32_i] at *; omega)
    · skip
      refine sp_X12_isForce (by omega) (by omega) ?_
      have c3 := fa_X12_isForce G ((j1 : Nat) : Int) f
      refine ⟨fun (c4 : (f_X12_isForce G ((j1 : Nat) : Int) f) = 0) => ?_, fun (c4 : ¬ (f_X12_isForce G ((j1 : Nat) : Int) f) = 0) => ?_⟩
      · rw [if_pos c4] at ih1
        refine (show W2 o_X12 M_X12_isFull D (d + 2) Q 4 [some (mR 69), some (mI f), some (mI s1), some (mI (w32 (((j1 : Nat) : Int) + 1)))] [] G from ?_)
        rw [w32_nat (by omega)]
        exact ih1
      · rw [if_neg (c4)] at ih1
        refine (show W2 o_X12 M_X12_isFull D (d + 2) Q 4 [some (mR 69), some (mI f), some (mI (w32 (s1 + 1))), some (mI (w32 (((j1 : Nat) : Int) + 1)))] [] G from ?_)
        rw [w32_nat (by omega)]
        exact ih1
  · skip
    refine (show W2 o_X12 M_X12_isFull D (d + 2) Q 4 [some (mR 69), some (mI f), some (mI (fd (g_X12_isFull_4 G f) 0 (Int.toNat (G 72 (Int.toNat (G 64 18)))))), some (mI (((Int.toNat (G 72 (Int.toNat (G 64 18)))) : Nat) : Int))] [] G from ?_)
    refine w2_vc [4] 400 oo_X12 q_X12_isFull ?_
    refine ⟨(show 0 ≤ (G 64 18) ∧ (G 64 18) < ((2 : Nat) : Int) from by first | omega | (simp (disch := omega) only [w32_i]; omega)), ?_⟩
    refine ⟨fun (c5 : (G 72 (Int.toNat (G 64 18))) ≤ (((Int.toNat (G 72 (Int.toNat (G 64 18)))) : Nat) : Int)) => ?_, fun (c5 : (((Int.toNat (G 72 (Int.toNat (G 64 18)))) : Nat) : Int) < (G 72 (Int.toNat (G 64 18)))) => ?_⟩
    · skip
      refine ⟨fun (c6 : (fd (g_X12_isFull_4 G f) 0 (Int.toNat (G 72 (Int.toNat (G 64 18))))) ≤ 4) => ?_, fun (c6 : 4 < (fd (g_X12_isFull_4 G f) 0 (Int.toNat (G 72 (Int.toNat (G 64 18)))))) => ?_⟩
      · rw [if_pos c6] at h
        exact ⟨by omega, h⟩
      · rw [if_neg (Int.not_le.mpr c6)] at h
        exact ⟨by omega, h⟩
    · skip
      exfalso; first | omega | (rw [w32_i (by omega) (by omega)] at c6; omega) | (simp (disch := omega) only [w32_i] at *; omega)
theorem fa_X12_isFull (G : mG) (f : Int) : f_X12_isFull G f = 1 ∨ f_X12_isFull G f = 0 := by
  unfold f_X12_isFull
  repeat' split
  all_goals omega
def f_X12_isHis (G : mG) (b : Int) (f : Int) (x : Int) : Int := (if (G 105 (Int.toNat (w32 ((w32 (9 * f)) + b)))) = (-1) then 0 else (if ¬ (G 78 (Int.toNat (w32 ((w32 (40 * (G 64 18))) + (G 105 (Int.toNat (w32 ((w32 (9 * f)) + b)))))))) = x then 0 else 1))
theorem sp_X12_isHis {D : Nat → Bool} {d : Nat} {G : mG} {b : Int} {f : Int} {x : Int} {Q : Option mV → mG → Prop} (hl : 0 ≤ G 64 18 ∧ G 64 18 ≤ 1) (hb : 0 ≤ b ∧ b < 9) (hf : 0 ≤ f ∧ f < 26) (hg : ∀ i, i < 234 → -1 ≤ G 105 i ∧ G 105 i < 40) (h : Q (some (mI (f_X12_isHis G b f x))) G) : P2 D (d + 1) M_X12_isHis [mR 69, mI b, mI f, mI x] G Q := by
  unfold f_X12_isHis at h
  refine p2_vc [37, 39] 400 oo_X12 q_X12_isHis (by decide) rfl (Nat.le_of_ble_eq_true rfl) ?_
  refine ⟨(show 0 ≤ (w32 ((w32 (9 * f)) + b)) ∧ (w32 ((w32 (9 * f)) + b)) < ((234 : Nat) : Int) from by first | omega | (rw [show (w32 ((w32 (9 * f)) + b)) = (9 * f) + b from by rw [w32_i (x := (9 * f)) (by omega) (by omega), w32_i (x := (9 * f) + b) (by omega) (by omega)]]; omega) | (simp (disch := omega) only [w32_i]; omega)), ?_⟩
  have c1 := hg (Int.toNat (w32 ((w32 (9 * f)) + b))) (by first | omega | (simp (disch := omega) only [w32_i]; omega))
  refine ⟨fun (c2 : (G 105 (Int.toNat (w32 ((w32 (9 * f)) + b)))) = (-1)) => ?_, fun (c2 : ¬ (G 105 (Int.toNat (w32 ((w32 (9 * f)) + b)))) = (-1)) => ?_⟩
  · rw [if_pos c2] at h
    exact ⟨by omega, h⟩
  · rw [if_neg (c2)] at h
    refine ⟨(show 0 ≤ (w32 ((w32 (9 * f)) + b)) ∧ (w32 ((w32 (9 * f)) + b)) < ((234 : Nat) : Int) from by first | omega | (rw [show (w32 ((w32 (9 * f)) + b)) = (9 * f) + b from by rw [w32_i (x := (9 * f)) (by omega) (by omega), w32_i (x := (9 * f) + b) (by omega) (by omega)]]; omega) | (simp (disch := omega) only [w32_i]; omega)), ?_⟩
    have c3 := hg (Int.toNat (w32 ((w32 (9 * f)) + b))) (by first | omega | (simp (disch := omega) only [w32_i]; omega))
    refine (show W2 o_X12 M_X12_isHis D (d + 1) Q 37 [some (mR 69), some (mI b), some (mI f), some (mI x)] [mI (G 105 (Int.toNat (w32 ((w32 (9 * f)) + b)))), mI (w32 (40 * (G 64 18))), mR 83] G from ?_)
    refine w2_vc [37, 39] 400 oo_X12 q_X12_isHis ?_
    refine ⟨(show 0 ≤ (w32 ((w32 (40 * (G 64 18))) + (G 105 (Int.toNat (w32 ((w32 (9 * f)) + b)))))) ∧ (w32 ((w32 (40 * (G 64 18))) + (G 105 (Int.toNat (w32 ((w32 (9 * f)) + b)))))) < ((80 : Nat) : Int) from by first | omega | (rw [show (w32 ((w32 (40 * (G 64 18))) + (G 105 (Int.toNat (w32 ((w32 (9 * f)) + b)))))) = (40 * (G 64 18)) + (G 105 (Int.toNat (w32 ((w32 (9 * f)) + b)))) from by rw [w32_i (x := (40 * (G 64 18))) (by omega) (by omega), w32_i (x := (40 * (G 64 18)) + (G 105 (Int.toNat (w32 ((w32 (9 * f)) + b))))) (by omega) (by omega)]]; omega) | (simp (disch := omega) only [w32_i]; omega)), ?_⟩
    refine (show W2 o_X12 M_X12_isHis D (d + 1) Q 39 [some (mR 69), some (mI b), some (mI f), some (mI x)] [mI (G 78 (Int.toNat (w32 ((w32 (40 * (G 64 18))) + (G 105 (Int.toNat (w32 ((w32 (9 * f)) + b))))))))] G from ?_)
    refine w2_vc [37, 39] 400 oo_X12 q_X12_isHis ?_
    refine ⟨fun (c4 : ¬ (G 78 (Int.toNat (w32 ((w32 (40 * (G 64 18))) + (G 105 (Int.toNat (w32 ((w32 (9 * f)) + b)))))))) = x) => ?_, fun (c4 : (G 78 (Int.toNat (w32 ((w32 (40 * (G 64 18))) + (G 105 (Int.toNat (w32 ((w32 (9 * f)) + b)))))))) = x) => ?_⟩
    · rw [if_pos c4] at h
      exact ⟨by omega, h⟩
    · rw [if_neg (fun q => q c4)] at h
      exact ⟨by omega, h⟩
theorem fa_X12_isHis (G : mG) (b f x : Int) : f_X12_isHis G b f x = 1 ∨ f_X12_isHis G b f x = 0 := by
  unfold f_X12_isHis
  repeat' split
  all_goals omega
def f_X12_given (G : mG) (b : Int) (f : Int) (w : Int) : Int := (if (f_X12_isBoard G b) = 0 then (-1) else (if (f_X12_isFortnight G f) = 0 then (-1) else (if (G 104 (Int.toNat f)) = 0 then (-1) else (if w < 0 then (-1) else (if w ≤ 3 then (if w = 0 then (G 105 (Int.toNat (w32 ((w32 (9 * f)) + b)))) else (if w = 1 then (if ¬ (G 105 (Int.toNat (w32 ((w32 (9 * f)) + b)))) = (-1) then (G 78 (Int.toNat (w32 ((w32 (40 * (G 64 18))) + (G 105 (Int.toNat (w32 ((w32 (9 * f)) + b)))))))) else (-1)) else (if w = 2 then (if ¬ (G 105 (Int.toNat (w32 ((w32 (9 * f)) + b)))) = (-1) then (G 81 (Int.toNat (w32 ((w32 (40 * (G 64 18))) + (G 105 (Int.toNat (w32 ((w32 (9 * f)) + b)))))))) else 0) else (if ¬ (G 105 (Int.toNat (w32 ((w32 (9 * f)) + b)))) = (-1) then (f_X12_due G b f) else (-1))))) else (-1))))))
set_option maxHeartbeats 8000000 in
theorem sp_X12_given {D : Nat → Bool} {d : Nat} {G : mG} {b : Int} {f : Int} {w : Int} {Q : Option mV → mG → Prop} (hl : 0 ≤ G 64 18 ∧ G 64 18 ≤ 1) (hbd : 0 ≤ G 64 44 ∧ G 64 44 ≤ 9) (hfa : G 64 51 ≤ 300) (hd : ∀ i, i < 9 → 0 ≤ G 94 i ∧ G 94 i ≤ 5) (hpc : ∀ i, i < 6 → 1 ≤ G 99 i) (hg : ∀ i, i < 234 → -1 ≤ G 105 i ∧ G 105 i < 40) (hca : G 72 (Int.toNat (G 64 18)) ≤ 8) (hcl : G 76 (Int.toNat (G 64 18)) ≤ 40) (h : Q (some (mI (f_X12_given G b f w))) G) : P2 D (d + 2) M_X12_given [mR 69, mI b, mI f, mI w] G Q := by
  unfold f_X12_given at h
  refine p2_vc [] 400 oo_X12 q_X12_given (by decide) rfl (Nat.le_of_ble_eq_true rfl) ?_
  refine sp_X12_isBoard  ?_
  have c2 := fa_X12_isBoard G b
  refine ⟨fun (c3 : (f_X12_isBoard G b) = 0) => ?_, fun (c3 : ¬ (f_X12_isBoard G b) = 0) => ?_⟩
  · rw [if_pos c3] at h
    exact h
  · rw [if_neg (c3)] at h
    refine sp_X12_isFortnight  ?_
    have c5 := fa_X12_isFortnight G f
    refine ⟨fun (c6 : (f_X12_isFortnight G f) = 0) => ?_, fun (c6 : ¬ (f_X12_isFortnight G f) = 0) => ?_⟩
    · rw [if_pos c6] at h
      exact h
    · rw [if_neg (c6)] at h
      refine ⟨(show 0 ≤ f ∧ f < ((26 : Nat) : Int) from by first | omega | (simp (disch := omega) only [w32_i]; omega)), ?_⟩
      refine ⟨fun (c7 : (G 104 (Int.toNat f)) = 0) => ?_, fun (c7 : ¬ (G 104 (Int.toNat f)) = 0) => ?_⟩
      · rw [if_pos c7] at h
        exact h
      · rw [if_neg (c7)] at h
        refine ⟨fun (c8 : w < 0) => ?_, fun (c8 : 0 ≤ w) => ?_⟩
        · rw [if_pos c8] at h
          exact h
        · rw [if_neg (Int.not_lt.mpr c8)] at h
          refine ⟨fun (c9 : w ≤ 3) => ?_, fun (c9 : 3 < w) => ?_⟩
          · rw [if_pos c9] at h
            refine ⟨(show 0 ≤ (w32 ((w32 (9 * f)) + b)) ∧ (w32 ((w32 (9 * f)) + b)) < ((234 : Nat) : Int) from by first | omega | (rw [show (w32 ((w32 (9 * f)) + b)) = (9 * f) + b from by rw [w32_i (x := (9 * f)) (by omega) (by omega), w32_i (x := (9 * f) + b) (by omega) (by omega)]]; omega) | (simp (disch := omega) only [w32_i]; omega)), ?_⟩
            have c10 := hg (Int.toNat (w32 ((w32 (9 * f)) + b))) (by first | omega | (simp (disch := omega) only [w32_i]; omega))
            refine ⟨fun (c11 : w < 0 ∨ 2 < w) => ?_, fun (c11 : w = 0) => ?_, fun (c11 : w = 1) => ?_, fun (c11 : w = 2) => ?_, trivial⟩
            · skip
              rw [if_neg (show ¬ w = 0 from by omega)] at h
              rw [if_neg (show ¬ w = 1 from by omega)] at h
              rw [if_neg (show ¬ w = 2 from by omega)] at h
              refine ⟨fun (c12 : ¬ (G 105 (Int.toNat (w32 ((w32 (9 * f)) + b)))) = (-1)) => ?_, fun (c12 : (G 105 (Int.toNat (w32 ((w32 (9 * f)) + b)))) = (-1)) => ?_⟩
              · rw [if_pos c12] at h
                refine sp_X12_due (by omega) (by omega) (hd) (hpc) ?_
                exact h
              · rw [if_neg (fun q => q c12)] at h
                exact h
            · skip
              rw [if_pos c11] at h
              exact h
            · skip
              rw [if_neg (show ¬ w = 0 from by omega)] at h
              rw [if_pos c11] at h
              refine ⟨fun (c14 : ¬ (G 105 (Int.toNat (w32 ((w32 (9 * f)) + b)))) = (-1)) => ?_, fun (c14 : (G 105 (Int.toNat (w32 ((w32 (9 * f)) + b)))) = (-1)) => ?_⟩
              · rw [if_pos c14] at h
                refine ⟨(show 0 ≤ (w32 ((w32 (40 * (G 64 18))) + (G 105 (Int.toNat (w32 ((w32 (9 * f)) + b)))))) ∧ (w32 ((w32 (40 * (G 64 18))) + (G 105 (Int.toNat (w32 ((w32 (9 * f)) + b)))))) < ((80 : Nat) : Int) from by first | omega | (rw [show (w32 ((w32 (40 * (G 64 18))) + (G 105 (Int.toNat (w32 ((w32 (9 * f)) + b)))))) = (40 * (G 64 18)) + (G 105 (Int.toNat (w32 ((w32 (9 * f)) + b)))) from by rw [w32_i (x := (40 * (G 64 18))) (by omega) (by omega), w32_i (x := (40 * (G 64 18)) + (G 105 (Int.toNat (w32 ((w32 (9 * f)) + b))))) (by omega) (by omega)]]; omega) | (simp (disch := omega) only [w32_i]; omega)), ?_⟩
                exact h
              · rw [if_neg (fun q => q c14)] at h
                exact h
            · skip
              rw [if_neg (show ¬ w = 0 from by omega)] at h
              rw [if_neg (show ¬ w = 1 from by omega)] at h
              rw [if_pos c11] at h
              refine ⟨fun (c15 : ¬ (G 105 (Int.toNat (w32 ((w32 (9 * f)) + b)))) = (-1)) => ?_, fun (c15 : (G 105 (Int.toNat (w32 ((w32 (9 * f)) + b)))) = (-1)) => ?_⟩
              · rw [if_pos c15] at h
                refine ⟨(show 0 ≤ (w32 ((w32 (40 * (G 64 18))) + (G 105 (Int.toNat (w32 ((w32 (9 * f)) + b)))))) ∧ (w32 ((w32 (40 * (G 64 18))) + (G 105 (Int.toNat (w32 ((w32 (9 * f)) + b)))))) < ((80 : Nat) : Int) from by first | omega | (rw [show (w32 ((w32 (40 * (G 64 18))) + (G 105 (Int.toNat (w32 ((w32 (9 * f)) + b)))))) = (40 * (G 64 18)) + (G 105 (Int.toNat (w32 ((w32 (9 * f)) + b)))) from by rw [w32_i (x := (40 * (G 64 18))) (by omega) (by omega), w32_i (x := (40 * (G 64 18)) + (G 105 (Int.toNat (w32 ((w32 (9 * f)) + b))))) (by omega) (by omega)]]; omega) | (simp (disch := omega) only [w32_i]; omega)), ?_⟩
                exact h
              · rw [if_neg (fun q => q c15)] at h
                exact h
          · rw [if_neg (Int.not_le.mpr c9)] at h
            exact h
def g_X12_lacks_120 (G : mG) (x : Int) (f : Int) (y : Int) (j1 : Nat) (s1 : Unit) : Nat → Int → Int := fun j2 s2 => (if ¬ (G 105 (Int.toNat (w32 ((w32 (9 * f)) + ((j2 : Nat) : Int))))) = ((j1 : Nat) : Int) then s2 else (w32 (s2 + (-1))))
def g_X12_lacks_47 (G : mG) (x : Int) (f : Int) (y : Int) : Nat → Unit → (Unit ⊕ (Int)) := fun j1 s1 => (if ¬ (G 77 (Int.toNat (w32 ((w32 (40 * (G 64 18))) + ((j1 : Nat) : Int))))) = 0 then (Sum.inl ()) else (if ¬ (G 78 (Int.toNat (w32 ((w32 (40 * (G 64 18))) + ((j1 : Nat) : Int))))) = x then (Sum.inl ()) else (if (G 80 (Int.toNat (w32 ((w32 (40 * (G 64 18))) + ((j1 : Nat) : Int))))) = y then (Sum.inr (fd (g_X12_lacks_120 G x f y j1 s1) (G 79 (Int.toNat (w32 ((w32 (40 * (G 64 18))) + ((j1 : Nat) : Int))))) (Int.toNat (G 64 44)))) else (Sum.inl ()))))
def f_X12_lacks (G : mG) (x : Int) (f : Int) (y : Int) : Int := (if (f_X12_isCampaign G x) = 0 then (-1) else (if (f_X12_isFortnight G f) = 0 then (-1) else (if y < 0 then (-1) else (if 5 < y then (-1) else (if (G 104 (Int.toNat f)) = 0 then (-1) else (if ¬ (f_X12_isForce G x f) = 0 then (fnl (fe (g_X12_lacks_47 G x f y) () (Int.toNat (G 76 (Int.toNat (G 64 18))))) (fun s1 => 0)) else (-1)))))))
set_option maxHeartbeats 8000000 in
theorem sp_X12_lacks {D : Nat → Bool} {d : Nat} {G : mG} {x : Int} {f : Int} {y : Int} {Q : Option mV → mG → Prop} (hl : 0 ≤ G 64 18 ∧ G 64 18 ≤ 1) (hbd : 0 ≤ G 64 44 ∧ G 64 44 ≤ 9) (hfa : G 64 51 ≤ 300) (hd : ∀ i, i < 9 → 0 ≤ G 94 i ∧ G 94 i ≤ 5) (hpc : ∀ i, i < 6 → 1 ≤ G 99 i) (hg : ∀ i, i < 234 → -1 ≤ G 105 i ∧ G 105 i < 40) (hca : G 72 (Int.toNat (G 64 18)) ≤ 8) (hcl : G 76 (Int.toNat (G 64 18)) ≤ 40) (h : Q (some (mI (f_X12_lacks G x f y))) G) : P2 D (d + 2) M_X12_lacks [mR 69, mI x, mI f, mI y] G Q := by
  unfold f_X12_lacks at h
  refine p2_vc [47, 120] 400 oo_X12 q_X12_lacks (by decide) rfl (Nat.le_of_ble_eq_true rfl) ?_
  refine sp_X12_isCampaign (by omega) ?_
  have c2 := fa_X12_isCampaign G x
  refine ⟨fun (c3 : (f_X12_isCampaign G x) = 0) => ?_, fun (c3 : ¬ (f_X12_isCampaign G x) = 0) => ?_⟩
  · rw [if_pos c3] at h
    exact h
  · rw [if_neg (c3)] at h
    refine sp_X12_isFortnight  ?_
    have c5 := fa_X12_isFortnight G f
    refine ⟨fun (c6 : (f_X12_isFortnight G f) = 0) => ?_, fun (c6 : ¬ (f_X12_isFortnight G f) = 0) => ?_⟩
    · rw [if_pos c6] at h
      exact h
    · rw [if_neg (c6)] at h
      refine ⟨fun (c7 : y < 0) => ?_, fun (c7 : 0 ≤ y) => ?_⟩
      · rw [if_pos c7] at h
        exact h
      · rw [if_neg (Int.not_lt.mpr c7)] at h
        refine ⟨fun (c8 : 5 < y) => ?_, fun (c8 : y ≤ 5) => ?_⟩
        · rw [if_pos c8] at h
          exact h
        · rw [if_neg (Int.not_lt.mpr c8)] at h
          refine ⟨(show 0 ≤ f ∧ f < ((26 : Nat) : Int) from by first | omega | (simp (disch := omega) only [w32_i]; omega)), ?_⟩
          refine ⟨fun (c9 : (G 104 (Int.toNat f)) = 0) => ?_, fun (c9 : ¬ (G 104 (Int.toNat f)) = 0) => ?_⟩
          · rw [if_pos c9] at h
            exact h
          · rw [if_neg (c9)] at h
            refine sp_X12_isForce (by omega) (by omega) ?_
            have c11 := fa_X12_isForce G x f
            refine ⟨fun (c12 : ¬ (f_X12_isForce G x f) = 0) => ?_, fun (c12 : (f_X12_isForce G x f) = 0) => ?_⟩
            · rw [if_pos c12] at h
              refine (show W2 o_X12 M_X12_lacks D (d + 2) Q 47 [some (mR 69), some (mI x), some (mI f), some (mI y), some (mI ((0 : Nat) : Int)), none, none, none] [] G from ?_)
              refine lupF (g_X12_lacks_47 G x f y) () (fun j1 s1 => W2 o_X12 M_X12_lacks D (d + 2) Q 47 [some (mR 69), some (mI x), some (mI f), some (mI y), some (mI ((j1 : Nat) : Int)), none, none, none] [] G) (fun r => Q (some (mI r)) G) (fun _ _ => True) (Int.toNat (G 76 (Int.toNat (G 64 18)))) ⟨trivial, fun _ _ _ _ _ _ => trivial⟩ (fun j1 s1 hj1 hI1 ih1 => ?_) ?_
              · have ih1 : sk (fun z => W2 o_X12 M_X12_lacks D (d + 2) Q 47 [some (mR 69), some (mI x), some (mI f), some (mI y), some (mI ((j1 + 1 : Nat) : Int)), none, none, none] [] G) (fun r => Q (some (mI r)) G) (g_X12_lacks_47 G x f y j1 s1) := ih1
                unfold g_X12_lacks_47 at ih1
                refine w2_vc [47, 120] 400 oo_X12 q_X12_lacks ?_
                refine ⟨(show 0 ≤ (G 64 18) ∧ (G 64 18) < ((2 : Nat) : Int) from by first | omega | (simp (disch := omega) only [w32_i]; omega)), ?_⟩
                refine ⟨fun (c13 : (G 76 (Int.toNat (G 64 18))) ≤ ((j1 : Nat) : Int)) => ?_, fun (c13 : ((j1 : Nat) : Int) < (G 76 (Int.toNat (G 64 18)))) => ?_⟩
                · skip
                  exfalso; first | omega | (rw [w32_i (by omega) (by omega)] at c13; omega) | (simp (disch := omega) only [w32_i] at *; omega)
                · skip
                  refine ⟨(show 0 ≤ (w32 ((w32 (40 * (G 64 18))) + ((j1 : Nat) : Int))) ∧ (w32 ((w32 (40 * (G 64 18))) + ((j1 : Nat) : Int))) < ((80 : Nat) : Int) from by first | omega | (rw [show (w32 ((w32 (40 * (G 64 18))) + ((j1 : Nat) : Int))) = (40 * (G 64 18)) + ((j1 : Nat) : Int) from by rw [w32_i (x := (40 * (G 64 18))) (by omega) (by omega), w32_i (x := (40 * (G 64 18)) + ((j1 : Nat) : Int)) (by omega) (by omega)]]; omega) | (simp (disch := omega) only [w32_i]; omega)), ?_⟩
                  refine ⟨fun (c14 : ¬ (G 77 (Int.toNat (w32 ((w32 (40 * (G 64 18))) + ((j1 : Nat) : Int))))) = 0) => ?_, fun (c14 : (G 77 (Int.toNat (w32 ((w32 (40 * (G 64 18))) + ((j1 : Nat) : Int))))) = 0) => ?_⟩
                  · rw [if_pos c14] at ih1
                    refine (show W2 o_X12 M_X12_lacks D (d + 2) Q 47 [some (mR 69), some (mI x), some (mI f), some (mI y), some (mI (w32 (((j1 : Nat) : Int) + 1))), some (mI (w32 ((w32 (40 * (G 64 18))) + ((j1 : Nat) : Int)))), none, none] [] G from ?_)
                    refine WP.fg (L' := [some (mR 69), some (mI x), some (mI f), some (mI y), some (mI (w32 (((j1 : Nat) : Int) + 1))), none, none, none]) ⟨rfl, rfl, rfl, rfl, rfl, trivial⟩ ?_
                    rw [w32_nat (by omega)]
                    exact ih1
                  · rw [if_neg (fun q => q c14)] at ih1
                    refine ⟨(show 0 ≤ (w32 ((w32 (40 * (G 64 18))) + ((j1 : Nat) : Int))) ∧ (w32 ((w32 (40 * (G 64 18))) + ((j1 : Nat) : Int))) < ((80 : Nat) : Int) from by first | omega | (rw [show (w32 ((w32 (40 * (G 64 18))) + ((j1 : Nat) : Int))) = (40 * (G 64 18)) + ((j1 : Nat) : Int) from by rw [w32_i (x := (40 * (G 64 18))) (by omega) (by omega), w32_i (x := (40 * (G 64 18)) + ((j1 : Nat) : Int)) (by omega) (by omega)]]; omega) | (simp (disch := omega) only [w32_i]; omega)), ?_⟩
                    refine ⟨fun (c15 : ¬ (G 78 (Int.toNat (w32 ((w32 (40 * (G 64 18))) + ((j1 : Nat) : Int))))) = x) => ?_, fun (c15 : (G 78 (Int.toNat (w32 ((w32 (40 * (G 64 18))) + ((j1 : Nat) : Int))))) = x) => ?_⟩
                    · rw [if_pos c15] at ih1
                      refine (show W2 o_X12 M_X12_lacks D (d + 2) Q 47 [some (mR 69), some (mI x), some (mI f), some (mI y), some (mI (w32 (((j1 : Nat) : Int) + 1))), some (mI (w32 ((w32 (40 * (G 64 18))) + ((j1 : Nat) : Int)))), none, none] [] G from ?_)
                      refine WP.fg (L' := [some (mR 69), some (mI x), some (mI f), some (mI y), some (mI (w32 (((j1 : Nat) : Int) + 1))), none, none, none]) ⟨rfl, rfl, rfl, rfl, rfl, trivial⟩ ?_
                      rw [w32_nat (by omega)]
                      exact ih1
                    · rw [if_neg (fun q => q c15)] at ih1
                      refine ⟨(show 0 ≤ (w32 ((w32 (40 * (G 64 18))) + ((j1 : Nat) : Int))) ∧ (w32 ((w32 (40 * (G 64 18))) + ((j1 : Nat) : Int))) < ((80 : Nat) : Int) from by first | omega | (rw [show (w32 ((w32 (40 * (G 64 18))) + ((j1 : Nat) : Int))) = (40 * (G 64 18)) + ((j1 : Nat) : Int) from by rw [w32_i (x := (40 * (G 64 18))) (by omega) (by omega), w32_i (x := (40 * (G 64 18)) + ((j1 : Nat) : Int)) (by omega) (by omega)]]; omega) | (simp (disch := omega) only [w32_i]; omega)), ?_⟩
                      refine ⟨fun (c16 : (G 80 (Int.toNat (w32 ((w32 (40 * (G 64 18))) + ((j1 : Nat) : Int))))) = y) => ?_, fun (c16 : ¬ (G 80 (Int.toNat (w32 ((w32 (40 * (G 64 18))) + ((j1 : Nat) : Int))))) = y) => ?_⟩
                      · rw [if_pos c16] at ih1
                        refine ⟨(show 0 ≤ (w32 ((w32 (40 * (G 64 18))) + ((j1 : Nat) : Int))) ∧ (w32 ((w32 (40 * (G 64 18))) + ((j1 : Nat) : Int))) < ((80 : Nat) : Int) from by first | omega | (rw [show (w32 ((w32 (40 * (G 64 18))) + ((j1 : Nat) : Int))) = (40 * (G 64 18)) + ((j1 : Nat) : Int) from by rw [w32_i (x := (40 * (G 64 18))) (by omega) (by omega), w32_i (x := (40 * (G 64 18)) + ((j1 : Nat) : Int)) (by omega) (by omega)]]; omega) | (simp (disch := omega) only [w32_i]; omega)), ?_⟩
                        refine (show W2 o_X12 M_X12_lacks D (d + 2) Q 120 [some (mR 69), some (mI x), some (mI f), some (mI y), some (mI ((j1 : Nat) : Int)), some (mI (w32 ((w32 (40 * (G 64 18))) + ((j1 : Nat) : Int)))), some (mI (G 79 (Int.toNat (w32 ((w32 (40 * (G 64 18))) + ((j1 : Nat) : Int)))))), some (mI ((0 : Nat) : Int))] [] G from ?_)
                        refine lup (g_X12_lacks_120 G x f y j1 s1) (G 79 (Int.toNat (w32 ((w32 (40 * (G 64 18))) + ((j1 : Nat) : Int))))) (fun j2 s2 => W2 o_X12 M_X12_lacks D (d + 2) Q 120 [some (mR 69), some (mI x), some (mI f), some (mI y), some (mI ((j1 : Nat) : Int)), some (mI (w32 ((w32 (40 * (G 64 18))) + ((j1 : Nat) : Int)))), some (mI s2), some (mI ((j2 : Nat) : Int))] [] G) (Int.toNat (G 64 44)) (fun j2 s2 hj2 ih2 => ?_) ?_
                        · have ih2 : W2 o_X12 M_X12_lacks D (d + 2) Q 120 [some (mR 69), some (mI x), some (mI f), some (mI y), some (mI ((j1 : Nat) : Int)), some (mI (w32 ((w32 (40 * (G 64 18))) + ((j1 : Nat) : Int)))), some (mI (g_X12_lacks_120 G x f y j1 s1 j2 s2)), some (mI ((j2 + 1 : Nat) : Int))] [] G := ih2
                          unfold g_X12_lacks_120 at ih2
                          refine w2_vc [47, 120] 400 oo_X12 q_X12_lacks ?_
                          refine ⟨fun (c17 : (G 64 44) ≤ ((j2 : Nat) : Int)) => ?_, fun (c17 : ((j2 : Nat) : Int) < (G 64 44)) => ?_⟩
                          · skip
                            exfalso; first | omega | (rw [w32_i (by omega) (by omega)] at c17; omega) | (simp (disch := omega) only [w32_i] at *; omega)
                          · skip
                            refine ⟨(show 0 ≤ (w32 ((w32 (9 * f)) + ((j2 : Nat) : Int))) ∧ (w32 ((w32 (9 * f)) + ((j2 : Nat) : Int))) < ((234 : Nat) : Int) from by first | omega | (rw [show (w32 ((w32 (9 * f)) + ((j2 : Nat) : Int))) = (9 * f) + ((j2 : Nat) : Int) from by rw [w32_i (x := (9 * f)) (by omega) (by omega), w32_i (x := (9 * f) + ((j2 : Nat) : Int)) (by omega) (by omega)]]; omega) | (simp (disch := omega) only [w32_i]; omega)), ?_⟩
                            have c18 := hg (Int.toNat (w32 ((w32 (9 * f)) + ((j2 : Nat) : Int)))) (by first | omega | (simp (disch := omega) only [w32_i]; omega))
                            refine ⟨fun (c19 : ¬ (G 105 (Int.toNat (w32 ((w32 (9 * f)) + ((j2 : Nat) : Int))))) = ((j1 : Nat) : Int)) => ?_, fun (c19 : (G 105 (Int.toNat (w32 ((w32 (9 * f)) + ((j2 : Nat) : Int))))) = ((j1 : Nat) : Int)) => ?_⟩
                            · rw [if_pos c19] at ih2
                              refine (show W2 o_X12 M_X12_lacks D (d + 2) Q 120 [some (mR 69), some (mI x), some (mI f), some (mI y), some (mI ((j1 : Nat) : Int)), some (mI (w32 ((w32 (40 * (G 64 18))) + ((j1 : Nat) : Int)))), some (mI s2), some (mI (w32 (((j2 : Nat) : Int) + 1)))] [] G from ?_)
                              rw [w32_nat (by omega)]
                              exact ih2
                            · rw [if_neg (fun q => q c19)] at ih2
                              refine (show W2 o_X12 M_X12_lacks D (d + 2) Q 120 [some (mR 69), some (mI x), some (mI f), some (mI y), some (mI ((j1 : Nat) : Int)), some (mI (w32 ((w32 (40 * (G 64 18))) + ((j1 : Nat) : Int)))), some (mI (w32 (s2 + (-1)))), some (mI (w32 (((j2 : Nat) : Int) + 1)))] [] G from ?_)
                              rw [w32_nat (by omega)]
                              exact ih2
                        · skip
                          refine (show W2 o_X12 M_X12_lacks D (d + 2) Q 120 [some (mR 69), some (mI x), some (mI f), some (mI y), some (mI ((j1 : Nat) : Int)), some (mI (w32 ((w32 (40 * (G 64 18))) + ((j1 : Nat) : Int)))), some (mI (fd (g_X12_lacks_120 G x f y j1 s1) (G 79 (Int.toNat (w32 ((w32 (40 * (G 64 18))) + ((j1 : Nat) : Int))))) (Int.toNat (G 64 44)))), some (mI (((Int.toNat (G 64 44)) : Nat) : Int))] [] G from ?_)
                          refine w2_vc [47, 120] 400 oo_X12 q_X12_lacks ?_
                          refine ⟨fun (c20 : (G 64 44) ≤ (((Int.toNat (G 64 44)) : Nat) : Int)) => ?_, fun (c20 : (((Int.toNat (G 64 44)) : Nat) : Int) < (G 64 44)) => ?_⟩
                          · skip
                            exact ih1
                          · skip
                            exfalso; first | omega | (rw [w32_i (by omega) (by omega)] at c20; omega) | (simp (disch := omega) only [w32_i] at *; omega)
                      · rw [if_neg (c16)] at ih1
                        refine (show W2 o_X12 M_X12_lacks D (d + 2) Q 47 [some (mR 69), some (mI x), some (mI f), some (mI y), some (mI (w32 (((j1 : Nat) : Int) + 1))), some (mI (w32 ((w32 (40 * (G 64 18))) + ((j1 : Nat) : Int)))), none, none] [] G from ?_)
                        refine WP.fg (L' := [some (mR 69), some (mI x), some (mI f), some (mI y), some (mI (w32 (((j1 : Nat) : Int) + 1))), none, none, none]) ⟨rfl, rfl, rfl, rfl, rfl, trivial⟩ ?_
                        rw [w32_nat (by omega)]
                        exact ih1
              · intro hI1
                generalize (fe (g_X12_lacks_47 G x f y) () (Int.toNat (G 76 (Int.toNat (G 64 18))))) = z at h hI1 ⊢
                cases z with
                | inr r => exact h
                | inl s1 =>
                  have h : Q (some (mI 0)) G := h
                  refine (show W2 o_X12 M_X12_lacks D (d + 2) Q 47 [some (mR 69), some (mI x), some (mI f), some (mI y), some (mI (((Int.toNat (G 76 (Int.toNat (G 64 18)))) : Nat) : Int)), none, none, none] [] G from ?_)
                  refine w2_vc [47, 120] 400 oo_X12 q_X12_lacks ?_
                  refine ⟨(show 0 ≤ (G 64 18) ∧ (G 64 18) < ((2 : Nat) : Int) from by first | omega | (simp (disch := omega) only [w32_i]; omega)), ?_⟩
                  refine ⟨fun (c21 : (G 76 (Int.toNat (G 64 18))) ≤ (((Int.toNat (G 76 (Int.toNat (G 64 18)))) : Nat) : Int)) => ?_, fun (c21 : (((Int.toNat (G 76 (Int.toNat (G 64 18)))) : Nat) : Int) < (G 76 (Int.toNat (G 64 18)))) => ?_⟩
                  · skip
                    exact h
                  · skip
                    exfalso; first | omega | (rw [w32_i (by omega) (by omega)] at c21; omega) | (simp (disch := omega) only [w32_i] at *; omega)
            · rw [if_neg (fun q => q c12)] at h
              exact h
def f_X12_state (G : mG) (b : Int) (f : Int) (n : Int) (w : Int) : Int := (if (f_X12_isBoard G b) = 0 then (-1) else (if (f_X12_isFortnight G f) = 0 then (-1) else (if ¬ (f_X12_isKnown G n) = 0 then (if w < 20 then (if w = 0 then (f_X12_days G b f n 1) else (if w = 1 then (f_X12_days G b f n 2) else (if w = 2 then (f_X12_late G b f n) else (if w = 3 then (if (f_X12_isLost G b f n) = 0 then 0 else 1) else (-1))))) else (if 34 ≤ w then (if w = 0 then (f_X12_days G b f n 1) else (if w = 1 then (f_X12_days G b f n 2) else (if w = 2 then (f_X12_late G b f n) else (if w = 3 then (if (f_X12_isLost G b f n) = 0 then 0 else 1) else (-1))))) else (f_X12_shownOn G b f (w32 (w - 20)) n))) else (-1))))
set_option maxHeartbeats 8000000 in
theorem sp_X12_state {D : Nat → Bool} {d : Nat} {G : mG} {b : Int} {f : Int} {n : Int} {w : Int} {Q : Option mV → mG → Prop} (hl : 0 ≤ G 64 18 ∧ G 64 18 ≤ 1) (hbd : 0 ≤ G 64 44 ∧ G 64 44 ≤ 9) (hfa : G 64 51 ≤ 300) (hd : ∀ i, i < 9 → 0 ≤ G 94 i ∧ G 94 i ≤ 5) (hpc : ∀ i, i < 6 → 1 ≤ G 99 i) (hg : ∀ i, i < 234 → -1 ≤ G 105 i ∧ G 105 i < 40) (hca : G 72 (Int.toNat (G 64 18)) ≤ 8) (hcl : G 76 (Int.toNat (G 64 18)) ≤ 40) (h : Q (some (mI (f_X12_state G b f n w))) G) : P2 D (d + 3) M_X12_state [mR 69, mI b, mI f, mI n, mI w] G Q := by
  unfold f_X12_state at h
  refine p2_vc [] 400 oo_X12 q_X12_state (by decide) rfl (Nat.le_of_ble_eq_true rfl) ?_
  refine sp_X12_isBoard  ?_
  have c2 := fa_X12_isBoard G b
  refine ⟨fun (c3 : (f_X12_isBoard G b) = 0) => ?_, fun (c3 : ¬ (f_X12_isBoard G b) = 0) => ?_⟩
  · rw [if_pos c3] at h
    exact h
  · rw [if_neg (c3)] at h
    refine sp_X12_isFortnight  ?_
    have c5 := fa_X12_isFortnight G f
    refine ⟨fun (c6 : (f_X12_isFortnight G f) = 0) => ?_, fun (c6 : ¬ (f_X12_isFortnight G f) = 0) => ?_⟩
    · rw [if_pos c6] at h
      exact h
    · rw [if_neg (c6)] at h
      refine sp_X12_isKnown  ?_
      have c8 := fa_X12_isKnown G n
      refine ⟨fun (c9 : ¬ (f_X12_isKnown G n) = 0) => ?_, fun (c9 : (f_X12_isKnown G n) = 0) => ?_⟩
      · rw [if_pos c9] at h
        refine ⟨fun (c10 : w < 20) => ?_, fun (c10 : 20 ≤ w) => ?_⟩
        · rw [if_pos c10] at h
          refine ⟨fun (c11 : w < 0 ∨ 3 < w) => ?_, fun (c11 : w = 0) => ?_, fun (c11 : w = 1) => ?_, fun (c11 : w = 2) => ?_, fun (c11 : w = 3) => ?_, trivial⟩
          · skip
            rw [if_neg (show ¬ w = 0 from by omega)] at h
            rw [if_neg (show ¬ w = 1 from by omega)] at h
            rw [if_neg (show ¬ w = 2 from by omega)] at h
            rw [if_neg (show ¬ w = 3 from by omega)] at h
            exact h
          · skip
            rw [if_pos c11] at h
            refine sp_X12_days (by omega) ?_
            exact h
          · skip
            rw [if_neg (show ¬ w = 0 from by omega)] at h
            rw [if_pos c11] at h
            refine sp_X12_days (by omega) ?_
            exact h
          · skip
            rw [if_neg (show ¬ w = 0 from by omega)] at h
            rw [if_neg (show ¬ w = 1 from by omega)] at h
            rw [if_pos c11] at h
            refine sp_X12_late (by omega) (by omega) (hd) (hpc) (by omega) ?_
            exact h
          · skip
            rw [if_neg (show ¬ w = 0 from by omega)] at h
            rw [if_neg (show ¬ w = 1 from by omega)] at h
            rw [if_neg (show ¬ w = 2 from by omega)] at h
            rw [if_pos c11] at h
            refine sp_X12_isLost (by omega) ?_
            refine ⟨fun (c16 : (f_X12_isLost G b f n) = 0) => ?_, fun (c16 : ¬ (f_X12_isLost G b f n) = 0) => ?_⟩
            · rw [if_pos c16] at h
              exact h
            · rw [if_neg (c16)] at h
              exact h
        · rw [if_neg (Int.not_lt.mpr c10)] at h
          refine ⟨fun (c17 : 34 ≤ w) => ?_, fun (c17 : w < 34) => ?_⟩
          · rw [if_pos c17] at h
            refine ⟨fun (c18 : w < 0 ∨ 3 < w) => ?_, fun (c18 : w = 0) => ?_, fun (c18 : w = 1) => ?_, fun (c18 : w = 2) => ?_, fun (c18 : w = 3) => ?_, trivial⟩
            · skip
              rw [if_neg (show ¬ w = 0 from by omega)] at h
              rw [if_neg (show ¬ w = 1 from by omega)] at h
              rw [if_neg (show ¬ w = 2 from by omega)] at h
              rw [if_neg (show ¬ w = 3 from by omega)] at h
              exact h
            · skip
              rw [if_pos c18] at h
              refine sp_X12_days (by omega) ?_
              exact h
            · skip
              rw [if_neg (show ¬ w = 0 from by omega)] at h
              rw [if_pos c18] at h
              refine sp_X12_days (by omega) ?_
              exact h
            · skip
              rw [if_neg (show ¬ w = 0 from by omega)] at h
              rw [if_neg (show ¬ w = 1 from by omega)] at h
              rw [if_pos c18] at h
              refine sp_X12_late (by omega) (by omega) (hd) (hpc) (by omega) ?_
              exact h
            · skip
              rw [if_neg (show ¬ w = 0 from by omega)] at h
              rw [if_neg (show ¬ w = 1 from by omega)] at h
              rw [if_neg (show ¬ w = 2 from by omega)] at h
              rw [if_pos c18] at h
              refine sp_X12_isLost (by omega) ?_
              refine ⟨fun (c23 : (f_X12_isLost G b f n) = 0) => ?_, fun (c23 : ¬ (f_X12_isLost G b f n) = 0) => ?_⟩
              · rw [if_pos c23] at h
                exact h
              · rw [if_neg (c23)] at h
                exact h
          · rw [if_neg (Int.not_le.mpr c17)] at h
            refine sp_X12_shownOn (by omega) ?_
            exact h
      · rw [if_neg (fun q => q c9)] at h
        exact h
def g_X12_count_74 (G : mG) (w : Int) : Nat → Int → Int := fun j1 s1 => (if (G 104 (Int.toNat ((j1 : Nat) : Int))) = 0 then s1 else (w32 (s1 + 1)))
def f_X12_count (G : mG) (w : Int) : Int := (if w = 0 then (G 64 44) else (if w = 1 then (G 64 51) else (if w = 2 then (G 72 (Int.toNat (G 64 18))) else (if w = 3 then (G 76 (Int.toNat (G 64 18))) else (if w = 4 then (fd (g_X12_count_74 G w) 0 26) else (if w = 5 then (G 64 2) else (-1)))))))
theorem sp_X12_count {D : Nat → Bool} {d : Nat} {G : mG} {w : Int} {Q : Option mV → mG → Prop} (hl : 0 ≤ G 64 18 ∧ G 64 18 ≤ 1) (h : Q (some (mI (f_X12_count G w))) G) : P2 D (d + 1) M_X12_count [mR 69, mI w] G Q := by
  unfold f_X12_count at h
  refine p2_vc [74] 400 oo_X12 q_X12_count (by decide) rfl (Nat.le_of_ble_eq_true rfl) ?_
  refine ⟨fun (c1 : w < 0 ∨ 5 < w) => ?_, fun (c1 : w = 0) => ?_, fun (c1 : w = 1) => ?_, fun (c1 : w = 2) => ?_, fun (c1 : w = 3) => ?_, fun (c1 : w = 4) => ?_, fun (c1 : w = 5) => ?_, trivial⟩
  · skip
    rw [if_neg (show ¬ w = 0 from by omega)] at h
    rw [if_neg (show ¬ w = 1 from by omega)] at h
    rw [if_neg (show ¬ w = 2 from by omega)] at h
    rw [if_neg (show ¬ w = 3 from by omega)] at h
    rw [if_neg (show ¬ w = 4 from by omega)] at h
    rw [if_neg (show ¬ w = 5 from by omega)] at h
    exact h
  · skip
    rw [if_pos c1] at h
    exact h
  · skip
    rw [if_neg (show ¬ w = 0 from by omega)] at h
    rw [if_pos c1] at h
    exact h
  · skip
    rw [if_neg (show ¬ w = 0 from by omega)] at h
    rw [if_neg (show ¬ w = 1 from by omega)] at h
    rw [if_pos c1] at h
    refine ⟨(show 0 ≤ (G 64 18) ∧ (G 64 18) < ((2 : Nat) : Int) from by first | omega | (simp (disch := omega) only [w32_i]; omega)), ?_⟩
    exact h
  · skip
    rw [if_neg (show ¬ w = 0 from by omega)] at h
    rw [if_neg (show ¬ w = 1 from by omega)] at h
    rw [if_neg (show ¬ w = 2 from by omega)] at h
    rw [if_pos c1] at h
    refine ⟨(show 0 ≤ (G 64 18) ∧ (G 64 18) < ((2 : Nat) : Int) from by first | omega | (simp (disch := omega) only [w32_i]; omega)), ?_⟩
    exact h
  · skip
    rw [if_neg (show ¬ w = 0 from by omega)] at h
    rw [if_neg (show ¬ w = 1 from by omega)] at h
    rw [if_neg (show ¬ w = 2 from by omega)] at h
    rw [if_neg (show ¬ w = 3 from by omega)] at h
    rw [if_pos c1] at h
    refine (show W2 o_X12 M_X12_count D (d + 1) Q 74 [some (mR 69), some (mI w), some (mI 0), some (mI ((0 : Nat) : Int))] [] G from ?_)
    refine lup (g_X12_count_74 G w) 0 (fun j1 s1 => W2 o_X12 M_X12_count D (d + 1) Q 74 [some (mR 69), some (mI w), some (mI s1), some (mI ((j1 : Nat) : Int))] [] G) 26 (fun j1 s1 hj1 ih1 => ?_) ?_
    · have ih1 : W2 o_X12 M_X12_count D (d + 1) Q 74 [some (mR 69), some (mI w), some (mI (g_X12_count_74 G w j1 s1)), some (mI ((j1 + 1 : Nat) : Int))] [] G := ih1
      unfold g_X12_count_74 at ih1
      refine w2_vc [74] 400 oo_X12 q_X12_count ?_
      refine ⟨fun (c2 : 26 ≤ ((j1 : Nat) : Int)) => ?_, fun (c2 : ((j1 : Nat) : Int) < 26) => ?_⟩
      · skip
        exfalso; first | omega | (rw [w32_i (by omega) (by omega)] at c2; omega) | (simp (disch := omega) only [w32_i] at *; omega)
      · skip
        refine ⟨(show 0 ≤ ((j1 : Nat) : Int) ∧ ((j1 : Nat) : Int) < ((26 : Nat) : Int) from by first | omega | (simp (disch := omega) only [w32_i]; omega)), ?_⟩
        refine ⟨fun (c3 : (G 104 (Int.toNat ((j1 : Nat) : Int))) = 0) => ?_, fun (c3 : ¬ (G 104 (Int.toNat ((j1 : Nat) : Int))) = 0) => ?_⟩
        · rw [if_pos c3] at ih1
          refine (show W2 o_X12 M_X12_count D (d + 1) Q 74 [some (mR 69), some (mI w), some (mI s1), some (mI (w32 (((j1 : Nat) : Int) + 1)))] [] G from ?_)
          rw [w32_nat (by omega)]
          exact ih1
        · rw [if_neg (c3)] at ih1
          refine (show W2 o_X12 M_X12_count D (d + 1) Q 74 [some (mR 69), some (mI w), some (mI (w32 (s1 + 1))), some (mI (w32 (((j1 : Nat) : Int) + 1)))] [] G from ?_)
          rw [w32_nat (by omega)]
          exact ih1
    · skip
      refine (show W2 o_X12 M_X12_count D (d + 1) Q 74 [some (mR 69), some (mI w), some (mI (fd (g_X12_count_74 G w) 0 26)), some (mI ((26 : Nat) : Int))] [] G from ?_)
      refine w2_vc [74] 400 oo_X12 q_X12_count ?_
      refine ⟨fun (c4 : 26 ≤ ((26 : Nat) : Int)) => ?_, fun (c4 : ((26 : Nat) : Int) < 26) => ?_⟩
      · skip
        exact h
      · skip
        exfalso; first | omega | (rw [w32_i (by omega) (by omega)] at c4; omega) | (simp (disch := omega) only [w32_i] at *; omega)
  · skip
    rw [if_neg (show ¬ w = 0 from by omega)] at h
    rw [if_neg (show ¬ w = 1 from by omega)] at h
    rw [if_neg (show ¬ w = 2 from by omega)] at h
    rw [if_neg (show ¬ w = 3 from by omega)] at h
    rw [if_neg (show ¬ w = 4 from by omega)] at h
    rw [if_pos c1] at h
    exact h
