/-! ===== printed by wip/whole/gen20.py: more answers of loop-free methods; what they write ===== -/
theorem w32_i {x : Int} (h1 : -2147483648 ≤ x) (h2 : x < 2147483648) : w32 x = x := w32_id ⟨h1, h2⟩
theorem insub {l l2 : List Nat} (h : l2.all (inN l) = true) : ∀ k, inN l k = false → inN l2 k = false := by
  intro k hk
  cases hc : inN l2 k with
  | false => rfl
  | true =>
    have : ∀ l2 : List Nat, inN l2 k = true → k ∈ l2 := by
      intro l2
      induction l2 with
      | nil => intro h; cases h
      | cons a l2 ih =>
        intro h
        unfold inN at h
        rcases Bool.or_eq_true_iff.mp h with h | h
        · rw [Nat.eq_of_beq_eq_true h]; exact List.mem_cons_self
        · exact List.mem_cons_of_mem _ (ih h)
    have := List.all_eq_true.mp h k (this l2 hc)
    rw [hk] at this
    cases this
def r_X9_drop (G : mG) (n : Int) : Int × mG := (if n < 0 then (0, G) else (if n ≤ (G 13 1) then (1, (gs G 13 1 (w32 ((G 13 1) - n)))) else (0, G)))
theorem sp_X9_drop {D : Nat → Bool} {d : Nat} {G : mG} {n : Int} {Q : Option mV → mG → Prop} (hD : ∀ k, D k = false → inN [13] k = false) (h : Q (some (mI (r_X9_drop G n).1)) (r_X9_drop G n).2) : P2 D (d + 1) M_X9_drop [mR 18, mI n] G Q := by
  unfold r_X9_drop at h
  refine MP.to (D2 := inN [13]) (Q2 := Q) ?_ hD (fun v G' q _ => q)
  refine p2_vc [24] 200 oo_X9 q_X9_drop (by decide) rfl (Nat.le_of_ble_eq_true rfl) ?_
  refine ⟨fun (c1 : n < 0) => ?_, fun (c1 : 0 ≤ n) => ?_⟩
  · rw [if_pos c1] at h
    exact ⟨by omega, h⟩
  · rw [if_neg (by omega)] at h
    refine ⟨fun (c2 : n ≤ (G 13 1)) => ?_, fun (c2 : (G 13 1) < n) => ?_⟩
    · rw [if_pos c2] at h
      refine (show W2 o_X9 M_X9_drop (inN [13]) (d + 1) Q 24 [some (mR 18), some (mI n)] [] (gs G 13 1 (w32 ((G 13 1) - n))) from ?_)
      refine w2_vc [24] 200 oo_X9 q_X9_drop ?_
      exact ⟨by omega, h⟩
    · rw [if_neg (by omega)] at h
      exact ⟨by omega, h⟩
def r_X0_add (G : mG) (dd : Int) (q : Int) (a : Int) (m : Int) (bs : Int) : Int × mG := (if (G 1 6) < 0 then ((-1), G) else (if 9 ≤ (G 1 6) then ((-1), G) else (if (f_X0_isDistrict G dd) = 0 then ((-1), G) else (if (f_X0_isWithin G q 1 9) = 0 then ((-1), G) else (if (f_X0_isWithin G a 0 1000) = 0 then ((-1), G) else (if ¬ (f_X0_isWithin G m 0 255) = 0 then (if bs = 0 then ((w32 ((w32 ((G 1 6) + 1)) - 1)), (gs (gs (gs (gs (gs (gs G 2 (Int.toNat (G 1 6)) dd) 3 (Int.toNat (G 1 6)) q) 4 (Int.toNat (G 1 6)) a) 5 (Int.toNat (G 1 6)) m) 6 (Int.toNat (G 1 6)) 0) 1 6 (w32 ((G 1 6) + 1)))) else (if (G 1 6) ≤ 0 then ((w32 ((w32 ((G 1 6) + 1)) - 1)), (gs (gs (gs (gs (gs (gs G 2 (Int.toNat (G 1 6)) dd) 3 (Int.toNat (G 1 6)) q) 4 (Int.toNat (G 1 6)) a) 5 (Int.toNat (G 1 6)) m) 6 (Int.toNat (G 1 6)) 0) 1 6 (w32 ((G 1 6) + 1)))) else ((w32 ((w32 ((G 1 6) + 1)) - 1)), (gs (gs (gs (gs (gs (gs G 2 (Int.toNat (G 1 6)) dd) 3 (Int.toNat (G 1 6)) q) 4 (Int.toNat (G 1 6)) a) 5 (Int.toNat (G 1 6)) m) 6 (Int.toNat (G 1 6)) 1) 1 6 (w32 ((G 1 6) + 1)))))) else ((-1), G)))))))
theorem sp_X0_add {D : Nat → Bool} {d : Nat} {G : mG} {dd : Int} {q : Int} {a : Int} {m : Int} {bs : Int} {Q : Option mV → mG → Prop} (hD : ∀ k, D k = false → inN [1, 2, 3, 4, 5, 6] k = false) (h : Q (some (mI (r_X0_add G dd q a m bs).1)) (r_X0_add G dd q a m bs).2) : P2 D (d + 2) M_X0_add [mR 6, mI dd, mI q, mI a, mI m, mI bs] G Q := by
  unfold r_X0_add at h
  refine MP.to (D2 := inN [1, 2, 3, 4, 5, 6]) (Q2 := Q) ?_ hD (fun v G' q _ => q)
  refine p2_vc [68, 78, 88, 99, 125, 135] 200 oo_X0 q_X0_add (by decide) rfl (Nat.le_of_ble_eq_true rfl) ?_
  refine ⟨fun (c1 : (G 1 6) < 0) => ?_, fun (c1 : 0 ≤ (G 1 6)) => ?_⟩
  · rw [if_pos c1] at h
    exact h
  · rw [if_neg (by omega)] at h
    refine ⟨fun (c2 : 9 ≤ (G 1 6)) => ?_, fun (c2 : (G 1 6) < 9) => ?_⟩
    · rw [if_pos c2] at h
      exact h
    · rw [if_neg (by omega)] at h
      refine sp_X0_isDistrict ?_
      have c3 := fa_X0_isDistrict G dd
      refine ⟨fun (c4 : (f_X0_isDistrict G dd) = 0) => ?_, fun (c4 : ¬ (f_X0_isDistrict G dd) = 0) => ?_⟩
      · rw [if_pos c4] at h
        exact h
      · rw [if_neg (by omega)] at h
        refine sp_X0_isWithin ?_
        have c5 := fa_X0_isWithin G q 1 9
        refine ⟨fun (c6 : (f_X0_isWithin G q 1 9) = 0) => ?_, fun (c6 : ¬ (f_X0_isWithin G q 1 9) = 0) => ?_⟩
        · rw [if_pos c6] at h
          exact h
        · rw [if_neg (by omega)] at h
          refine sp_X0_isWithin ?_
          have c7 := fa_X0_isWithin G a 0 1000
          refine ⟨fun (c8 : (f_X0_isWithin G a 0 1000) = 0) => ?_, fun (c8 : ¬ (f_X0_isWithin G a 0 1000) = 0) => ?_⟩
          · rw [if_pos c8] at h
            exact h
          · rw [if_neg (by omega)] at h
            refine sp_X0_isWithin ?_
            have c9 := fa_X0_isWithin G m 0 255
            refine ⟨fun (c10 : ¬ (f_X0_isWithin G m 0 255) = 0) => ?_, fun (c10 : (f_X0_isWithin G m 0 255) = 0) => ?_⟩
            · rw [if_pos c10] at h
              refine ⟨(show 0 ≤ (G 1 6) ∧ (G 1 6) < ((9 : Nat) : Int) from by first | omega | (simp (disch := omega) only [w32_i]; omega)), ?_⟩
              refine (show W2 o_X0 M_X0_add (inN [1, 2, 3, 4, 5, 6]) (d + 2) Q 68 [some (mR 6), some (mI dd), some (mI q), some (mI a), some (mI m), some (mI bs)] [] (gs G 2 (Int.toNat (G 1 6)) dd) from ?_)
              refine w2_vc [68, 78, 88, 99, 125, 135] 200 oo_X0 q_X0_add ?_
              refine ⟨(show 0 ≤ (G 1 6) ∧ (G 1 6) < ((9 : Nat) : Int) from by first | omega | (simp (disch := omega) only [w32_i]; omega)), ?_⟩
              refine (show W2 o_X0 M_X0_add (inN [1, 2, 3, 4, 5, 6]) (d + 2) Q 78 [some (mR 6), some (mI dd), some (mI q), some (mI a), some (mI m), some (mI bs)] [] (gs (gs G 2 (Int.toNat (G 1 6)) dd) 3 (Int.toNat (G 1 6)) q) from ?_)
              refine w2_vc [68, 78, 88, 99, 125, 135] 200 oo_X0 q_X0_add ?_
              refine ⟨(show 0 ≤ (G 1 6) ∧ (G 1 6) < ((9 : Nat) : Int) from by first | omega | (simp (disch := omega) only [w32_i]; omega)), ?_⟩
              refine (show W2 o_X0 M_X0_add (inN [1, 2, 3, 4, 5, 6]) (d + 2) Q 88 [some (mR 6), some (mI dd), some (mI q), some (mI a), some (mI m), some (mI bs)] [] (gs (gs (gs G 2 (Int.toNat (G 1 6)) dd) 3 (Int.toNat (G 1 6)) q) 4 (Int.toNat (G 1 6)) a) from ?_)
              refine w2_vc [68, 78, 88, 99, 125, 135] 200 oo_X0 q_X0_add ?_
              refine ⟨(show 0 ≤ (G 1 6) ∧ (G 1 6) < ((9 : Nat) : Int) from by first | omega | (simp (disch := omega) only [w32_i]; omega)), ?_⟩
              refine (show W2 o_X0 M_X0_add (inN [1, 2, 3, 4, 5, 6]) (d + 2) Q 99 [some (mR 6), some (mI dd), some (mI q), some (mI a), some (mI m), some (mI bs)] [] (gs (gs (gs (gs G 2 (Int.toNat (G 1 6)) dd) 3 (Int.toNat (G 1 6)) q) 4 (Int.toNat (G 1 6)) a) 5 (Int.toNat (G 1 6)) m) from ?_)
              refine w2_vc [68, 78, 88, 99, 125, 135] 200 oo_X0 q_X0_add ?_
              refine ⟨fun (c11 : bs = 0) => ?_, fun (c11 : ¬ bs = 0) => ?_⟩
              · rw [if_pos c11] at h
                refine ⟨(show 0 ≤ (G 1 6) ∧ (G 1 6) < ((9 : Nat) : Int) from by first | omega | (simp (disch := omega) only [w32_i]; omega)), by omega, ?_⟩
                refine (show W2 o_X0 M_X0_add (inN [1, 2, 3, 4, 5, 6]) (d + 2) Q 125 [some (mR 6), some (mI dd), some (mI q), some (mI a), some (mI m), some (mI bs)] [] (gs (gs (gs (gs (gs G 2 (Int.toNat (G 1 6)) dd) 3 (Int.toNat (G 1 6)) q) 4 (Int.toNat (G 1 6)) a) 5 (Int.toNat (G 1 6)) m) 6 (Int.toNat (G 1 6)) 0) from ?_)
                refine w2_vc [68, 78, 88, 99, 125, 135] 200 oo_X0 q_X0_add ?_
                refine (show W2 o_X0 M_X0_add (inN [1, 2, 3, 4, 5, 6]) (d + 2) Q 135 [some (mR 6), some (mI dd), some (mI q), some (mI a), some (mI m), some (mI bs)] [] (gs (gs (gs (gs (gs (gs G 2 (Int.toNat (G 1 6)) dd) 3 (Int.toNat (G 1 6)) q) 4 (Int.toNat (G 1 6)) a) 5 (Int.toNat (G 1 6)) m) 6 (Int.toNat (G 1 6)) 0) 1 6 (w32 ((G 1 6) + 1))) from ?_)
                refine w2_vc [68, 78, 88, 99, 125, 135] 200 oo_X0 q_X0_add ?_
                exact h
              · rw [if_neg (by omega)] at h
                refine ⟨fun (c12 : (G 1 6) ≤ 0) => ?_, fun (c12 : 0 < (G 1 6)) => ?_⟩
                · rw [if_pos c12] at h
                  refine ⟨(show 0 ≤ (G 1 6) ∧ (G 1 6) < ((9 : Nat) : Int) from by first | omega | (simp (disch := omega) only [w32_i]; omega)), by omega, ?_⟩
                  refine (show W2 o_X0 M_X0_add (inN [1, 2, 3, 4, 5, 6]) (d + 2) Q 125 [some (mR 6), some (mI dd), some (mI q), some (mI a), some (mI m), some (mI bs)] [] (gs (gs (gs (gs (gs G 2 (Int.toNat (G 1 6)) dd) 3 (Int.toNat (G 1 6)) q) 4 (Int.toNat (G 1 6)) a) 5 (Int.toNat (G 1 6)) m) 6 (Int.toNat (G 1 6)) 0) from ?_)
                  refine w2_vc [68, 78, 88, 99, 125, 135] 200 oo_X0 q_X0_add ?_
                  refine (show W2 o_X0 M_X0_add (inN [1, 2, 3, 4, 5, 6]) (d + 2) Q 135 [some (mR 6), some (mI dd), some (mI q), some (mI a), some (mI m), some (mI bs)] [] (gs (gs (gs (gs (gs (gs G 2 (Int.toNat (G 1 6)) dd) 3 (Int.toNat (G 1 6)) q) 4 (Int.toNat (G 1 6)) a) 5 (Int.toNat (G 1 6)) m) 6 (Int.toNat (G 1 6)) 0) 1 6 (w32 ((G 1 6) + 1))) from ?_)
                  refine w2_vc [68, 78, 88, 99, 125, 135] 200 oo_X0 q_X0_add ?_
                  exact h
                · rw [if_neg (by omega)] at h
                  refine ⟨(show 0 ≤ (G 1 6) ∧ (G 1 6) < ((9 : Nat) : Int) from by first | omega | (simp (disch := omega) only [w32_i]; omega)), by omega, ?_⟩
                  refine (show W2 o_X0 M_X0_add (inN [1, 2, 3, 4, 5, 6]) (d + 2) Q 125 [some (mR 6), some (mI dd), some (mI q), some (mI a), some (mI m), some (mI bs)] [] (gs (gs (gs (gs (gs G 2 (Int.toNat (G 1 6)) dd) 3 (Int.toNat (G 1 6)) q) 4 (Int.toNat (G 1 6)) a) 5 (Int.toNat (G 1 6)) m) 6 (Int.toNat (G 1 6)) 1) from ?_)
                  refine w2_vc [68, 78, 88, 99, 125, 135] 200 oo_X0 q_X0_add ?_
                  refine (show W2 o_X0 M_X0_add (inN [1, 2, 3, 4, 5, 6]) (d + 2) Q 135 [some (mR 6), some (mI dd), some (mI q), some (mI a), some (mI m), some (mI bs)] [] (gs (gs (gs (gs (gs (gs G 2 (Int.toNat (G 1 6)) dd) 3 (Int.toNat (G 1 6)) q) 4 (Int.toNat (G 1 6)) a) 5 (Int.toNat (G 1 6)) m) 6 (Int.toNat (G 1 6)) 1) 1 6 (w32 ((G 1 6) + 1))) from ?_)
                  refine w2_vc [68, 78, 88, 99, 125, 135] 200 oo_X0 q_X0_add ?_
                  exact h
            · rw [if_neg (by omega)] at h
              exact h
def r_X0_setPace (G : mG) (dd : Int) (v : Int) : Int × mG := (if (f_X0_isDistrict G dd) = 0 then (0, G) else (if ¬ (f_X0_isWithin G v 1 9) = 0 then (1, (gs G 7 (Int.toNat dd) v)) else (0, G)))
theorem sp_X0_setPace {D : Nat → Bool} {d : Nat} {G : mG} {dd : Int} {v : Int} {Q : Option mV → mG → Prop} (hD : ∀ k, D k = false → inN [7] k = false) (h : Q (some (mI (r_X0_setPace G dd v).1)) (r_X0_setPace G dd v).2) : P2 D (d + 2) M_X0_setPace [mR 6, mI dd, mI v] G Q := by
  unfold r_X0_setPace at h
  refine MP.to (D2 := inN [7]) (Q2 := Q) ?_ hD (fun v G' q _ => q)
  refine p2_vc [26] 200 oo_X0 q_X0_setPace (by decide) rfl (Nat.le_of_ble_eq_true rfl) ?_
  refine sp_X0_isDistrict ?_
  have c1 := fa_X0_isDistrict G dd
  refine ⟨fun (c2 : (f_X0_isDistrict G dd) = 0) => ?_, fun (c2 : ¬ (f_X0_isDistrict G dd) = 0) => ?_⟩
  · rw [if_pos c2] at h
    exact ⟨by omega, h⟩
  · rw [if_neg (by omega)] at h
    refine sp_X0_isWithin ?_
    have c3 := fa_X0_isWithin G v 1 9
    refine ⟨fun (c4 : ¬ (f_X0_isWithin G v 1 9) = 0) => ?_, fun (c4 : (f_X0_isWithin G v 1 9) = 0) => ?_⟩
    · rw [if_pos c4] at h
      refine ⟨(show 0 ≤ dd ∧ dd < ((6 : Nat) : Int) from by first | omega | (simp (disch := omega) only [w32_i]; omega)), ?_⟩
      refine (show W2 o_X0 M_X0_setPace (inN [7]) (d + 2) Q 26 [some (mR 6), some (mI dd), some (mI v)] [] (gs G 7 (Int.toNat dd) v) from ?_)
      refine w2_vc [26] 200 oo_X0 q_X0_setPace ?_
      exact ⟨by omega, h⟩
    · rw [if_neg (by omega)] at h
      exact ⟨by omega, h⟩
def f_X0_paceOf (G : mG) (dd : Int) : Int := (if (f_X0_isDistrict G dd) = 0 then 3 else (G 7 (Int.toNat dd)))
theorem sp_X0_paceOf {D : Nat → Bool} {d : Nat} {G : mG} {dd : Int} {Q : Option mV → mG → Prop} (h : Q (some (mI (f_X0_paceOf G dd))) G) : P2 D (d + 2) M_X0_paceOf [mR 6, mI dd] G Q := by
  unfold f_X0_paceOf at h
  refine p2_vc [] 200 oo_X0 q_X0_paceOf (by decide) rfl (Nat.le_of_ble_eq_true rfl) ?_
  refine sp_X0_isDistrict ?_
  have c1 := fa_X0_isDistrict G dd
  refine ⟨fun (c2 : (f_X0_isDistrict G dd) = 0) => ?_, fun (c2 : ¬ (f_X0_isDistrict G dd) = 0) => ?_⟩
  · rw [if_pos c2] at h
    exact h
  · rw [if_neg (by omega)] at h
    refine ⟨(show 0 ≤ dd ∧ dd < ((6 : Nat) : Int) from by first | omega | (simp (disch := omega) only [w32_i]; omega)), ?_⟩
    exact h
def r_X3_add (G : mG) (kd : Int) (b : Int) (f : Int) (dy : Int) : Int × mG := (if ¬ kd = 4 then (if (G 8 4) < 0 then ((-1), G) else (if 300 ≤ (G 8 4) then ((-1), G) else (if kd < 0 then ((-1), G) else (if 4 < kd then ((-1), G) else (if (f_X11_isFortnight G f) = 0 then ((-1), G) else (if dy < 0 then ((-1), G) else (if dy ≤ 13 then ((w32 ((w32 ((G 8 4) + 1)) - 1)), (gs (gs (gs (gs (gs G 9 (Int.toNat (G 8 4)) kd) 10 (Int.toNat (G 8 4)) b) 11 (Int.toNat (G 8 4)) f) 12 (Int.toNat (G 8 4)) dy) 8 4 (w32 ((G 8 4) + 1)))) else ((-1), G)))))))) else (if (G 8 4) < 0 then ((-1), G) else (if 300 ≤ (G 8 4) then ((-1), G) else (if kd < 0 then ((-1), G) else (if 4 < kd then ((-1), G) else (if (f_X11_isFortnight G f) = 0 then ((-1), G) else (if dy < 0 then ((-1), G) else (if dy ≤ 0 then ((w32 ((w32 ((G 8 4) + 1)) - 1)), (gs (gs (gs (gs (gs G 9 (Int.toNat (G 8 4)) kd) 10 (Int.toNat (G 8 4)) b) 11 (Int.toNat (G 8 4)) f) 12 (Int.toNat (G 8 4)) dy) 8 4 (w32 ((G 8 4) + 1)))) else ((-1), G)))))))))
theorem sp_X3_add {D : Nat → Bool} {d : Nat} {G : mG} {kd : Int} {b : Int} {f : Int} {dy : Int} {Q : Option mV → mG → Prop} (hD : ∀ k, D k = false → inN [8, 9, 10, 11, 12] k = false) (h : Q (some (mI (r_X3_add G kd b f dy).1)) (r_X3_add G kd b f dy).2) : P2 D (d + 2) M_X3_add [mR 13, mI kd, mI b, mI f, mI dy] G Q := by
  unfold r_X3_add at h
  refine MP.to (D2 := inN [8, 9, 10, 11, 12]) (Q2 := Q) ?_ hD (fun v G' q _ => q)
  refine p2_vc [70, 80, 90, 101, 111] 200 oo_X3 q_X3_add (by decide) rfl (Nat.le_of_ble_eq_true rfl) ?_
  refine ⟨fun (c1 : ¬ kd = 4) => ?_, fun (c1 : kd = 4) => ?_⟩
  · rw [if_pos c1] at h
    refine ⟨fun (c2 : (G 8 4) < 0) => ?_, fun (c2 : 0 ≤ (G 8 4)) => ?_⟩
    · rw [if_pos c2] at h
      exact h
    · rw [if_neg (by omega)] at h
      refine ⟨fun (c3 : 300 ≤ (G 8 4)) => ?_, fun (c3 : (G 8 4) < 300) => ?_⟩
      · rw [if_pos c3] at h
        exact h
      · rw [if_neg (by omega)] at h
        refine ⟨fun (c4 : kd < 0) => ?_, fun (c4 : 0 ≤ kd) => ?_⟩
        · rw [if_pos c4] at h
          exact h
        · rw [if_neg (by omega)] at h
          refine ⟨fun (c5 : 4 < kd) => ?_, fun (c5 : kd ≤ 4) => ?_⟩
          · rw [if_pos c5] at h
            exact h
          · rw [if_neg (by omega)] at h
            refine sp_X11_isFortnight ?_
            have c6 := fa_X11_isFortnight G f
            refine ⟨fun (c7 : (f_X11_isFortnight G f) = 0) => ?_, fun (c7 : ¬ (f_X11_isFortnight G f) = 0) => ?_⟩
            · rw [if_pos c7] at h
              exact h
            · rw [if_neg (by omega)] at h
              refine ⟨fun (c8 : dy < 0) => ?_, fun (c8 : 0 ≤ dy) => ?_⟩
              · rw [if_pos c8] at h
                exact h
              · rw [if_neg (by omega)] at h
                refine ⟨fun (c9 : dy ≤ 13) => ?_, fun (c9 : 13 < dy) => ?_⟩
                · rw [if_pos c9] at h
                  refine ⟨(show 0 ≤ (G 8 4) ∧ (G 8 4) < ((300 : Nat) : Int) from by first | omega | (simp (disch := omega) only [w32_i]; omega)), ?_⟩
                  refine (show W2 o_X3 M_X3_add (inN [8, 9, 10, 11, 12]) (d + 2) Q 70 [some (mR 13), some (mI kd), some (mI b), some (mI f), some (mI dy), some (mI 13)] [] (gs G 9 (Int.toNat (G 8 4)) kd) from ?_)
                  refine w2_vc [70, 80, 90, 101, 111] 200 oo_X3 q_X3_add ?_
                  refine ⟨(show 0 ≤ (G 8 4) ∧ (G 8 4) < ((300 : Nat) : Int) from by first | omega | (simp (disch := omega) only [w32_i]; omega)), ?_⟩
                  refine (show W2 o_X3 M_X3_add (inN [8, 9, 10, 11, 12]) (d + 2) Q 80 [some (mR 13), some (mI kd), some (mI b), some (mI f), some (mI dy), some (mI 13)] [] (gs (gs G 9 (Int.toNat (G 8 4)) kd) 10 (Int.toNat (G 8 4)) b) from ?_)
                  refine w2_vc [70, 80, 90, 101, 111] 200 oo_X3 q_X3_add ?_
                  refine ⟨(show 0 ≤ (G 8 4) ∧ (G 8 4) < ((300 : Nat) : Int) from by first | omega | (simp (disch := omega) only [w32_i]; omega)), ?_⟩
                  refine (show W2 o_X3 M_X3_add (inN [8, 9, 10, 11, 12]) (d + 2) Q 90 [some (mR 13), some (mI kd), some (mI b), some (mI f), some (mI dy), some (mI 13)] [] (gs (gs (gs G 9 (Int.toNat (G 8 4)) kd) 10 (Int.toNat (G 8 4)) b) 11 (Int.toNat (G 8 4)) f) from ?_)
                  refine w2_vc [70, 80, 90, 101, 111] 200 oo_X3 q_X3_add ?_
                  refine ⟨(show 0 ≤ (G 8 4) ∧ (G 8 4) < ((300 : Nat) : Int) from by first | omega | (simp (disch := omega) only [w32_i]; omega)), ?_⟩
                  refine (show W2 o_X3 M_X3_add (inN [8, 9, 10, 11, 12]) (d + 2) Q 101 [some (mR 13), some (mI kd), some (mI b), some (mI f), some (mI dy), some (mI 13)] [] (gs (gs (gs (gs G 9 (Int.toNat (G 8 4)) kd) 10 (Int.toNat (G 8 4)) b) 11 (Int.toNat (G 8 4)) f) 12 (Int.toNat (G 8 4)) dy) from ?_)
                  refine w2_vc [70, 80, 90, 101, 111] 200 oo_X3 q_X3_add ?_
                  refine (show W2 o_X3 M_X3_add (inN [8, 9, 10, 11, 12]) (d + 2) Q 111 [some (mR 13), some (mI kd), some (mI b), some (mI f), some (mI dy), some (mI 13)] [] (gs (gs (gs (gs (gs G 9 (Int.toNat (G 8 4)) kd) 10 (Int.toNat (G 8 4)) b) 11 (Int.toNat (G 8 4)) f) 12 (Int.toNat (G 8 4)) dy) 8 4 (w32 ((G 8 4) + 1))) from ?_)
                  refine w2_vc [70, 80, 90, 101, 111] 200 oo_X3 q_X3_add ?_
                  exact h
                · rw [if_neg (by omega)] at h
                  exact h
  · rw [if_neg (by omega)] at h
    refine ⟨fun (c10 : (G 8 4) < 0) => ?_, fun (c10 : 0 ≤ (G 8 4)) => ?_⟩
    · rw [if_pos c10] at h
      exact h
    · rw [if_neg (by omega)] at h
      refine ⟨fun (c11 : 300 ≤ (G 8 4)) => ?_, fun (c11 : (G 8 4) < 300) => ?_⟩
      · rw [if_pos c11] at h
        exact h
      · rw [if_neg (by omega)] at h
        refine ⟨fun (c12 : kd < 0) => ?_, fun (c12 : 0 ≤ kd) => ?_⟩
        · rw [if_pos c12] at h
          exact h
        · rw [if_neg (by omega)] at h
          refine ⟨fun (c13 : 4 < kd) => ?_, fun (c13 : kd ≤ 4) => ?_⟩
          · rw [if_pos c13] at h
            exact h
          · rw [if_neg (by omega)] at h
            refine sp_X11_isFortnight ?_
            have c14 := fa_X11_isFortnight G f
            refine ⟨fun (c15 : (f_X11_isFortnight G f) = 0) => ?_, fun (c15 : ¬ (f_X11_isFortnight G f) = 0) => ?_⟩
            · rw [if_pos c15] at h
              exact h
            · rw [if_neg (by omega)] at h
              refine ⟨fun (c16 : dy < 0) => ?_, fun (c16 : 0 ≤ dy) => ?_⟩
              · rw [if_pos c16] at h
                exact h
              · rw [if_neg (by omega)] at h
                refine ⟨fun (c17 : dy ≤ 0) => ?_, fun (c17 : 0 < dy) => ?_⟩
                · rw [if_pos c17] at h
                  refine ⟨(show 0 ≤ (G 8 4) ∧ (G 8 4) < ((300 : Nat) : Int) from by first | omega | (simp (disch := omega) only [w32_i]; omega)), ?_⟩
                  refine (show W2 o_X3 M_X3_add (inN [8, 9, 10, 11, 12]) (d + 2) Q 70 [some (mR 13), some (mI kd), some (mI b), some (mI f), some (mI dy), some (mI 0)] [] (gs G 9 (Int.toNat (G 8 4)) kd) from ?_)
                  refine w2_vc [70, 80, 90, 101, 111] 200 oo_X3 q_X3_add ?_
                  refine ⟨(show 0 ≤ (G 8 4) ∧ (G 8 4) < ((300 : Nat) : Int) from by first | omega | (simp (disch := omega) only [w32_i]; omega)), ?_⟩
                  refine (show W2 o_X3 M_X3_add (inN [8, 9, 10, 11, 12]) (d + 2) Q 80 [some (mR 13), some (mI kd), some (mI b), some (mI f), some (mI dy), some (mI 0)] [] (gs (gs G 9 (Int.toNat (G 8 4)) kd) 10 (Int.toNat (G 8 4)) b) from ?_)
                  refine w2_vc [70, 80, 90, 101, 111] 200 oo_X3 q_X3_add ?_
                  refine ⟨(show 0 ≤ (G 8 4) ∧ (G 8 4) < ((300 : Nat) : Int) from by first | omega | (simp (disch := omega) only [w32_i]; omega)), ?_⟩
                  refine (show W2 o_X3 M_X3_add (inN [8, 9, 10, 11, 12]) (d + 2) Q 90 [some (mR 13), some (mI kd), some (mI b), some (mI f), some (mI dy), some (mI 0)] [] (gs (gs (gs G 9 (Int.toNat (G 8 4)) kd) 10 (Int.toNat (G 8 4)) b) 11 (Int.toNat (G 8 4)) f) from ?_)
                  refine w2_vc [70, 80, 90, 101, 111] 200 oo_X3 q_X3_add ?_
                  refine ⟨(show 0 ≤ (G 8 4) ∧ (G 8 4) < ((300 : Nat) : Int) from by first | omega | (simp (disch := omega) only [w32_i]; omega)), ?_⟩
                  refine (show W2 o_X3 M_X3_add (inN [8, 9, 10, 11, 12]) (d + 2) Q 101 [some (mR 13), some (mI kd), some (mI b), some (mI f), some (mI dy), some (mI 0)] [] (gs (gs (gs (gs G 9 (Int.toNat (G 8 4)) kd) 10 (Int.toNat (G 8 4)) b) 11 (Int.toNat (G 8 4)) f) 12 (Int.toNat (G 8 4)) dy) from ?_)
                  refine w2_vc [70, 80, 90, 101, 111] 200 oo_X3 q_X3_add ?_
                  refine (show W2 o_X3 M_X3_add (inN [8, 9, 10, 11, 12]) (d + 2) Q 111 [some (mR 13), some (mI kd), some (mI b), some (mI f), some (mI dy), some (mI 0)] [] (gs (gs (gs (gs (gs G 9 (Int.toNat (G 8 4)) kd) 10 (Int.toNat (G 8 4)) b) 11 (Int.toNat (G 8 4)) f) 12 (Int.toNat (G 8 4)) dy) 8 4 (w32 ((G 8 4) + 1))) from ?_)
                  refine w2_vc [70, 80, 90, 101, 111] 200 oo_X3 q_X3_add ?_
                  exact h
                · rw [if_neg (by omega)] at h
                  exact h
def f_X4_isMade (G : mG) (f : Int) : Int := (if (f_X11_isFortnight G f) = 0 then 0 else (if (G 23 (Int.toNat f)) = 0 then 0 else 1))
theorem sp_X4_isMade {D : Nat → Bool} {d : Nat} {G : mG} {f : Int} {Q : Option mV → mG → Prop} (h : Q (some (mI (f_X4_isMade G f))) G) : P2 D (d + 2) M_X4_isMade [mR 26, mI f] G Q := by
  unfold f_X4_isMade at h
  refine p2_vc [] 200 oo_X4 q_X4_isMade (by decide) rfl (Nat.le_of_ble_eq_true rfl) ?_
  refine sp_X11_isFortnight ?_
  have c1 := fa_X11_isFortnight G f
  refine ⟨fun (c2 : (f_X11_isFortnight G f) = 0) => ?_, fun (c2 : ¬ (f_X11_isFortnight G f) = 0) => ?_⟩
  · rw [if_pos c2] at h
    exact ⟨by omega, h⟩
  · rw [if_neg (by omega)] at h
    refine ⟨(show 0 ≤ f ∧ f < ((26 : Nat) : Int) from by first | omega | (simp (disch := omega) only [w32_i]; omega)), ?_⟩
    refine ⟨fun (c3 : (G 23 (Int.toNat f)) = 0) => ?_, fun (c3 : ¬ (G 23 (Int.toNat f)) = 0) => ?_⟩
    · rw [if_pos c3] at h
      exact ⟨by omega, h⟩
    · rw [if_neg (by omega)] at h
      exact ⟨by omega, h⟩
def e_X4_setMade (G : mG) (f : Int) : mG := (if (f_X11_isFortnight G f) = 0 then G else (gs G 23 (Int.toNat f) 1))
theorem sp_X4_setMade {D : Nat → Bool} {d : Nat} {G : mG} {f : Int} {Q : Option mV → mG → Prop} (hD : ∀ k, D k = false → inN [23] k = false) (h : Q none (e_X4_setMade G f)) : P2 D (d + 2) M_X4_setMade [mR 26, mI f] G Q := by
  unfold e_X4_setMade at h
  refine MP.to (D2 := inN [23]) (Q2 := Q) ?_ hD (fun v G' q _ => q)
  refine p2_vc [14] 200 oo_X4 q_X4_setMade (by decide) rfl (Nat.le_of_ble_eq_true rfl) ?_
  refine sp_X11_isFortnight ?_
  have c1 := fa_X11_isFortnight G f
  refine ⟨fun (c2 : (f_X11_isFortnight G f) = 0) => ?_, fun (c2 : ¬ (f_X11_isFortnight G f) = 0) => ?_⟩
  · rw [if_pos c2] at h
    refine (show W2 o_X4 M_X4_setMade (inN [23]) (d + 2) Q 14 [some (mR 26), some (mI f)] [] G from ?_)
    refine w2_vc [14] 200 oo_X4 q_X4_setMade ?_
    exact h
  · rw [if_neg (by omega)] at h
    refine ⟨(show 0 ≤ f ∧ f < ((26 : Nat) : Int) from by first | omega | (simp (disch := omega) only [w32_i]; omega)), by omega, ?_⟩
    refine (show W2 o_X4 M_X4_setMade (inN [23]) (d + 2) Q 14 [some (mR 26), some (mI f)] [] (gs G 23 (Int.toNat f) 1) from ?_)
    refine w2_vc [14] 200 oo_X4 q_X4_setMade ?_
    exact h
def f_X4_hasRow (G : mG) (b : Int) (f : Int) : Int := (if b < 0 then 0 else (if 9 ≤ b then 0 else (if (f_X11_isFortnight G f) = 0 then 0 else 1)))
theorem sp_X4_hasRow {D : Nat → Bool} {d : Nat} {G : mG} {b : Int} {f : Int} {Q : Option mV → mG → Prop} (h : Q (some (mI (f_X4_hasRow G b f))) G) : P2 D (d + 2) M_X4_hasRow [mI b, mI f] G Q := by
  unfold f_X4_hasRow at h
  refine p2_vc [] 200 oo_X4 q_X4_hasRow (by decide) rfl (Nat.le_of_ble_eq_true rfl) ?_
  refine ⟨fun (c1 : b < 0) => ?_, fun (c1 : 0 ≤ b) => ?_⟩
  · rw [if_pos c1] at h
    exact ⟨by omega, h⟩
  · rw [if_neg (by omega)] at h
    refine ⟨fun (c2 : 9 ≤ b) => ?_, fun (c2 : b < 9) => ?_⟩
    · rw [if_pos c2] at h
      exact ⟨by omega, h⟩
    · rw [if_neg (by omega)] at h
      refine sp_X11_isFortnight ?_
      have c3 := fa_X11_isFortnight G f
      refine ⟨fun (c4 : (f_X11_isFortnight G f) = 0) => ?_, fun (c4 : ¬ (f_X11_isFortnight G f) = 0) => ?_⟩
      · rw [if_pos c4] at h
        exact ⟨by omega, h⟩
      · rw [if_neg (by omega)] at h
        exact ⟨by omega, h⟩
theorem fa_X4_hasRow (G : mG) (b f : Int) : (f_X4_hasRow G b f = 1 ∧ 0 ≤ b ∧ b < 9 ∧ 0 ≤ f ∧ f < 26) ∨ (f_X4_hasRow G b f = 0 ∧ ¬ (0 ≤ b ∧ b < 9 ∧ 0 ≤ f ∧ f < 26)) := by
  have := fa_X11_isFortnight G f
  unfold f_X4_hasRow
  repeat' split
  all_goals omega
def f_X4_clauseOf (G : mG) (b : Int) (f : Int) : Int := (if (f_X4_hasRow G b f) = 0 then (-1) else (G 22 (Int.toNat (w32 ((w32 (f * 9)) + b)))))
theorem sp_X4_clauseOf {D : Nat → Bool} {d : Nat} {G : mG} {b : Int} {f : Int} {Q : Option mV → mG → Prop} (h : Q (some (mI (f_X4_clauseOf G b f))) G) : P2 D (d + 3) M_X4_clauseOf [mR 26, mI b, mI f] G Q := by
  unfold f_X4_clauseOf at h
  refine p2_vc [] 200 oo_X4 q_X4_clauseOf (by decide) rfl (Nat.le_of_ble_eq_true rfl) ?_
  refine sp_X4_hasRow ?_
  have c1 := fa_X4_hasRow G b f
  refine ⟨fun (c2 : (f_X4_hasRow G b f) = 0) => ?_, fun (c2 : ¬ (f_X4_hasRow G b f) = 0) => ?_⟩
  · rw [if_pos c2] at h
    exact h
  · rw [if_neg (by omega)] at h
    refine ⟨(show 0 ≤ (w32 ((w32 (f * 9)) + b)) ∧ (w32 ((w32 (f * 9)) + b)) < ((234 : Nat) : Int) from by first | omega | (simp (disch := omega) only [w32_i]; omega)), ?_⟩
    exact h
def e_X4_set (G : mG) (b : Int) (f : Int) (v : Int) : mG := (if (f_X4_hasRow G b f) = 0 then G else (gs G 22 (Int.toNat (w32 ((w32 (f * 9)) + b))) v))
theorem sp_X4_set {D : Nat → Bool} {d : Nat} {G : mG} {b : Int} {f : Int} {v : Int} {Q : Option mV → mG → Prop} (hD : ∀ k, D k = false → inN [22] k = false) (h : Q none (e_X4_set G b f v)) : P2 D (d + 3) M_X4_set [mR 26, mI b, mI f, mI v] G Q := by
  unfold e_X4_set at h
  refine MP.to (D2 := inN [22]) (Q2 := Q) ?_ hD (fun v G' q _ => q)
  refine p2_vc [20] 200 oo_X4 q_X4_set (by decide) rfl (Nat.le_of_ble_eq_true rfl) ?_
  refine sp_X4_hasRow ?_
  have c1 := fa_X4_hasRow G b f
  refine ⟨fun (c2 : (f_X4_hasRow G b f) = 0) => ?_, fun (c2 : ¬ (f_X4_hasRow G b f) = 0) => ?_⟩
  · rw [if_pos c2] at h
    refine (show W2 o_X4 M_X4_set (inN [22]) (d + 3) Q 20 [some (mR 26), some (mI b), some (mI f), some (mI v)] [] G from ?_)
    refine w2_vc [20] 200 oo_X4 q_X4_set ?_
    exact h
  · rw [if_neg (by omega)] at h
    refine ⟨(show 0 ≤ (w32 ((w32 (f * 9)) + b)) ∧ (w32 ((w32 (f * 9)) + b)) < ((234 : Nat) : Int) from by first | omega | (simp (disch := omega) only [w32_i]; omega)), ?_⟩
    refine (show W2 o_X4 M_X4_set (inN [22]) (d + 3) Q 20 [some (mR 26), some (mI b), some (mI f), some (mI v)] [] (gs G 22 (Int.toNat (w32 ((w32 (f * 9)) + b))) v) from ?_)
    refine w2_vc [20] 200 oo_X4 q_X4_set ?_
    exact h
def f_X2_firstHung (G : mG) : Int := (G 26 2)
theorem sp_X2_firstHung {D : Nat → Bool} {d : Nat} {G : mG} {Q : Option mV → mG → Prop} (h : Q (some (mI (f_X2_firstHung G ))) G) : P2 D (d + 1) M_X2_firstHung [mR 31] G Q := by
  unfold f_X2_firstHung at h
  refine p2_vc [] 200 oo_X2 q_X2_firstHung (by decide) rfl (Nat.le_of_ble_eq_true rfl) ?_
  exact h
def f_X2_lookOn (G : mG) (dy : Int) : Int := (if dy < 0 then (-1) else (if 14 ≤ dy then (-1) else (G 28 (Int.toNat dy))))
theorem sp_X2_lookOn {D : Nat → Bool} {d : Nat} {G : mG} {dy : Int} {Q : Option mV → mG → Prop} (h : Q (some (mI (f_X2_lookOn G dy))) G) : P2 D (d + 1) M_X2_lookOn [mR 31, mI dy] G Q := by
  unfold f_X2_lookOn at h
  refine p2_vc [] 200 oo_X2 q_X2_lookOn (by decide) rfl (Nat.le_of_ble_eq_true rfl) ?_
  refine ⟨fun (c1 : dy < 0) => ?_, fun (c1 : 0 ≤ dy) => ?_⟩
  · rw [if_pos c1] at h
    exact h
  · rw [if_neg (by omega)] at h
    refine ⟨fun (c2 : 14 ≤ dy) => ?_, fun (c2 : dy < 14) => ?_⟩
    · rw [if_pos c2] at h
      exact h
    · rw [if_neg (by omega)] at h
      refine ⟨(show 0 ≤ dy ∧ dy < ((14 : Nat) : Int) from by first | omega | (simp (disch := omega) only [w32_i]; omega)), ?_⟩
      exact h
def e_X2_learn (G : mG) (kd : Int) (dy : Int) : mG := (if ¬ kd = 0 then (if kd = 4 then G else (if dy < 0 then G else (if 14 ≤ dy then G else (gs G 27 (Int.toNat dy) kd)))) else (gs G 26 2 (mMin (G 26 2) dy)))
theorem sp_X2_learn {D : Nat → Bool} {d : Nat} {G : mG} {kd : Int} {dy : Int} {Q : Option mV → mG → Prop} (hD : ∀ k, D k = false → inN [26, 27] k = false) (h : Q none (e_X2_learn G kd dy)) : P2 D (d + 2) M_X2_learn [mR 31, mI kd, mI dy] G Q := by
  unfold e_X2_learn at h
  refine MP.to (D2 := inN [26, 27]) (Q2 := Q) ?_ hD (fun v G' q _ => q)
  refine p2_vc [16, 41] 200 oo_X2 q_X2_learn (by decide) rfl (Nat.le_of_ble_eq_true rfl) ?_
  refine ⟨fun (c1 : ¬ kd = 0) => ?_, fun (c1 : kd = 0) => ?_⟩
  · rw [if_pos c1] at h
    refine ⟨fun (c2 : kd = 4) => ?_, fun (c2 : ¬ kd = 4) => ?_⟩
    · rw [if_pos c2] at h
      refine (show W2 o_X2 M_X2_learn (inN [26, 27]) (d + 2) Q 41 [some (mR 31), some (mI kd), some (mI dy)] [] G from ?_)
      refine w2_vc [16, 41] 200 oo_X2 q_X2_learn ?_
      exact h
    · rw [if_neg (by omega)] at h
      refine ⟨fun (c3 : dy < 0) => ?_, fun (c3 : 0 ≤ dy) => ?_⟩
      · rw [if_pos c3] at h
        refine (show W2 o_X2 M_X2_learn (inN [26, 27]) (d + 2) Q 41 [some (mR 31), some (mI kd), some (mI dy)] [] G from ?_)
        refine w2_vc [16, 41] 200 oo_X2 q_X2_learn ?_
        exact h
      · rw [if_neg (by omega)] at h
        refine ⟨fun (c4 : 14 ≤ dy) => ?_, fun (c4 : dy < 14) => ?_⟩
        · rw [if_pos c4] at h
          refine (show W2 o_X2 M_X2_learn (inN [26, 27]) (d + 2) Q 41 [some (mR 31), some (mI kd), some (mI dy)] [] G from ?_)
          refine w2_vc [16, 41] 200 oo_X2 q_X2_learn ?_
          exact h
        · rw [if_neg (by omega)] at h
          refine ⟨(show 0 ≤ dy ∧ dy < ((14 : Nat) : Int) from by first | omega | (simp (disch := omega) only [w32_i]; omega)), ?_⟩
          refine (show W2 o_X2 M_X2_learn (inN [26, 27]) (d + 2) Q 41 [some (mR 31), some (mI kd), some (mI dy)] [] (gs G 27 (Int.toNat dy) kd) from ?_)
          refine w2_vc [16, 41] 200 oo_X2 q_X2_learn ?_
          exact h
  · rw [if_neg (by omega)] at h
    refine (show W2 o_X2 M_X2_learn (inN [26, 27]) (d + 2) Q 16 [some (mR 31), some (mI kd), some (mI dy)] [] (gs G 26 2 (mMin (G 26 2) dy)) from ?_)
    refine w2_vc [16, 41] 200 oo_X2 q_X2_learn ?_
    refine (show W2 o_X2 M_X2_learn (inN [26, 27]) (d + 2) Q 41 [some (mR 31), some (mI kd), some (mI dy)] [] (gs G 26 2 (mMin (G 26 2) dy)) from ?_)
    refine w2_vc [16, 41] 200 oo_X2 q_X2_learn ?_
    exact h
def f_X10_kind (G : mG) : Int := (G 20 2)
theorem sp_X10_kind {D : Nat → Bool} {d : Nat} {G : mG} {Q : Option mV → mG → Prop} (h : Q (some (mI (f_X10_kind G ))) G) : P2 D (d + 1) M_X10_kind [mR 25] G Q := by
  unfold f_X10_kind at h
  refine p2_vc [] 200 oo_X10 q_X10_kind (by decide) rfl (Nat.le_of_ble_eq_true rfl) ?_
  exact h
def f_X10_start (G : mG) : Int := (G 20 3)
theorem sp_X10_start {D : Nat → Bool} {d : Nat} {G : mG} {Q : Option mV → mG → Prop} (h : Q (some (mI (f_X10_start G ))) G) : P2 D (d + 1) M_X10_start [mR 25] G Q := by
  unfold f_X10_start at h
  refine p2_vc [] 200 oo_X10 q_X10_start (by decide) rfl (Nat.le_of_ble_eq_true rfl) ?_
  exact h
def f_X10_number (G : mG) : Int := (G 20 4)
theorem sp_X10_number {D : Nat → Bool} {d : Nat} {G : mG} {Q : Option mV → mG → Prop} (h : Q (some (mI (f_X10_number G ))) G) : P2 D (d + 1) M_X10_number [mR 25] G Q := by
  unfold f_X10_number at h
  refine p2_vc [] 200 oo_X10 q_X10_number (by decide) rfl (Nat.le_of_ble_eq_true rfl) ?_
  exact h
def e_X10_rewind (G : mG) : mG := (gs G 20 1 0)
theorem sp_X10_rewind {D : Nat → Bool} {d : Nat} {G : mG} {Q : Option mV → mG → Prop} (hD : ∀ k, D k = false → inN [20] k = false) (h : Q none (e_X10_rewind G )) : P2 D (d + 1) M_X10_rewind [mR 25] G Q := by
  unfold e_X10_rewind at h
  refine MP.to (D2 := inN [20]) (Q2 := Q) ?_ hD (fun v G' q _ => q)
  refine p2_vc [5] 200 oo_X10 q_X10_rewind (by decide) rfl (Nat.le_of_ble_eq_true rfl) ?_
  refine (show W2 o_X10 M_X10_rewind (inN [20]) (d + 1) Q 5 [some (mR 25)] [] (gs G 20 1 0) from ?_)
  refine w2_vc [5] 200 oo_X10 q_X10_rewind ?_
  exact h
def f_X10_isBlank (G : mG) (x : Int) : Int := (if x = 9 then 1 else (if x = 10 then 1 else (if x = 13 then 1 else (if ¬ x = 32 then 0 else 1))))
theorem sp_X10_isBlank {D : Nat → Bool} {d : Nat} {G : mG} {x : Int} {Q : Option mV → mG → Prop} (h : Q (some (mI (f_X10_isBlank G x))) G) : P2 D (d + 1) M_X10_isBlank [mI x] G Q := by
  unfold f_X10_isBlank at h
  refine p2_vc [] 200 oo_X10 q_X10_isBlank (by decide) rfl (Nat.le_of_ble_eq_true rfl) ?_
  refine ⟨fun (c1 : x = 9) => ?_, fun (c1 : ¬ x = 9) => ?_⟩
  · rw [if_pos c1] at h
    exact ⟨by omega, h⟩
  · rw [if_neg (by omega)] at h
    refine ⟨fun (c2 : x = 10) => ?_, fun (c2 : ¬ x = 10) => ?_⟩
    · rw [if_pos c2] at h
      exact ⟨by omega, h⟩
    · rw [if_neg (by omega)] at h
      refine ⟨fun (c3 : x = 13) => ?_, fun (c3 : ¬ x = 13) => ?_⟩
      · rw [if_pos c3] at h
        exact ⟨by omega, h⟩
      · rw [if_neg (by omega)] at h
        refine ⟨fun (c4 : ¬ x = 32) => ?_, fun (c4 : x = 32) => ?_⟩
        · rw [if_pos c4] at h
          exact ⟨by omega, h⟩
        · rw [if_neg (by omega)] at h
          exact ⟨by omega, h⟩
def f_X10_isLetter (G : mG) (x : Int) : Int := (if x < 97 then 0 else (if 122 < x then 0 else 1))
theorem sp_X10_isLetter {D : Nat → Bool} {d : Nat} {G : mG} {x : Int} {Q : Option mV → mG → Prop} (h : Q (some (mI (f_X10_isLetter G x))) G) : P2 D (d + 1) M_X10_isLetter [mI x] G Q := by
  unfold f_X10_isLetter at h
  refine p2_vc [] 200 oo_X10 q_X10_isLetter (by decide) rfl (Nat.le_of_ble_eq_true rfl) ?_
  refine ⟨fun (c1 : x < 97) => ?_, fun (c1 : 97 ≤ x) => ?_⟩
  · rw [if_pos c1] at h
    exact ⟨by omega, h⟩
  · rw [if_neg (by omega)] at h
    refine ⟨fun (c2 : 122 < x) => ?_, fun (c2 : x ≤ 122) => ?_⟩
    · rw [if_pos c2] at h
      exact ⟨by omega, h⟩
    · rw [if_neg (by omega)] at h
      exact ⟨by omega, h⟩
def f_X10_isDigit (G : mG) (x : Int) : Int := (if x < 48 then 0 else (if 57 < x then 0 else 1))
theorem sp_X10_isDigit {D : Nat → Bool} {d : Nat} {G : mG} {x : Int} {Q : Option mV → mG → Prop} (h : Q (some (mI (f_X10_isDigit G x))) G) : P2 D (d + 1) M_X10_isDigit [mI x] G Q := by
  unfold f_X10_isDigit at h
  refine p2_vc [] 200 oo_X10 q_X10_isDigit (by decide) rfl (Nat.le_of_ble_eq_true rfl) ?_
  refine ⟨fun (c1 : x < 48) => ?_, fun (c1 : 48 ≤ x) => ?_⟩
  · rw [if_pos c1] at h
    exact ⟨by omega, h⟩
  · rw [if_neg (by omega)] at h
    refine ⟨fun (c2 : 57 < x) => ?_, fun (c2 : x ≤ 57) => ?_⟩
    · rw [if_pos c2] at h
      exact ⟨by omega, h⟩
    · rw [if_neg (by omega)] at h
      exact ⟨by omega, h⟩
def f_X6_isVariable (G : mG) (x : Int) : Int := (if x < 28 then 0 else (if 33 < x then 0 else 1))
theorem sp_X6_isVariable {D : Nat → Bool} {d : Nat} {G : mG} {x : Int} {Q : Option mV → mG → Prop} (h : Q (some (mI (f_X6_isVariable G x))) G) : P2 D (d + 1) M_X6_isVariable [mI x] G Q := by
  unfold f_X6_isVariable at h
  refine p2_vc [] 200 oo_X6 q_X6_isVariable (by decide) rfl (Nat.le_of_ble_eq_true rfl) ?_
  refine ⟨fun (c1 : x < 28) => ?_, fun (c1 : 28 ≤ x) => ?_⟩
  · rw [if_pos c1] at h
    exact ⟨by omega, h⟩
  · rw [if_neg (by omega)] at h
    refine ⟨fun (c2 : 33 < x) => ?_, fun (c2 : x ≤ 33) => ?_⟩
    · rw [if_pos c2] at h
      exact ⟨by omega, h⟩
    · rw [if_neg (by omega)] at h
      exact ⟨by omega, h⟩
def f_X7_faultPlace (G : mG) : Int := (G 15 11)
theorem sp_X7_faultPlace {D : Nat → Bool} {d : Nat} {G : mG} {Q : Option mV → mG → Prop} (h : Q (some (mI (f_X7_faultPlace G ))) G) : P2 D (d + 1) M_X7_faultPlace [mR 20] G Q := by
  unfold f_X7_faultPlace at h
  refine p2_vc [] 200 oo_X7 q_X7_faultPlace (by decide) rfl (Nat.le_of_ble_eq_true rfl) ?_
  exact h
def f_X7_step (G : mG) (x : Int) (y : Int) (z : Int) : Int := (if ¬ x = y then (-1) else z)
theorem sp_X7_step {D : Nat → Bool} {d : Nat} {G : mG} {x : Int} {y : Int} {z : Int} {Q : Option mV → mG → Prop} (h : Q (some (mI (f_X7_step G x y z))) G) : P2 D (d + 1) M_X7_step [mI x, mI y, mI z] G Q := by
  unfold f_X7_step at h
  refine p2_vc [] 200 oo_X7 q_X7_step (by decide) rfl (Nat.le_of_ble_eq_true rfl) ?_
  refine ⟨fun (c1 : ¬ x = y) => ?_, fun (c1 : x = y) => ?_⟩
  · rw [if_pos c1] at h
    exact h
  · rw [if_neg (by omega)] at h
    exact h
def e_X7_blame (G : mG) (x : Int) (y : Int) : mG := (if (G 15 10) = 0 then (gs (gs G 15 10 x) 15 11 y) else (if y < (G 15 11) then (gs (gs G 15 10 x) 15 11 y) else (if ¬ y = (G 15 11) then G else (if (G 15 10) ≤ x then G else (gs (gs G 15 10 x) 15 11 y)))))
theorem sp_X7_blame {D : Nat → Bool} {d : Nat} {G : mG} {x : Int} {y : Int} {Q : Option mV → mG → Prop} (hD : ∀ k, D k = false → inN [15] k = false) (h : Q none (e_X7_blame G x y)) : P2 D (d + 1) M_X7_blame [mR 20, mI x, mI y] G Q := by
  unfold e_X7_blame at h
  refine MP.to (D2 := inN [15]) (Q2 := Q) ?_ hD (fun v G' q _ => q)
  refine p2_vc [36, 41] 200 oo_X7 q_X7_blame (by decide) rfl (Nat.le_of_ble_eq_true rfl) ?_
  refine ⟨fun (c1 : (G 15 10) = 0) => ?_, fun (c1 : ¬ (G 15 10) = 0) => ?_⟩
  · rw [if_pos c1] at h
    refine (show W2 o_X7 M_X7_blame (inN [15]) (d + 1) Q 36 [some (mR 20), some (mI x), some (mI y)] [] (gs G 15 10 x) from ?_)
    refine w2_vc [36, 41] 200 oo_X7 q_X7_blame ?_
    refine (show W2 o_X7 M_X7_blame (inN [15]) (d + 1) Q 41 [some (mR 20), some (mI x), some (mI y)] [] (gs (gs G 15 10 x) 15 11 y) from ?_)
    refine w2_vc [36, 41] 200 oo_X7 q_X7_blame ?_
    exact h
  · rw [if_neg (by omega)] at h
    refine ⟨fun (c2 : y < (G 15 11)) => ?_, fun (c2 : (G 15 11) ≤ y) => ?_⟩
    · rw [if_pos c2] at h
      refine (show W2 o_X7 M_X7_blame (inN [15]) (d + 1) Q 36 [some (mR 20), some (mI x), some (mI y)] [] (gs G 15 10 x) from ?_)
      refine w2_vc [36, 41] 200 oo_X7 q_X7_blame ?_
      refine (show W2 o_X7 M_X7_blame (inN [15]) (d + 1) Q 41 [some (mR 20), some (mI x), some (mI y)] [] (gs (gs G 15 10 x) 15 11 y) from ?_)
      refine w2_vc [36, 41] 200 oo_X7 q_X7_blame ?_
      exact h
    · rw [if_neg (by omega)] at h
      refine ⟨fun (c3 : ¬ y = (G 15 11)) => ?_, fun (c3 : y = (G 15 11)) => ?_⟩
      · rw [if_pos c3] at h
        refine (show W2 o_X7 M_X7_blame (inN [15]) (d + 1) Q 41 [some (mR 20), some (mI x), some (mI y)] [] G from ?_)
        refine w2_vc [36, 41] 200 oo_X7 q_X7_blame ?_
        exact h
      · rw [if_neg (by omega)] at h
        refine ⟨fun (c4 : (G 15 10) ≤ x) => ?_, fun (c4 : x < (G 15 10)) => ?_⟩
        · rw [if_pos c4] at h
          refine (show W2 o_X7 M_X7_blame (inN [15]) (d + 1) Q 41 [some (mR 20), some (mI x), some (mI y)] [] G from ?_)
          refine w2_vc [36, 41] 200 oo_X7 q_X7_blame ?_
          exact h
        · rw [if_neg (by omega)] at h
          refine (show W2 o_X7 M_X7_blame (inN [15]) (d + 1) Q 36 [some (mR 20), some (mI x), some (mI y)] [] (gs G 15 10 x) from ?_)
          refine w2_vc [36, 41] 200 oo_X7 q_X7_blame ?_
          refine (show W2 o_X7 M_X7_blame (inN [15]) (d + 1) Q 41 [some (mR 20), some (mI x), some (mI y)] [] (gs (gs G 15 10 x) 15 11 y) from ?_)
          refine w2_vc [36, 41] 200 oo_X7 q_X7_blame ?_
          exact h
def e_X7_hold (G : mG) (x : Int) : mG := (if (G 15 5) < 0 then G else (if ((35 : Nat) : Int) ≤ (G 15 5) then G else (gs (gs G 19 (Int.toNat (G 15 5)) x) 15 5 (w32 ((G 15 5) + 1)))))
theorem sp_X7_hold {D : Nat → Bool} {d : Nat} {G : mG} {x : Int} {Q : Option mV → mG → Prop} (hD : ∀ k, D k = false → inN [15, 19] k = false) (h : Q none (e_X7_hold G x)) : P2 D (d + 1) M_X7_hold [mR 20, mI x] G Q := by
  unfold e_X7_hold at h
  refine MP.to (D2 := inN [15, 19]) (Q2 := Q) ?_ hD (fun v G' q _ => q)
  refine p2_vc [29, 39] 200 oo_X7 q_X7_hold (by decide) rfl (Nat.le_of_ble_eq_true rfl) ?_
  refine ⟨fun (c1 : (G 15 5) < 0) => ?_, fun (c1 : 0 ≤ (G 15 5)) => ?_⟩
  · rw [if_pos c1] at h
    refine (show W2 o_X7 M_X7_hold (inN [15, 19]) (d + 1) Q 39 [some (mR 20), some (mI x)] [] G from ?_)
    refine w2_vc [29, 39] 200 oo_X7 q_X7_hold ?_
    exact h
  · rw [if_neg (by omega)] at h
    refine ⟨fun (c2 : ((35 : Nat) : Int) ≤ (G 15 5)) => ?_, fun (c2 : (G 15 5) < ((35 : Nat) : Int)) => ?_⟩
    · rw [if_pos c2] at h
      refine (show W2 o_X7 M_X7_hold (inN [15, 19]) (d + 1) Q 39 [some (mR 20), some (mI x)] [] G from ?_)
      refine w2_vc [29, 39] 200 oo_X7 q_X7_hold ?_
      exact h
    · rw [if_neg (by omega)] at h
      refine ⟨(show 0 ≤ (G 15 5) ∧ (G 15 5) < ((35 : Nat) : Int) from by first | omega | (simp (disch := omega) only [w32_i]; omega)), ?_⟩
      refine (show W2 o_X7 M_X7_hold (inN [15, 19]) (d + 1) Q 29 [some (mR 20), some (mI x)] [] (gs G 19 (Int.toNat (G 15 5)) x) from ?_)
      refine w2_vc [29, 39] 200 oo_X7 q_X7_hold ?_
      refine (show W2 o_X7 M_X7_hold (inN [15, 19]) (d + 1) Q 39 [some (mR 20), some (mI x)] [] (gs (gs G 19 (Int.toNat (G 15 5)) x) 15 5 (w32 ((G 15 5) + 1))) from ?_)
      refine w2_vc [29, 39] 200 oo_X7 q_X7_hold ?_
      exact h
def f_X8_isFree (G : mG) (x : Int) : Int := (if x < 0 then 1 else (if ((40 : Nat) : Int) ≤ x then 0 else (if (G 33 (Int.toNat x)) ≤ 0 then 0 else 1)))
theorem sp_X8_isFree {D : Nat → Bool} {d : Nat} {G : mG} {x : Int} {Q : Option mV → mG → Prop} (h : Q (some (mI (f_X8_isFree G x))) G) : P2 D (d + 1) M_X8_isFree [mR 34, mI x] G Q := by
  unfold f_X8_isFree at h
  refine p2_vc [] 200 oo_X8 q_X8_isFree (by decide) rfl (Nat.le_of_ble_eq_true rfl) ?_
  refine ⟨fun (c1 : x < 0) => ?_, fun (c1 : 0 ≤ x) => ?_⟩
  · rw [if_pos c1] at h
    exact ⟨by omega, h⟩
  · rw [if_neg (by omega)] at h
    refine ⟨fun (c2 : ((40 : Nat) : Int) ≤ x) => ?_, fun (c2 : x < ((40 : Nat) : Int)) => ?_⟩
    · rw [if_pos c2] at h
      exact ⟨by omega, h⟩
    · rw [if_neg (by omega)] at h
      refine ⟨(show 0 ≤ x ∧ x < ((40 : Nat) : Int) from by first | omega | (simp (disch := omega) only [w32_i]; omega)), ?_⟩
      refine ⟨fun (c3 : (G 33 (Int.toNat x)) ≤ 0) => ?_, fun (c3 : 0 < (G 33 (Int.toNat x))) => ?_⟩
      · rw [if_pos c3] at h
        exact ⟨by omega, h⟩
      · rw [if_neg (by omega)] at h
        exact ⟨by omega, h⟩
def e_X8_use (G : mG) (x : Int) (y : Int) : mG := (if x < 0 then G else (if ((40 : Nat) : Int) ≤ x then G else (gs G 33 (Int.toNat x) (w32 ((G 33 (Int.toNat x)) + y)))))
theorem sp_X8_use {D : Nat → Bool} {d : Nat} {G : mG} {x : Int} {y : Int} {Q : Option mV → mG → Prop} (hD : ∀ k, D k = false → inN [33] k = false) (h : Q none (e_X8_use G x y)) : P2 D (d + 1) M_X8_use [mR 34, mI x, mI y] G Q := by
  unfold e_X8_use at h
  refine MP.to (D2 := inN [33]) (Q2 := Q) ?_ hD (fun v G' q _ => q)
  refine p2_vc [23] 200 oo_X8 q_X8_use (by decide) rfl (Nat.le_of_ble_eq_true rfl) ?_
  refine ⟨fun (c1 : x < 0) => ?_, fun (c1 : 0 ≤ x) => ?_⟩
  · rw [if_pos c1] at h
    refine (show W2 o_X8 M_X8_use (inN [33]) (d + 1) Q 23 [some (mR 34), some (mI x), some (mI y)] [] G from ?_)
    refine w2_vc [23] 200 oo_X8 q_X8_use ?_
    exact h
  · rw [if_neg (by omega)] at h
    refine ⟨fun (c2 : ((40 : Nat) : Int) ≤ x) => ?_, fun (c2 : x < ((40 : Nat) : Int)) => ?_⟩
    · rw [if_pos c2] at h
      refine (show W2 o_X8 M_X8_use (inN [33]) (d + 1) Q 23 [some (mR 34), some (mI x), some (mI y)] [] G from ?_)
      refine w2_vc [23] 200 oo_X8 q_X8_use ?_
      exact h
    · rw [if_neg (by omega)] at h
      refine ⟨(show 0 ≤ x ∧ x < ((40 : Nat) : Int) from by first | omega | (simp (disch := omega) only [w32_i]; omega)), ?_⟩
      refine ⟨(show 0 ≤ x ∧ x < ((40 : Nat) : Int) from by first | omega | (simp (disch := omega) only [w32_i]; omega)), ?_⟩
      refine (show W2 o_X8 M_X8_use (inN [33]) (d + 1) Q 23 [some (mR 34), some (mI x), some (mI y)] [] (gs G 33 (Int.toNat x) (w32 ((G 33 (Int.toNat x)) + y))) from ?_)
      refine w2_vc [23] 200 oo_X8 q_X8_use ?_
      exact h
def f_X8_clauseFor (G : mG) (b : Int) : Int := (if b < 0 then (-1) else (if (G 29 4) ≤ b then (-1) else (if 9 ≤ b then (-1) else (G 36 (Int.toNat b)))))
theorem sp_X8_clauseFor {D : Nat → Bool} {d : Nat} {G : mG} {b : Int} {Q : Option mV → mG → Prop} (h : Q (some (mI (f_X8_clauseFor G b))) G) : P2 D (d + 1) M_X8_clauseFor [mR 34, mI b] G Q := by
  unfold f_X8_clauseFor at h
  refine p2_vc [] 200 oo_X8 q_X8_clauseFor (by decide) rfl (Nat.le_of_ble_eq_true rfl) ?_
  refine ⟨fun (c1 : b < 0) => ?_, fun (c1 : 0 ≤ b) => ?_⟩
  · rw [if_pos c1] at h
    exact h
  · rw [if_neg (by omega)] at h
    refine ⟨fun (c2 : (G 29 4) ≤ b) => ?_, fun (c2 : b < (G 29 4)) => ?_⟩
    · rw [if_pos c2] at h
      exact h
    · rw [if_neg (by omega)] at h
      refine ⟨fun (c3 : 9 ≤ b) => ?_, fun (c3 : b < 9) => ?_⟩
      · rw [if_pos c3] at h
        exact h
      · rw [if_neg (by omega)] at h
        refine ⟨(show 0 ≤ b ∧ b < ((9 : Nat) : Int) from by first | omega | (simp (disch := omega) only [w32_i]; omega)), ?_⟩
        exact h
