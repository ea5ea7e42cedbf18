def r_X12_back (G : mG) (n : Int) : Int × mG := (if n < 0 then ((-1), G) else (if n ≤ (G 64 2) then ((w32 ((G 64 2) - n)), (gs G 64 2 (w32 ((G 64 2) - n)))) else ((-1), G)))
theorem frp_X12_back_64 {G : mG} {n : Int} {i : Nat} (hj : ∀ a ∈ ([2] : List Nat), i ≠ a) : (r_X12_back G n).2 64 i = G 64 i := by
  unfold r_X12_back
  repeat' with_reducible first | apply ite_f | apply ite_f2 | apply ite_p | apply ite_p2
  all_goals first | (simp only [gs_at_ne (hj 2 (by simp))]; done) | rfl
theorem fr_X12_back {G : mG} {n : Int} {k : Nat} (hk : ∀ a ∈ ([64] : List Nat), k ≠ a) : (r_X12_back G n).2 k = G k := by
  unfold r_X12_back
  repeat' with_reducible first | apply ite_f | apply ite_f2 | apply ite_p | apply ite_p2
  all_goals first | (simp only [gs_ne (hk (64) (by simp))]; done) | rfl
theorem sp_X12_back {D : Nat → Bool} {d : Nat} {G : mG} {n : Int} {Q : Option mV → mG → Prop} (hD : ∀ k, D k = false → inN [64] k = false) (h : Q (some (mI (r_X12_back G n).1)) (r_X12_back G n).2) : P2 D (d + 1) M_X12_back [mR 69, mI n] G Q := by
  unfold r_X12_back at h
  refine MP.to (D2 := inN [64]) (Q2 := Q) ?_ hD (fun v G' q _ => q)
  refine p2_vc [24] 400 oo_X12 q_X12_back (by decide) rfl (Nat.le_of_ble_eq_true rfl) ?_
  refine ⟨fun (c1 : n < 0) => ?_, fun (c1 : 0 ≤ n) => ?_⟩
  · rw [if_pos c1] at h
    exact h
  · rw [if_neg (Int.not_lt.mpr c1)] at h
    refine ⟨fun (c2 : n ≤ (G 64 2)) => ?_, fun (c2 : (G 64 2) < n) => ?_⟩
    · rw [if_pos c2] at h
      refine (show W2 o_X12 M_X12_back (inN [64]) (d + 1) Q 24 [some (mR 69), some (mI n)] [] (gs G 64 2 (w32 ((G 64 2) - n))) from ?_)
      refine w2_vc [24] 400 oo_X12 q_X12_back ?_
      exact h
    · rw [if_neg (Int.not_le.mpr c2)] at h
      exact h
def f_X12_at (G : mG) (x : Int) : Int := (if (G 64 4) ≤ x then 0 else (mAnd (G 66 (Int.toNat x)) 255))
theorem sp_X12_at {D : Nat → Bool} {d : Nat} {G : mG} {x : Int} {Q : Option mV → mG → Prop} (hx : 0 ≤ x) (hz : G 64 4 ≤ 3000) (h : Q (some (mI (f_X12_at G x))) G) : P2 D (d + 1) M_X12_at [mR 69, mI x] G Q := by
  unfold f_X12_at at h
  refine p2_vc [] 400 oo_X12 q_X12_at (by decide) rfl (Nat.le_of_ble_eq_true rfl) ?_
  refine ⟨fun (c1 : (G 64 4) ≤ x) => ?_, fun (c1 : x < (G 64 4)) => ?_⟩
  · rw [if_pos c1] at h
    exact h
  · rw [if_neg (Int.not_le.mpr c1)] at h
    refine ⟨(show 0 ≤ x ∧ x < ((3000 : Nat) : Int) from by first | omega | (simp (disch := omega) only [w32_i]; omega)), ?_⟩
    exact h
def f_X12_more (G : mG) (x : Int) (y : Int) : Int := (if ¬ y = 0 then (w64 ((w64 (27 * x)) + (w32 ((w32 (y - 97)) + 1)))) else x)
theorem sp_X12_more {D : Nat → Bool} {d : Nat} {G : mG} {x : Int} {y : Int} {Q : Option mV → mG → Prop} (h : Q (some (mJ (f_X12_more G x y))) G) : P2 D (d + 1) M_X12_more [mJ x, mI y] G Q := by
  unfold f_X12_more at h
  refine p2_vc [] 400 oo_X12 q_X12_more (by decide) rfl (Nat.le_of_ble_eq_true rfl) ?_
  refine ⟨fun (c1 : ¬ y = 0) => ?_, fun (c1 : y = 0) => ?_⟩
  · rw [if_pos c1] at h
    exact h
  · rw [if_neg (fun q => q c1)] at h
    exact h
def f_X12_place (G : mG) : Int := (G 64 17)
theorem sp_X12_place {D : Nat → Bool} {d : Nat} {G : mG} {Q : Option mV → mG → Prop} (h : Q (some (mI (f_X12_place G ))) G) : P2 D (d + 1) M_X12_place [mR 69] G Q := by
  unfold f_X12_place at h
  refine p2_vc [] 400 oo_X12 q_X12_place (by decide) rfl (Nat.le_of_ble_eq_true rfl) ?_
  exact h
def e_X12_token (G : mG) (x : Int) (y : Int) (z : Int) (w : Int) : mG := (gs (gs (gs (gs (gs G 67 (Int.toNat (G 64 10)) x) 68 (Int.toNat (G 64 10)) y) 69 (Int.toNat (G 64 10)) z) 70 (Int.toNat (G 64 10)) w) 64 10 (w32 ((G 64 10) + 1)))
theorem frp_X12_token_64 {G : mG} {x : Int} {y : Int} {z : Int} {w : Int} {i : Nat} (hj : ∀ a ∈ ([10] : List Nat), i ≠ a) : (e_X12_token G x y z w) 64 i = G 64 i := by
  unfold e_X12_token
  repeat' with_reducible first | apply ite_f | apply ite_f2 | apply ite_p | apply ite_p2
  all_goals first | (simp only [gs_at_ne (hj 10 (by simp)), gs_ne (show (64) ≠ (67) from by omega), gs_ne (show (64) ≠ (68) from by omega), gs_ne (show (64) ≠ (69) from by omega), gs_ne (show (64) ≠ (70) from by omega)]; done) | rfl
theorem fr_X12_token {G : mG} {x : Int} {y : Int} {z : Int} {w : Int} {k : Nat} (hk : ∀ a ∈ ([64, 67, 68, 69, 70] : List Nat), k ≠ a) : (e_X12_token G x y z w) k = G k := by
  unfold e_X12_token
  repeat' with_reducible first | apply ite_f | apply ite_f2 | apply ite_p | apply ite_p2
  all_goals first | (simp only [gs_ne (hk (64) (by simp)), gs_ne (hk (67) (by simp)), gs_ne (hk (68) (by simp)), gs_ne (hk (69) (by simp)), gs_ne (hk (70) (by simp))]; done) | rfl
theorem sp_X12_token {D : Nat → Bool} {d : Nat} {G : mG} {x : Int} {y : Int} {z : Int} {w : Int} {Q : Option mV → mG → Prop} (hk : 0 ≤ G 64 10 ∧ G 64 10 < 603) (hD : ∀ k, D k = false → inN [64, 67, 68, 69, 70] k = false) (h : Q none (e_X12_token G x y z w)) : P2 D (d + 1) M_X12_token [mR 69, mI x, mI y, mI z, mJ w] G Q := by
  unfold e_X12_token at h
  refine MP.to (D2 := inN [64, 67, 68, 69, 70]) (Q2 := Q) ?_ hD (fun v G' q _ => q)
  refine p2_vc [10, 20, 30, 41, 51] 400 oo_X12 q_X12_token (by decide) rfl (Nat.le_of_ble_eq_true rfl) ?_
  refine ⟨(show 0 ≤ (G 64 10) ∧ (G 64 10) < ((603 : Nat) : Int) from by first | omega | (simp (disch := omega) only [w32_i]; omega)), ?_⟩
  refine (show W2 o_X12 M_X12_token (inN [64, 67, 68, 69, 70]) (d + 1) Q 10 [some (mR 69), some (mI x), some (mI y), some (mI z), some (mJ w), none] [] (gs G 67 (Int.toNat (G 64 10)) x) from ?_)
  refine w2_vc [10, 20, 30, 41, 51] 400 oo_X12 q_X12_token ?_
  refine ⟨(show 0 ≤ (G 64 10) ∧ (G 64 10) < ((603 : Nat) : Int) from by first | omega | (simp (disch := omega) only [w32_i]; omega)), ?_⟩
  refine (show W2 o_X12 M_X12_token (inN [64, 67, 68, 69, 70]) (d + 1) Q 20 [some (mR 69), some (mI x), some (mI y), some (mI z), some (mJ w), none] [] (gs (gs G 67 (Int.toNat (G 64 10)) x) 68 (Int.toNat (G 64 10)) y) from ?_)
  refine w2_vc [10, 20, 30, 41, 51] 400 oo_X12 q_X12_token ?_
  refine ⟨(show 0 ≤ (G 64 10) ∧ (G 64 10) < ((603 : Nat) : Int) from by first | omega | (simp (disch := omega) only [w32_i]; omega)), ?_⟩
  refine (show W2 o_X12 M_X12_token (inN [64, 67, 68, 69, 70]) (d + 1) Q 30 [some (mR 69), some (mI x), some (mI y), some (mI z), some (mJ w), none] [] (gs (gs (gs G 67 (Int.toNat (G 64 10)) x) 68 (Int.toNat (G 64 10)) y) 69 (Int.toNat (G 64 10)) z) from ?_)
  refine w2_vc [10, 20, 30, 41, 51] 400 oo_X12 q_X12_token ?_
  refine ⟨(show 0 ≤ (G 64 10) ∧ (G 64 10) < ((603 : Nat) : Int) from by first | omega | (simp (disch := omega) only [w32_i]; omega)), ?_⟩
  refine (show W2 o_X12 M_X12_token (inN [64, 67, 68, 69, 70]) (d + 1) Q 41 [some (mR 69), some (mI x), some (mI y), some (mI z), some (mJ w), none] [] (gs (gs (gs (gs G 67 (Int.toNat (G 64 10)) x) 68 (Int.toNat (G 64 10)) y) 69 (Int.toNat (G 64 10)) z) 70 (Int.toNat (G 64 10)) w) from ?_)
  refine w2_vc [10, 20, 30, 41, 51] 400 oo_X12 q_X12_token ?_
  refine (show W2 o_X12 M_X12_token (inN [64, 67, 68, 69, 70]) (d + 1) Q 51 [some (mR 69), some (mI x), some (mI y), some (mI z), some (mJ w), none] [] (gs (gs (gs (gs (gs G 67 (Int.toNat (G 64 10)) x) 68 (Int.toNat (G 64 10)) y) 69 (Int.toNat (G 64 10)) z) 70 (Int.toNat (G 64 10)) w) 64 10 (w32 ((G 64 10) + 1))) from ?_)
  refine w2_vc [10, 20, 30, 41, 51] 400 oo_X12 q_X12_token ?_
  exact h
def r_X12_sign (G : mG) (a : Int) (x : Int) (y : Int) : Int × mG := (if y = 61 then (if ¬ x = 61 then (if ¬ x = 33 then (if ¬ x = 60 then (if ¬ x = 59 then (if ¬ x = 40 then (if ¬ x = 41 then (if ¬ x = 43 then (if ¬ x = 45 then (if ¬ x = 42 then (if ¬ x = 60 then (1, (e_X12_token G 3 a 0 0)) else (1, (e_X12_token G 13 a 0 0))) else (1, (e_X12_token G 10 a 0 0))) else (1, (e_X12_token G 9 a 0 0))) else (1, (e_X12_token G 8 a 0 0))) else (1, (e_X12_token G 7 a 0 0))) else (1, (e_X12_token G 6 a 0 0))) else (1, (e_X12_token G 4 a 0 0))) else (2, (e_X12_token G 14 a 0 0))) else (2, (e_X12_token G 12 a 0 0))) else (2, (e_X12_token G 11 a 0 0))) else (if ¬ x = 59 then (if ¬ x = 40 then (if ¬ x = 41 then (if ¬ x = 43 then (if ¬ x = 45 then (if ¬ x = 42 then (if ¬ x = 60 then (1, (e_X12_token G 3 a 0 0)) else (1, (e_X12_token G 13 a 0 0))) else (1, (e_X12_token G 10 a 0 0))) else (1, (e_X12_token G 9 a 0 0))) else (1, (e_X12_token G 8 a 0 0))) else (1, (e_X12_token G 7 a 0 0))) else (1, (e_X12_token G 6 a 0 0))) else (1, (e_X12_token G 4 a 0 0))))
theorem frp_X12_sign_64 {G : mG} {a : Int} {x : Int} {y : Int} {i : Nat} (hj : ∀ a ∈ ([10] : List Nat), i ≠ a) : (r_X12_sign G a x y).2 64 i = G 64 i := by
  unfold r_X12_sign
  repeat' with_reducible first | apply ite_f | apply ite_f2 | apply ite_p | apply ite_p2
  all_goals first | (simp only [gs_at_ne (hj 10 (by simp)), gs_ne (show (64) ≠ (67) from by omega), gs_ne (show (64) ≠ (68) from by omega), gs_ne (show (64) ≠ (69) from by omega), gs_ne (show (64) ≠ (70) from by omega), frp_X12_token_64 (fun a ha => hj a (by simp only [List.mem_cons, List.not_mem_nil, or_false] at ha ⊢; omega))]; done) | rfl
theorem fr_X12_sign {G : mG} {a : Int} {x : Int} {y : Int} {k : Nat} (hk : ∀ a ∈ ([64, 67, 68, 69, 70] : List Nat), k ≠ a) : (r_X12_sign G a x y).2 k = G k := by
  unfold r_X12_sign
  repeat' with_reducible first | apply ite_f | apply ite_f2 | apply ite_p | apply ite_p2
  all_goals first | (simp only [gs_ne (hk (64) (by simp)), gs_ne (hk (67) (by simp)), gs_ne (hk (68) (by simp)), gs_ne (hk (69) (by simp)), gs_ne (hk (70) (by simp)), fr_X12_token (fun a ha => hk a (by simp only [List.mem_cons, List.not_mem_nil, or_false] at ha ⊢; omega))]; done) | rfl
set_option maxHeartbeats 8000000 in
theorem sp_X12_sign {D : Nat → Bool} {d : Nat} {G : mG} {a : Int} {x : Int} {y : Int} {Q : Option mV → mG → Prop} (hk : 0 ≤ G 64 10 ∧ G 64 10 < 603) (hD : ∀ k, D k = false → inN [64, 67, 68, 69, 70] k = false) (h : Q (some (mI (r_X12_sign G a x y).1)) (r_X12_sign G a x y).2) : P2 D (d + 2) M_X12_sign [mR 69, mI a, mI x, mI y] G Q := by
  unfold r_X12_sign at h
  refine MP.to (D2 := inN [64, 67, 68, 69, 70]) (Q2 := Q) ?_ hD (fun v G' q _ => q)
  refine p2_vc [46, 49, 58, 70, 83, 96, 109, 122, 135, 148, 157] 400 oo_X12 q_X12_sign (by decide) rfl (Nat.le_of_ble_eq_true rfl) ?_
  refine ⟨fun (c1 : y = 61) => ?_, fun (c1 : ¬ y = 61) => ?_⟩
  · rw [if_pos c1] at h
    refine ⟨fun (c2 : ¬ x = 61) => ?_, fun (c2 : x = 61) => ?_⟩
    · rw [if_pos c2] at h
      refine ⟨fun (c3 : ¬ x = 33) => ?_, fun (c3 : x = 33) => ?_⟩
      · rw [if_pos c3] at h
        refine ⟨fun (c4 : ¬ x = 60) => ?_, fun (c4 : x = 60) => ?_⟩
        · rw [if_pos c4] at h
          refine (show W2 o_X12 M_X12_sign (inN [64, 67, 68, 69, 70]) (d + 2) Q 46 [some (mR 69), some (mI a), some (mI x), some (mI y), some (mI 0), none] [] G from ?_)
          refine w2_vc [46, 49, 58, 70, 83, 96, 109, 122, 135, 148, 157] 400 oo_X12 q_X12_sign ?_
          refine (show W2 o_X12 M_X12_sign (inN [64, 67, 68, 69, 70]) (d + 2) Q 49 [some (mR 69), some (mI a), some (mI x), some (mI y), some (mI 0), some (mI 3)] [] G from ?_)
          refine w2_vc [46, 49, 58, 70, 83, 96, 109, 122, 135, 148, 157] 400 oo_X12 q_X12_sign ?_
          refine ⟨fun _ => ?_, fun (c : (0 : Int) < 0) => absurd c (by decide)⟩
          refine ⟨fun (c5 : ¬ x = 59) => ?_, fun (c5 : x = 59) => ?_⟩
          · rw [if_pos c5] at h
            refine ⟨fun (c6 : ¬ x = 40) => ?_, fun (c6 : x = 40) => ?_⟩
            · rw [if_pos c6] at h
              refine ⟨fun (c7 : ¬ x = 41) => ?_, fun (c7 : x = 41) => ?_⟩
              · rw [if_pos c7] at h
                refine ⟨fun (c8 : ¬ x = 43) => ?_, fun (c8 : x = 43) => ?_⟩
                · rw [if_pos c8] at h
                  refine ⟨fun (c9 : ¬ x = 45) => ?_, fun (c9 : x = 45) => ?_⟩
                  · rw [if_pos c9] at h
                    refine ⟨fun (c10 : ¬ x = 42) => ?_, fun (c10 : x = 42) => ?_⟩
                    · rw [if_pos c10] at h
                      refine ⟨fun (c11 : ¬ x = 60) => ?_, fun (c11 : x = 60) => ?_⟩
                      · rw [if_pos c11] at h
                        refine (show W2 o_X12 M_X12_sign (inN [64, 67, 68, 69, 70]) (d + 2) Q 148 [some (mR 69), some (mI a), some (mI x), some (mI y), some (mI 0), some (mI 3)] [] G from ?_)
                        refine w2_vc [46, 49, 58, 70, 83, 96, 109, 122, 135, 148, 157] 400 oo_X12 q_X12_sign ?_
                        refine sp_X12_token (by omega) (insub (by decide)) ?_
                        refine (show W2 o_X12 M_X12_sign (inN [64, 67, 68, 69, 70]) (d + 2) Q 157 [some (mR 69), some (mI a), some (mI x), some (mI y), some (mI 0), some (mI 3)] [] (e_X12_token G 3 a 0 0) from ?_)
                        refine w2_vc [46, 49, 58, 70, 83, 96, 109, 122, 135, 148, 157] 400 oo_X12 q_X12_sign ?_
                        refine ⟨fun _ => ?_, fun (c : (0 : Int) < 0) => absurd c (by decide)⟩
                        exact h
                      · rw [if_neg (fun q => q c11)] at h
                        refine (show W2 o_X12 M_X12_sign (inN [64, 67, 68, 69, 70]) (d + 2) Q 148 [some (mR 69), some (mI a), some (mI x), some (mI y), some (mI 0), some (mI 13)] [] G from ?_)
                        refine w2_vc [46, 49, 58, 70, 83, 96, 109, 122, 135, 148, 157] 400 oo_X12 q_X12_sign ?_
                        refine sp_X12_token (by omega) (insub (by decide)) ?_
                        refine (show W2 o_X12 M_X12_sign (inN [64, 67, 68, 69, 70]) (d + 2) Q 157 [some (mR 69), some (mI a), some (mI x), some (mI y), some (mI 0), some (mI 13)] [] (e_X12_token G 13 a 0 0) from ?_)
                        refine w2_vc [46, 49, 58, 70, 83, 96, 109, 122, 135, 148, 157] 400 oo_X12 q_X12_sign ?_
                        refine ⟨fun _ => ?_, fun (c : (0 : Int) < 0) => absurd c (by decide)⟩
                        exact h
                    · rw [if_neg (fun q => q c10)] at h
                      refine (show W2 o_X12 M_X12_sign (inN [64, 67, 68, 69, 70]) (d + 2) Q 135 [some (mR 69), some (mI a), some (mI x), some (mI y), some (mI 0), some (mI 10)] [] G from ?_)
                      refine w2_vc [46, 49, 58, 70, 83, 96, 109, 122, 135, 148, 157] 400 oo_X12 q_X12_sign ?_
                      refine (show W2 o_X12 M_X12_sign (inN [64, 67, 68, 69, 70]) (d + 2) Q 148 [some (mR 69), some (mI a), some (mI x), some (mI y), some (mI 0), some (mI 10)] [] G from ?_)
                      refine w2_vc [46, 49, 58, 70, 83, 96, 109, 122, 135, 148, 157] 400 oo_X12 q_X12_sign ?_
                      refine sp_X12_token (by omega) (insub (by decide)) ?_
                      refine (show W2 o_X12 M_X12_sign (inN [64, 67, 68, 69, 70]) (d + 2) Q 157 [some (mR 69), some (mI a), some (mI x), some (mI y), some (mI 0), some (mI 10)] [] (e_X12_token G 10 a 0 0) from ?_)
                      refine w2_vc [46, 49, 58, 70, 83, 96, 109, 122, 135, 148, 157] 400 oo_X12 q_X12_sign ?_
                      refine ⟨fun _ => ?_, fun (c : (0 : Int) < 0) => absurd c (by decide)⟩
                      exact h
                  · rw [if_neg (fun q => q c9)] at h
                    refine (show W2 o_X12 M_X12_sign (inN [64, 67, 68, 69, 70]) (d + 2) Q 122 [some (mR 69), some (mI a), some (mI x), some (mI y), some (mI 0), some (mI 9)] [] G from ?_)
                    refine w2_vc [46, 49, 58, 70, 83, 96, 109, 122, 135, 148, 157] 400 oo_X12 q_X12_sign ?_
                    refine (show W2 o_X12 M_X12_sign (inN [64, 67, 68, 69, 70]) (d + 2) Q 148 [some (mR 69), some (mI a), some (mI x), some (mI y), some (mI 0), some (mI 9)] [] G from ?_)
                    refine w2_vc [46, 49, 58, 70, 83, 96, 109, 122, 135, 148, 157] 400 oo_X12 q_X12_sign ?_
                    refine sp_X12_token (by omega) (insub (by decide)) ?_
                    refine (show W2 o_X12 M_X12_sign (inN [64, 67, 68, 69, 70]) (d + 2) Q 157 [some (mR 69), some (mI a), some (mI x), some (mI y), some (mI 0), some (mI 9)] [] (e_X12_token G 9 a 0 0) from ?_)
                    refine w2_vc [46, 49, 58, 70, 83, 96, 109, 122, 135, 148, 157] 400 oo_X12 q_X12_sign ?_
                    refine ⟨fun _ => ?_, fun (c : (0 : Int) < 0) => absurd c (by decide)⟩
                    exact h
                · rw [if_neg (fun q => q c8)] at h
                  refine (show W2 o_X12 M_X12_sign (inN [64, 67, 68, 69, 70]) (d + 2) Q 109 [some (mR 69), some (mI a), some (mI x), some (mI y), some (mI 0), some (mI 8)] [] G from ?_)
                  refine w2_vc [46, 49, 58, 70, 83, 96, 109, 122, 135, 148, 157] 400 oo_X12 q_X12_sign ?_
                  refine (show W2 o_X12 M_X12_sign (inN [64, 67, 68, 69, 70]) (d + 2) Q 148 [some (mR 69), some (mI a), some (mI x), some (mI y), some (mI 0), some (mI 8)] [] G from ?_)
                  refine w2_vc [46, 49, 58, 70, 83, 96, 109, 122, 135, 148, 157] 400 oo_X12 q_X12_sign ?_
                  refine sp_X12_token (by omega) (insub (by decide)) ?_
                  refine (show W2 o_X12 M_X12_sign (inN [64, 67, 68, 69, 70]) (d + 2) Q 157 [some (mR 69), some (mI a), some (mI x), some (mI y), some (mI 0), some (mI 8)] [] (e_X12_token G 8 a 0 0) from ?_)
                  refine w2_vc [46, 49, 58, 70, 83, 96, 109, 122, 135, 148, 157] 400 oo_X12 q_X12_sign ?_
                  refine ⟨fun _ => ?_, fun (c : (0 : Int) < 0) => absurd c (by decide)⟩
                  exact h
              · rw [if_neg (fun q => q c7)] at h
                refine (show W2 o_X12 M_X12_sign (inN [64, 67, 68, 69, 70]) (d + 2) Q 96 [some (mR 69), some (mI a), some (mI x), some (mI y), some (mI 0), some (mI 7)] [] G from ?_)
                refine w2_vc [46, 49, 58, 70, 83, 96, 109, 122, 135, 148, 157] 400 oo_X12 q_X12_sign ?_
                refine (show W2 o_X12 M_X12_sign (inN [64, 67, 68, 69, 70]) (d + 2) Q 148 [some (mR 69), some (mI a), some (mI x), some (mI y), some (mI 0), some (mI 7)] [] G from ?_)
                refine w2_vc [46, 49, 58, 70, 83, 96, 109, 122, 135, 148, 157] 400 oo_X12 q_X12_sign ?_
                refine sp_X12_token (by omega) (insub (by decide)) ?_
                refine (show W2 o_X12 M_X12_sign (inN [64, 67, 68, 69, 70]) (d + 2) Q 157 [some (mR 69), some (mI a), some (mI x), some (mI y), some (mI 0), some (mI 7)] [] (e_X12_token G 7 a 0 0) from ?_)
                refine w2_vc [46, 49, 58, 70, 83, 96, 109, 122, 135, 148, 157] 400 oo_X12 q_X12_sign ?_
                refine ⟨fun _ => ?_, fun (c : (0 : Int) < 0) => absurd c (by decide)⟩
                exact h
            · rw [if_neg (fun q => q c6)] at h
              refine (show W2 o_X12 M_X12_sign (inN [64, 67, 68, 69, 70]) (d + 2) Q 83 [some (mR 69), some (mI a), some (mI x), some (mI y), some (mI 0), some (mI 6)] [] G from ?_)
              refine w2_vc [46, 49, 58, 70, 83, 96, 109, 122, 135, 148, 157] 400 oo_X12 q_X12_sign ?_
              refine (show W2 o_X12 M_X12_sign (inN [64, 67, 68, 69, 70]) (d + 2) Q 148 [some (mR 69), some (mI a), some (mI x), some (mI y), some (mI 0), some (mI 6)] [] G from ?_)
              refine w2_vc [46, 49, 58, 70, 83, 96, 109, 122, 135, 148, 157] 400 oo_X12 q_X12_sign ?_
              refine sp_X12_token (by omega) (insub (by decide)) ?_
              refine (show W2 o_X12 M_X12_sign (inN [64, 67, 68, 69, 70]) (d + 2) Q 157 [some (mR 69), some (mI a), some (mI x), some (mI y), some (mI 0), some (mI 6)] [] (e_X12_token G 6 a 0 0) from ?_)
              refine w2_vc [46, 49, 58, 70, 83, 96, 109, 122, 135, 148, 157] 400 oo_X12 q_X12_sign ?_
              refine ⟨fun _ => ?_, fun (c : (0 : Int) < 0) => absurd c (by decide)⟩
              exact h
          · rw [if_neg (fun q => q c5)] at h
            refine (show W2 o_X12 M_X12_sign (inN [64, 67, 68, 69, 70]) (d + 2) Q 70 [some (mR 69), some (mI a), some (mI x), some (mI y), some (mI 0), some (mI 4)] [] G from ?_)
            refine w2_vc [46, 49, 58, 70, 83, 96, 109, 122, 135, 148, 157] 400 oo_X12 q_X12_sign ?_
            refine (show W2 o_X12 M_X12_sign (inN [64, 67, 68, 69, 70]) (d + 2) Q 148 [some (mR 69), some (mI a), some (mI x), some (mI y), some (mI 0), some (mI 4)] [] G from ?_)
            refine w2_vc [46, 49, 58, 70, 83, 96, 109, 122, 135, 148, 157] 400 oo_X12 q_X12_sign ?_
            refine sp_X12_token (by omega) (insub (by decide)) ?_
            refine (show W2 o_X12 M_X12_sign (inN [64, 67, 68, 69, 70]) (d + 2) Q 157 [some (mR 69), some (mI a), some (mI x), some (mI y), some (mI 0), some (mI 4)] [] (e_X12_token G 4 a 0 0) from ?_)
            refine w2_vc [46, 49, 58, 70, 83, 96, 109, 122, 135, 148, 157] 400 oo_X12 q_X12_sign ?_
            refine ⟨fun _ => ?_, fun (c : (0 : Int) < 0) => absurd c (by decide)⟩
            exact h
        · rw [if_neg (fun q => q c4)] at h
          refine (show W2 o_X12 M_X12_sign (inN [64, 67, 68, 69, 70]) (d + 2) Q 46 [some (mR 69), some (mI a), some (mI x), some (mI y), some (mI 14), none] [] G from ?_)
          refine w2_vc [46, 49, 58, 70, 83, 96, 109, 122, 135, 148, 157] 400 oo_X12 q_X12_sign ?_
          refine (show W2 o_X12 M_X12_sign (inN [64, 67, 68, 69, 70]) (d + 2) Q 49 [some (mR 69), some (mI a), some (mI x), some (mI y), some (mI 14), some (mI 3)] [] G from ?_)
          refine w2_vc [46, 49, 58, 70, 83, 96, 109, 122, 135, 148, 157] 400 oo_X12 q_X12_sign ?_
          refine ⟨fun (c : (14 : Int) ≤ 0) => absurd c (by decide), fun _ => ?_⟩
          refine (show W2 o_X12 M_X12_sign (inN [64, 67, 68, 69, 70]) (d + 2) Q 58 [some (mR 69), some (mI a), some (mI x), some (mI y), some (mI 14), some (mI 14)] [] G from ?_)
          refine w2_vc [46, 49, 58, 70, 83, 96, 109, 122, 135, 148, 157] 400 oo_X12 q_X12_sign ?_
          refine (show W2 o_X12 M_X12_sign (inN [64, 67, 68, 69, 70]) (d + 2) Q 148 [some (mR 69), some (mI a), some (mI x), some (mI y), some (mI 14), some (mI 14)] [] G from ?_)
          refine w2_vc [46, 49, 58, 70, 83, 96, 109, 122, 135, 148, 157] 400 oo_X12 q_X12_sign ?_
          refine sp_X12_token (by omega) (insub (by decide)) ?_
          refine (show W2 o_X12 M_X12_sign (inN [64, 67, 68, 69, 70]) (d + 2) Q 157 [some (mR 69), some (mI a), some (mI x), some (mI y), some (mI 14), some (mI 14)] [] (e_X12_token G 14 a 0 0) from ?_)
          refine w2_vc [46, 49, 58, 70, 83, 96, 109, 122, 135, 148, 157] 400 oo_X12 q_X12_sign ?_
          refine ⟨fun (c : (14 : Int) ≤ 0) => absurd c (by decide), fun _ => ?_⟩
          exact h
      · rw [if_neg (fun q => q c3)] at h
        refine (show W2 o_X12 M_X12_sign (inN [64, 67, 68, 69, 70]) (d + 2) Q 46 [some (mR 69), some (mI a), some (mI x), some (mI y), some (mI 12), none] [] G from ?_)
        refine w2_vc [46, 49, 58, 70, 83, 96, 109, 122, 135, 148, 157] 400 oo_X12 q_X12_sign ?_
        refine (show W2 o_X12 M_X12_sign (inN [64, 67, 68, 69, 70]) (d + 2) Q 49 [some (mR 69), some (mI a), some (mI x), some (mI y), some (mI 12), some (mI 3)] [] G from ?_)
        refine w2_vc [46, 49, 58, 70, 83, 96, 109, 122, 135, 148, 157] 400 oo_X12 q_X12_sign ?_
        refine ⟨fun (c : (12 : Int) ≤ 0) => absurd c (by decide), fun _ => ?_⟩
        refine (show W2 o_X12 M_X12_sign (inN [64, 67, 68, 69, 70]) (d + 2) Q 58 [some (mR 69), some (mI a), some (mI x), some (mI y), some (mI 12), some (mI 12)] [] G from ?_)
        refine w2_vc [46, 49, 58, 70, 83, 96, 109, 122, 135, 148, 157] 400 oo_X12 q_X12_sign ?_
        refine (show W2 o_X12 M_X12_sign (inN [64, 67, 68, 69, 70]) (d + 2) Q 148 [some (mR 69), some (mI a), some (mI x), some (mI y), some (mI 12), some (mI 12)] [] G from ?_)
        refine w2_vc [46, 49, 58, 70, 83, 96, 109, 122, 135, 148, 157] 400 oo_X12 q_X12_sign ?_
        refine sp_X12_token (by omega) (insub (by decide)) ?_
        refine (show W2 o_X12 M_X12_sign (inN [64, 67, 68, 69, 70]) (d + 2) Q 157 [some (mR 69), some (mI a), some (mI x), some (mI y), some (mI 12), some (mI 12)] [] (e_X12_token G 12 a 0 0) from ?_)
        refine w2_vc [46, 49, 58, 70, 83, 96, 109, 122, 135, 148, 157] 400 oo_X12 q_X12_sign ?_
        refine ⟨fun (c : (12 : Int) ≤ 0) => absurd c (by decide), fun _ => ?_⟩
        exact h
    · rw [if_neg (fun q => q c2)] at h
      refine (show W2 o_X12 M_X12_sign (inN [64, 67, 68, 69, 70]) (d + 2) Q 46 [some (mR 69), some (mI a), some (mI x), some (mI y), some (mI 11), none] [] G from ?_)
      refine w2_vc [46, 49, 58, 70, 83, 96, 109, 122, 135, 148, 157] 400 oo_X12 q_X12_sign ?_
      refine (show W2 o_X12 M_X12_sign (inN [64, 67, 68, 69, 70]) (d + 2) Q 49 [some (mR 69), some (mI a), some (mI x), some (mI y), some (mI 11), some (mI 3)] [] G from ?_)
      refine w2_vc [46, 49, 58, 70, 83, 96, 109, 122, 135, 148, 157] 400 oo_X12 q_X12_sign ?_
      refine ⟨fun (c : (11 : Int) ≤ 0) => absurd c (by decide), fun _ => ?_⟩
      refine (show W2 o_X12 M_X12_sign (inN [64, 67, 68, 69, 70]) (d + 2) Q 58 [some (mR 69), some (mI a), some (mI x), some (mI y), some (mI 11), some (mI 11)] [] G from ?_)
      refine w2_vc [46, 49, 58, 70, 83, 96, 109, 122, 135, 148, 157] 400 oo_X12 q_X12_sign ?_
      refine (show W2 o_X12 M_X12_sign (inN [64, 67, 68, 69, 70]) (d + 2) Q 148 [some (mR 69), some (mI a), some (mI x), some (mI y), some (mI 11), some (mI 11)] [] G from ?_)
      refine w2_vc [46, 49, 58, 70, 83, 96, 109, 122, 135, 148, 157] 400 oo_X12 q_X12_sign ?_
      refine sp_X12_token (by omega) (insub (by decide)) ?_
      refine (show W2 o_X12 M_X12_sign (inN [64, 67, 68, 69, 70]) (d + 2) Q 157 [some (mR 69), some (mI a), some (mI x), some (mI y), some (mI 11), some (mI 11)] [] (e_X12_token G 11 a 0 0) from ?_)
      refine w2_vc [46, 49, 58, 70, 83, 96, 109, 122, 135, 148, 157] 400 oo_X12 q_X12_sign ?_
      refine ⟨fun (c : (11 : Int) ≤ 0) => absurd c (by decide), fun _ => ?_⟩
      exact h
  · rw [if_neg (c1)] at h
    refine (show W2 o_X12 M_X12_sign (inN [64, 67, 68, 69, 70]) (d + 2) Q 46 [some (mR 69), some (mI a), some (mI x), some (mI y), some (mI 0), none] [] G from ?_)
    refine w2_vc [46, 49, 58, 70, 83, 96, 109, 122, 135, 148, 157] 400 oo_X12 q_X12_sign ?_
    refine (show W2 o_X12 M_X12_sign (inN [64, 67, 68, 69, 70]) (d + 2) Q 49 [some (mR 69), some (mI a), some (mI x), some (mI y), some (mI 0), some (mI 3)] [] G from ?_)
    refine w2_vc [46, 49, 58, 70, 83, 96, 109, 122, 135, 148, 157] 400 oo_X12 q_X12_sign ?_
    refine ⟨fun _ => ?_, fun (c : (0 : Int) < 0) => absurd c (by decide)⟩
    refine ⟨fun (c23 : ¬ x = 59) => ?_, fun (c23 : x = 59) => ?_⟩
    · rw [if_pos c23] at h
      refine ⟨fun (c24 : ¬ x = 40) => ?_, fun (c24 : x = 40) => ?_⟩
      · rw [if_pos c24] at h
        refine ⟨fun (c25 : ¬ x = 41) => ?_, fun (c25 : x = 41) => ?_⟩
        · rw [if_pos c25] at h
          refine ⟨fun (c26 : ¬ x = 43) => ?_, fun (c26 : x = 43) => ?_⟩
          · rw [if_pos c26] at h
            refine ⟨fun (c27 : ¬ x = 45) => ?_, fun (c27 : x = 45) => ?_⟩
            · rw [if_pos c27] at h
              refine ⟨fun (c28 : ¬ x = 42) => ?_, fun (c28 : x = 42) => ?_⟩
              · rw [if_pos c28] at h
                refine ⟨fun (c29 : ¬ x = 60) => ?_, fun (c29 : x = 60) => ?_⟩
                · rw [if_pos c29] at h
                  refine (show W2 o_X12 M_X12_sign (inN [64, 67, 68, 69, 70]) (d + 2) Q 148 [some (mR 69), some (mI a), some (mI x), some (mI y), some (mI 0), some (mI 3)] [] G from ?_)
                  refine w2_vc [46, 49, 58, 70, 83, 96, 109, 122, 135, 148, 157] 400 oo_X12 q_X12_sign ?_
                  refine sp_X12_token (by omega) (insub (by decide)) ?_
                  refine (show W2 o_X12 M_X12_sign (inN [64, 67, 68, 69, 70]) (d + 2) Q 157 [some (mR 69), some (mI a), some (mI x), some (mI y), some (mI 0), some (mI 3)] [] (e_X12_token G 3 a 0 0) from ?_)
                  refine w2_vc [46, 49, 58, 70, 83, 96, 109, 122, 135, 148, 157] 400 oo_X12 q_X12_sign ?_
                  refine ⟨fun _ => ?_, fun (c : (0 : Int) < 0) => absurd c (by decide)⟩
                  exact h
                · rw [if_neg (fun q => q c29)] at h
                  refine (show W2 o_X12 M_X12_sign (inN [64, 67, 68, 69, 70]) (d + 2) Q 148 [some (mR 69), some (mI a), some (mI x), some (mI y), some (mI 0), some (mI 13)] [] G from ?_)
                  refine w2_vc [46, 49, 58, 70, 83, 96, 109, 122, 135, 148, 157] 400 oo_X12 q_X12_sign ?_
                  refine sp_X12_token (by omega) (insub (by decide)) ?_
                  refine (show W2 o_X12 M_X12_sign (inN [64, 67, 68, 69, 70]) (d + 2) Q 157 [some (mR 69), some (mI a), some (mI x), some (mI y), some (mI 0), some (mI 13)] [] (e_X12_token G 13 a 0 0) from ?_)
                  refine w2_vc [46, 49, 58, 70, 83, 96, 109, 122, 135, 148, 157] 400 oo_X12 q_X12_sign ?_
                  refine ⟨fun _ => ?_, fun (c : (0 : Int) < 0) => absurd c (by decide)⟩
                  exact h
              · rw [if_neg (fun q => q c28)] at h
                refine (show W2 o_X12 M_X12_sign (inN [64, 67, 68, 69, 70]) (d + 2) Q 135 [some (mR 69), some (mI a), some (mI x), some (mI y), some (mI 0), some (mI 10)] [] G from ?_)
                refine w2_vc [46, 49, 58, 70, 83, 96, 109, 122, 135, 148, 157] 400 oo_X12 q_X12_sign ?_
                refine (show W2 o_X12 M_X12_sign (inN [64, 67, 68, 69, 70]) (d + 2) Q 148 [some (mR 69), some (mI a), some (mI x), some (mI y), some (mI 0), some (mI 10)] [] G from ?_)
                refine w2_vc [46, 49, 58, 70, 83, 96, 109, 122, 135, 148, 157] 400 oo_X12 q_X12_sign ?_
                refine sp_X12_token (by omega) (insub (by decide)) ?_
                refine (show W2 o_X12 M_X12_sign (inN [64, 67, 68, 69, 70]) (d + 2) Q 157 [some (mR 69), some (mI a), some (mI x), some (mI y), some (mI 0), some (mI 10)] [] (e_X12_token G 10 a 0 0) from ?_)
                refine w2_vc [46, 49, 58, 70, 83, 96, 109, 122, 135, 148, 157] 400 oo_X12 q_X12_sign ?_
                refine ⟨fun _ => ?_, fun (c : (0 : Int) < 0) => absurd c (by decide)⟩
                exact h
            · rw [if_neg (fun q => q c27)] at h
              refine (show W2 o_X12 M_X12_sign (inN [64, 67, 68, 69, 70]) (d + 2) Q 122 [some (mR 69), some (mI a), some (mI x), some (mI y), some (mI 0), some (mI 9)] [] G from ?_)
              refine w2_vc [46, 49, 58, 70, 83, 96, 109, 122, 135, 148, 157] 400 oo_X12 q_X12_sign ?_
              refine (show W2 o_X12 M_X12_sign (inN [64, 67, 68, 69, 70]) (d + 2) Q 148 [some (mR 69), some (mI a), some (mI x), some (mI y), some (mI 0), some (mI 9)] [] G from ?_)
              refine w2_vc [46, 49, 58, 70, 83, 96, 109, 122, 135, 148, 157] 400 oo_X12 q_X12_sign ?_
              refine sp_X12_token (by omega) (insub (by decide)) ?_
              refine (show W2 o_X12 M_X12_sign (inN [64, 67, 68, 69, 70]) (d + 2) Q 157 [some (mR 69), some (mI a), some (mI x), some (mI y), some (mI 0), some (mI 9)] [] (e_X12_token G 9 a 0 0) from ?_)
              refine w2_vc [46, 49, 58, 70, 83, 96, 109, 122, 135, 148, 157] 400 oo_X12 q_X12_sign ?_
              refine ⟨fun _ => ?_, fun (c : (0 : Int) < 0) => absurd c (by decide)⟩
              exact h
          · rw [if_neg (fun q => q c26)] at h
            refine (show W2 o_X12 M_X12_sign (inN [64, 67, 68, 69, 70]) (d + 2) Q 109 [some (mR 69), some (mI a), some (mI x), some (mI y), some (mI 0), some (mI 8)] [] G from ?_)
            refine w2_vc [46, 49, 58, 70, 83, 96, 109, 122, 135, 148, 157] 400 oo_X12 q_X12_sign ?_
            refine (show W2 o_X12 M_X12_sign (inN [64, 67, 68, 69, 70]) (d + 2) Q 148 [some (mR 69), some (mI a), some (mI x), some (mI y), some (mI 0), some (mI 8)] [] G from ?_)
            refine w2_vc [46, 49, 58, 70, 83, 96, 109, 122, 135, 148, 157] 400 oo_X12 q_X12_sign ?_
            refine sp_X12_token (by omega) (insub (by decide)) ?_
            refine (show W2 o_X12 M_X12_sign (inN [64, 67, 68, 69, 70]) (d + 2) Q 157 [some (mR 69), some (mI a), some (mI x), some (mI y), some (mI 0), some (mI 8)] [] (e_X12_token G 8 a 0 0) from ?_)
            refine w2_vc [46, 49, 58, 70, 83, 96, 109, 122, 135, 148, 157] 400 oo_X12 q_X12_sign ?_
            refine ⟨fun _ => ?_, fun (c : (0 : Int) < 0) => absurd c (by decide)⟩
            exact h
        · rw [if_neg (fun q => q c25)] at h
          refine (show W2 o_X12 M_X12_sign (inN [64, 67, 68, 69, 70]) (d + 2) Q 96 [some (mR 69), some (mI a), some (mI x), some (mI y), some (mI 0), some (mI 7)] [] G from ?_)
          refine w2_vc [46, 49, 58, 70, 83, 96, 109, 122, 135, 148, 157] 400 oo_X12 q_X12_sign ?_
          refine (show W2 o_X12 M_X12_sign (inN [64, 67, 68, 69, 70]) (d + 2) Q 148 [some (mR 69), some (mI a), some (mI x), some (mI y), some (mI 0), some (mI 7)] [] G from ?_)
          refine w2_vc [46, 49, 58, 70, 83, 96, 109, 122, 135, 148, 157] 400 oo_X12 q_X12_sign ?_
          refine sp_X12_token (by omega) (insub (by decide)) ?_
          refine (show W2 o_X12 M_X12_sign (inN [64, 67, 68, 69, 70]) (d + 2) Q 157 [some (mR 69), some (mI a), some (mI x), some (mI y), some (mI 0), some (mI 7)] [] (e_X12_token G 7 a 0 0) from ?_)
          refine w2_vc [46, 49, 58, 70, 83, 96, 109, 122, 135, 148, 157] 400 oo_X12 q_X12_sign ?_
          refine ⟨fun _ => ?_, fun (c : (0 : Int) < 0) => absurd c (by decide)⟩
          exact h
      · rw [if_neg (fun q => q c24)] at h
        refine (show W2 o_X12 M_X12_sign (inN [64, 67, 68, 69, 70]) (d + 2) Q 83 [some (mR 69), some (mI a), some (mI x), some (mI y), some (mI 0), some (mI 6)] [] G from ?_)
        refine w2_vc [46, 49, 58, 70, 83, 96, 109, 122, 135, 148, 157] 400 oo_X12 q_X12_sign ?_
        refine (show W2 o_X12 M_X12_sign (inN [64, 67, 68, 69, 70]) (d + 2) Q 148 [some (mR 69), some (mI a), some (mI x), some (mI y), some (mI 0), some (mI 6)] [] G from ?_)
        refine w2_vc [46, 49, 58, 70, 83, 96, 109, 122, 135, 148, 157] 400 oo_X12 q_X12_sign ?_
        refine sp_X12_token (by omega) (insub (by decide)) ?_
        refine (show W2 o_X12 M_X12_sign (inN [64, 67, 68, 69, 70]) (d + 2) Q 157 [some (mR 69), some (mI a), some (mI x), some (mI y), some (mI 0), some (mI 6)] [] (e_X12_token G 6 a 0 0) from ?_)
        refine w2_vc [46, 49, 58, 70, 83, 96, 109, 122, 135, 148, 157] 400 oo_X12 q_X12_sign ?_
        refine ⟨fun _ => ?_, fun (c : (0 : Int) < 0) => absurd c (by decide)⟩
        exact h
    · rw [if_neg (fun q => q c23)] at h
      refine (show W2 o_X12 M_X12_sign (inN [64, 67, 68, 69, 70]) (d + 2) Q 70 [some (mR 69), some (mI a), some (mI x), some (mI y), some (mI 0), some (mI 4)] [] G from ?_)
      refine w2_vc [46, 49, 58, 70, 83, 96, 109, 122, 135, 148, 157] 400 oo_X12 q_X12_sign ?_
      refine (show W2 o_X12 M_X12_sign (inN [64, 67, 68, 69, 70]) (d + 2) Q 148 [some (mR 69), some (mI a), some (mI x), some (mI y), some (mI 0), some (mI 4)] [] G from ?_)
      refine w2_vc [46, 49, 58, 70, 83, 96, 109, 122, 135, 148, 157] 400 oo_X12 q_X12_sign ?_
      refine sp_X12_token (by omega) (insub (by decide)) ?_
      refine (show W2 o_X12 M_X12_sign (inN [64, 67, 68, 69, 70]) (d + 2) Q 157 [some (mR 69), some (mI a), some (mI x), some (mI y), some (mI 0), some (mI 4)] [] (e_X12_token G 4 a 0 0) from ?_)
      refine w2_vc [46, 49, 58, 70, 83, 96, 109, 122, 135, 148, 157] 400 oo_X12 q_X12_sign ?_
      refine ⟨fun _ => ?_, fun (c : (0 : Int) < 0) => absurd c (by decide)⟩
      exact h
def f_X12_is (G : mG) (x : Int) : Int := (if ¬ (G 64 13) = 0 then 0 else (if ¬ (G 67 (Int.toNat (G 64 11))) = x then 0 else 1))
theorem sp_X12_is {D : Nat → Bool} {d : Nat} {G : mG} {x : Int} {Q : Option mV → mG → Prop} (hT : 0 ≤ G 64 11 ∧ G 64 11 ≤ 602) (h : Q (some (mI (f_X12_is G x))) G) : P2 D (d + 1) M_X12_is [mR 69, mI x] G Q := by
  unfold f_X12_is at h
  refine p2_vc [] 400 oo_X12 q_X12_is (by decide) rfl (Nat.le_of_ble_eq_true rfl) ?_
  refine ⟨fun (c1 : ¬ (G 64 13) = 0) => ?_, fun (c1 : (G 64 13) = 0) => ?_⟩
  · rw [if_pos c1] at h
    exact ⟨by omega, h⟩
  · rw [if_neg (fun q => q c1)] at h
    refine ⟨(show 0 ≤ (G 64 11) ∧ (G 64 11) < ((603 : Nat) : Int) from by first | omega | (simp (disch := omega) only [w32_i]; omega)), ?_⟩
    refine ⟨fun (c2 : ¬ (G 67 (Int.toNat (G 64 11))) = x) => ?_, fun (c2 : (G 67 (Int.toNat (G 64 11))) = x) => ?_⟩
    · rw [if_pos c2] at h
      exact ⟨by omega, h⟩
    · rw [if_neg (fun q => q c2)] at h
      exact ⟨by omega, h⟩
theorem fa_X12_is (G : mG) (x : Int) : (f_X12_is G x = 1 ∧ G 64 13 = 0 ∧ G 67 (Int.toNat (G 64 11)) = x) ∨ (f_X12_is G x = 0 ∧ ¬ (G 64 13 = 0 ∧ G 67 (Int.toNat (G 64 11)) = x)) := by
  unfold f_X12_is
  repeat' split
  all_goals omega
def e_X12_fail (G : mG) (x : Int) : mG := (if (G 64 13) ≤ 0 then (gs (gs G 64 13 x) 64 14 (G 68 (Int.toNat (G 64 11)))) else G)
theorem frp_X12_fail_64 {G : mG} {x : Int} {i : Nat} (hj : ∀ a ∈ ([13, 14] : List Nat), i ≠ a) : (e_X12_fail G x) 64 i = G 64 i := by
  unfold e_X12_fail
  repeat' with_reducible first | apply ite_f | apply ite_f2 | apply ite_p | apply ite_p2
  all_goals first | (simp only [gs_at_ne (hj 13 (by simp)), gs_at_ne (hj 14 (by simp))]; done) | rfl
theorem fr_X12_fail {G : mG} {x : Int} {k : Nat} (hk : ∀ a ∈ ([64] : List Nat), k ≠ a) : (e_X12_fail G x) k = G k := by
  unfold e_X12_fail
  repeat' with_reducible first | apply ite_f | apply ite_f2 | apply ite_p | apply ite_p2
  all_goals first | (simp only [gs_ne (hk (64) (by simp))]; done) | rfl
theorem sp_X12_fail {D : Nat → Bool} {d : Nat} {G : mG} {x : Int} {Q : Option mV → mG → Prop} (hT : 0 ≤ G 64 11 ∧ G 64 11 ≤ 602) (hD : ∀ k, D k = false → inN [64] k = false) (h : Q none (e_X12_fail G x)) : P2 D (d + 1) M_X12_fail [mR 69, mI x] G Q := by
  unfold e_X12_fail at h
  refine MP.to (D2 := inN [64]) (Q2 := Q) ?_ hD (fun v G' q _ => q)
  refine p2_vc [13, 26] 400 oo_X12 q_X12_fail (by decide) rfl (Nat.le_of_ble_eq_true rfl) ?_
  refine ⟨fun (c1 : (G 64 13) ≤ 0) => ?_, fun (c1 : 0 < (G 64 13)) => ?_⟩
  · rw [if_pos c1] at h
    refine (show W2 o_X12 M_X12_fail (inN [64]) (d + 1) Q 13 [some (mR 69), some (mI x)] [] (gs G 64 13 x) from ?_)
    refine w2_vc [13, 26] 400 oo_X12 q_X12_fail ?_
    refine ⟨(show 0 ≤ (G 64 11) ∧ (G 64 11) < ((603 : Nat) : Int) from by first | omega | (simp (disch := omega) only [w32_i]; omega)), ?_⟩
    refine (show W2 o_X12 M_X12_fail (inN [64]) (d + 1) Q 26 [some (mR 69), some (mI x)] [] (gs (gs G 64 13 x) 64 14 (G 68 (Int.toNat (G 64 11)))) from ?_)
    refine w2_vc [13, 26] 400 oo_X12 q_X12_fail ?_
    exact h
  · rw [if_neg (Int.not_le.mpr c1)] at h
    exact h
def e_X12_wrong (G : mG) (x : Int) (y : Int) : mG := (if 0 < (G 64 13) then G else (if (G 64 15) = 0 then (gs (gs G 64 15 x) 64 16 (G 68 (Int.toNat y))) else (if (G 64 16) < (G 68 (Int.toNat y)) then G else (if ¬ (G 68 (Int.toNat y)) = (G 64 16) then (gs (gs G 64 15 x) 64 16 (G 68 (Int.toNat y))) else (if x < (G 64 15) then (gs (gs G 64 15 x) 64 16 (G 68 (Int.toNat y))) else G)))))
theorem frp_X12_wrong_64 {G : mG} {x : Int} {y : Int} {i : Nat} (hj : ∀ a ∈ ([15, 16] : List Nat), i ≠ a) : (e_X12_wrong G x y) 64 i = G 64 i := by
  unfold e_X12_wrong
  repeat' with_reducible first | apply ite_f | apply ite_f2 | apply ite_p | apply ite_p2
  all_goals first | (simp only [gs_at_ne (hj 15 (by simp)), gs_at_ne (hj 16 (by simp))]; done) | rfl
theorem fr_X12_wrong {G : mG} {x : Int} {y : Int} {k : Nat} (hk : ∀ a ∈ ([64] : List Nat), k ≠ a) : (e_X12_wrong G x y) k = G k := by
  unfold e_X12_wrong
  repeat' with_reducible first | apply ite_f | apply ite_f2 | apply ite_p | apply ite_p2
  all_goals first | (simp only [gs_ne (hk (64) (by simp))]; done) | rfl
theorem sp_X12_wrong {D : Nat → Bool} {d : Nat} {G : mG} {x : Int} {y : Int} {Q : Option mV → mG → Prop} (hy : 0 ≤ y ∧ y ≤ 602) (hD : ∀ k, D k = false → inN [64] k = false) (h : Q none (e_X12_wrong G x y)) : P2 D (d + 1) M_X12_wrong [mR 69, mI x, mI y] G Q := by
  unfold e_X12_wrong at h
  refine MP.to (D2 := inN [64]) (Q2 := Q) ?_ hD (fun v G' q _ => q)
  refine p2_vc [51, 56] 400 oo_X12 q_X12_wrong (by decide) rfl (Nat.le_of_ble_eq_true rfl) ?_
  refine ⟨(show 0 ≤ y ∧ y < ((603 : Nat) : Int) from by first | omega | (simp (disch := omega) only [w32_i]; omega)), ?_⟩
  refine ⟨fun (c1 : 0 < (G 64 13)) => ?_, fun (c1 : (G 64 13) ≤ 0) => ?_⟩
  · rw [if_pos c1] at h
    exact h
  · rw [if_neg (Int.not_lt.mpr c1)] at h
    refine ⟨fun (c2 : (G 64 15) = 0) => ?_, fun (c2 : ¬ (G 64 15) = 0) => ?_⟩
    · rw [if_pos c2] at h
      refine (show W2 o_X12 M_X12_wrong (inN [64]) (d + 1) Q 51 [some (mR 69), some (mI x), some (mI y), some (mI (G 68 (Int.toNat y)))] [] (gs G 64 15 x) from ?_)
      refine w2_vc [51, 56] 400 oo_X12 q_X12_wrong ?_
      refine (show W2 o_X12 M_X12_wrong (inN [64]) (d + 1) Q 56 [some (mR 69), some (mI x), some (mI y), some (mI (G 68 (Int.toNat y)))] [] (gs (gs G 64 15 x) 64 16 (G 68 (Int.toNat y))) from ?_)
      refine w2_vc [51, 56] 400 oo_X12 q_X12_wrong ?_
      exact h
    · rw [if_neg (c2)] at h
      refine ⟨fun (c3 : (G 64 16) < (G 68 (Int.toNat y))) => ?_, fun (c3 : (G 68 (Int.toNat y)) ≤ (G 64 16)) => ?_⟩
      · rw [if_pos c3] at h
        exact h
      · rw [if_neg (Int.not_lt.mpr c3)] at h
        refine ⟨fun (c4 : ¬ (G 68 (Int.toNat y)) = (G 64 16)) => ?_, fun (c4 : (G 68 (Int.toNat y)) = (G 64 16)) => ?_⟩
        · rw [if_pos c4] at h
          refine (show W2 o_X12 M_X12_wrong (inN [64]) (d + 1) Q 51 [some (mR 69), some (mI x), some (mI y), some (mI (G 68 (Int.toNat y)))] [] (gs G 64 15 x) from ?_)
          refine w2_vc [51, 56] 400 oo_X12 q_X12_wrong ?_
          refine (show W2 o_X12 M_X12_wrong (inN [64]) (d + 1) Q 56 [some (mR 69), some (mI x), some (mI y), some (mI (G 68 (Int.toNat y)))] [] (gs (gs G 64 15 x) 64 16 (G 68 (Int.toNat y))) from ?_)
          refine w2_vc [51, 56] 400 oo_X12 q_X12_wrong ?_
          exact h
        · rw [if_neg (fun q => q c4)] at h
          refine ⟨fun (c5 : x < (G 64 15)) => ?_, fun (c5 : (G 64 15) ≤ x) => ?_⟩
          · rw [if_pos c5] at h
            refine (show W2 o_X12 M_X12_wrong (inN [64]) (d + 1) Q 51 [some (mR 69), some (mI x), some (mI y), some (mI (G 68 (Int.toNat y)))] [] (gs G 64 15 x) from ?_)
            refine w2_vc [51, 56] 400 oo_X12 q_X12_wrong ?_
            refine (show W2 o_X12 M_X12_wrong (inN [64]) (d + 1) Q 56 [some (mR 69), some (mI x), some (mI y), some (mI (G 68 (Int.toNat y)))] [] (gs (gs G 64 15 x) 64 16 (G 68 (Int.toNat y))) from ?_)
            refine w2_vc [51, 56] 400 oo_X12 q_X12_wrong ?_
            exact h
          · rw [if_neg (Int.not_lt.mpr c5)] at h
            exact h
def e_X12_next (G : mG) : mG := (if ¬ (G 64 11) = 600 then (gs G 64 11 (w32 ((G 64 11) + 1))) else (e_X12_fail G 2))
theorem frp_X12_next_64 {G : mG} {i : Nat} (hj : ∀ a ∈ ([11, 13, 14] : List Nat), i ≠ a) : (e_X12_next G ) 64 i = G 64 i := by
  unfold e_X12_next
  repeat' with_reducible first | apply ite_f | apply ite_f2 | apply ite_p | apply ite_p2
  all_goals first | (simp only [gs_at_ne (hj 11 (by simp)), gs_at_ne (hj 13 (by simp)), gs_at_ne (hj 14 (by simp)), frp_X12_fail_64 (fun a ha => hj a (by simp only [List.mem_cons, List.not_mem_nil, or_false] at ha ⊢; omega))]; done) | rfl
theorem fr_X12_next {G : mG} {k : Nat} (hk : ∀ a ∈ ([64] : List Nat), k ≠ a) : (e_X12_next G ) k = G k := by
  unfold e_X12_next
  repeat' with_reducible first | apply ite_f | apply ite_f2 | apply ite_p | apply ite_p2
  all_goals first | (simp only [gs_ne (hk (64) (by simp)), fr_X12_fail (fun a ha => hk a (by simp only [List.mem_cons, List.not_mem_nil, or_false] at ha ⊢; omega))]; done) | rfl
theorem sp_X12_next {D : Nat → Bool} {d : Nat} {G : mG} {Q : Option mV → mG → Prop} (hT : 0 ≤ G 64 11 ∧ G 64 11 ≤ 602) (hD : ∀ k, D k = false → inN [64] k = false) (h : Q none (e_X12_next G )) : P2 D (d + 2) M_X12_next [mR 69] G Q := by
  unfold e_X12_next at h
  refine MP.to (D2 := inN [64]) (Q2 := Q) ?_ hD (fun v G' q _ => q)
  refine p2_vc [28] 400 oo_X12 q_X12_next (by decide) rfl (Nat.le_of_ble_eq_true rfl) ?_
  refine ⟨fun (c1 : ¬ (G 64 11) = 600) => ?_, fun (c1 : (G 64 11) = 600) => ?_⟩
  · rw [if_pos c1] at h
    refine (show W2 o_X12 M_X12_next (inN [64]) (d + 2) Q 28 [some (mR 69)] [] (gs G 64 11 (w32 ((G 64 11) + 1))) from ?_)
    refine w2_vc [28] 400 oo_X12 q_X12_next ?_
    exact h
  · rw [if_neg (fun q => q c1)] at h
    refine sp_X12_fail (by omega) (insub (by decide)) ?_
    refine (show W2 o_X12 M_X12_next (inN [64]) (d + 2) Q 28 [some (mR 69)] [] (e_X12_fail G 2) from ?_)
    refine w2_vc [28] 400 oo_X12 q_X12_next ?_
    exact h
def e_X12_must (G : mG) (x : Int) : mG := (if (f_X12_is G x) = 0 then (e_X12_fail G 1) else (e_X12_next G ))
theorem frp_X12_must_64 {G : mG} {x : Int} {i : Nat} (hj : ∀ a ∈ ([11, 13, 14] : List Nat), i ≠ a) : (e_X12_must G x) 64 i = G 64 i := by
  unfold e_X12_must
  repeat' with_reducible first | apply ite_f | apply ite_f2 | apply ite_p | apply ite_p2
  all_goals first | (simp only [gs_at_ne (hj 11 (by simp)), gs_at_ne (hj 13 (by simp)), gs_at_ne (hj 14 (by simp)), frp_X12_fail_64 (fun a ha => hj a (by simp only [List.mem_cons, List.not_mem_nil, or_false] at ha ⊢; omega)), frp_X12_next_64 (fun a ha => hj a (by simp only [List.mem_cons, List.not_mem_nil, or_false] at ha ⊢; omega))]; done) | rfl
theorem fr_X12_must {G : mG} {x : Int} {k : Nat} (hk : ∀ a ∈ ([64] : List Nat), k ≠ a) : (e_X12_must G x) k = G k := by
  unfold e_X12_must
  repeat' with_reducible first | apply ite_f | apply ite_f2 | apply ite_p | apply ite_p2
  all_goals first | (simp only [gs_ne (hk (64) (by simp)), fr_X12_fail (fun a ha => hk a (by simp only [List.mem_cons, List.not_mem_nil, or_false] at ha ⊢; omega)), fr_X12_next (fun a ha => hk a (by simp only [List.mem_cons, List.not_mem_nil, or_false] at ha ⊢; omega))]; done) | rfl
theorem sp_X12_must {D : Nat → Bool} {d : Nat} {G : mG} {x : Int} {Q : Option mV → mG → Prop} (hT : 0 ≤ G 64 11 ∧ G 64 11 ≤ 602) (hD : ∀ k, D k = false → inN [64] k = false) (h : Q none (e_X12_must G x)) : P2 D (d + 3) M_X12_must [mR 69, mI x] G Q := by
  unfold e_X12_must at h
  refine MP.to (D2 := inN [64]) (Q2 := Q) ?_ hD (fun v G' q _ => q)
  refine p2_vc [] 400 oo_X12 q_X12_must (by decide) rfl (Nat.le_of_ble_eq_true rfl) ?_
  refine sp_X12_is (by omega) ?_
  have c2 := fa_X12_is G x
  refine ⟨fun (c3 : (f_X12_is G x) = 0) => ?_, fun (c3 : ¬ (f_X12_is G x) = 0) => ?_⟩
  · rw [if_pos c3] at h
    refine sp_X12_fail (by omega) (insub (by decide)) ?_
    exact h
  · rw [if_neg (c3)] at h
    refine sp_X12_next (by omega) (insub (by decide)) ?_
    exact h
def e_X12_emit (G : mG) (x : Int) (y : Int) : mG := (gs (gs (gs G 91 (Int.toNat (G 64 39)) x) 92 (Int.toNat (G 64 39)) y) 64 39 (w32 ((G 64 39) + 1)))
theorem frp_X12_emit_64 {G : mG} {x : Int} {y : Int} {i : Nat} (hj : ∀ a ∈ ([39] : List Nat), i ≠ a) : (e_X12_emit G x y) 64 i = G 64 i := by
  unfold e_X12_emit
  repeat' with_reducible first | apply ite_f | apply ite_f2 | apply ite_p | apply ite_p2
  all_goals first | (simp only [gs_at_ne (hj 39 (by simp)), gs_ne (show (64) ≠ (91) from by omega), gs_ne (show (64) ≠ (92) from by omega)]; done) | rfl
theorem fr_X12_emit {G : mG} {x : Int} {y : Int} {k : Nat} (hk : ∀ a ∈ ([64, 91, 92] : List Nat), k ≠ a) : (e_X12_emit G x y) k = G k := by
  unfold e_X12_emit
  repeat' with_reducible first | apply ite_f | apply ite_f2 | apply ite_p | apply ite_p2
  all_goals first | (simp only [gs_ne (hk (64) (by simp)), gs_ne (hk (91) (by simp)), gs_ne (hk (92) (by simp))]; done) | rfl
theorem sp_X12_emit {D : Nat → Bool} {d : Nat} {G : mG} {x : Int} {y : Int} {Q : Option mV → mG → Prop} (hq : 0 ≤ G 64 39 ∧ G 64 39 < 1400) (hD : ∀ k, D k = false → inN [64, 91, 92] k = false) (h : Q none (e_X12_emit G x y)) : P2 D (d + 1) M_X12_emit [mR 69, mI x, mI y] G Q := by
  unfold e_X12_emit at h
  refine MP.to (D2 := inN [64, 91, 92]) (Q2 := Q) ?_ hD (fun v G' q _ => q)
  refine p2_vc [10, 20, 30] 400 oo_X12 q_X12_emit (by decide) rfl (Nat.le_of_ble_eq_true rfl) ?_
  refine ⟨(show 0 ≤ (G 64 39) ∧ (G 64 39) < ((1400 : Nat) : Int) from by first | omega | (simp (disch := omega) only [w32_i]; omega)), ?_⟩
  refine (show W2 o_X12 M_X12_emit (inN [64, 91, 92]) (d + 1) Q 10 [some (mR 69), some (mI x), some (mI y)] [] (gs G 91 (Int.toNat (G 64 39)) x) from ?_)
  refine w2_vc [10, 20, 30] 400 oo_X12 q_X12_emit ?_
  refine ⟨(show 0 ≤ (G 64 39) ∧ (G 64 39) < ((1400 : Nat) : Int) from by first | omega | (simp (disch := omega) only [w32_i]; omega)), ?_⟩
  refine (show W2 o_X12 M_X12_emit (inN [64, 91, 92]) (d + 1) Q 20 [some (mR 69), some (mI x), some (mI y)] [] (gs (gs G 91 (Int.toNat (G 64 39)) x) 92 (Int.toNat (G 64 39)) y) from ?_)
  refine w2_vc [10, 20, 30] 400 oo_X12 q_X12_emit ?_
  refine (show W2 o_X12 M_X12_emit (inN [64, 91, 92]) (d + 1) Q 30 [some (mR 69), some (mI x), some (mI y)] [] (gs (gs (gs G 91 (Int.toNat (G 64 39)) x) 92 (Int.toNat (G 64 39)) y) 64 39 (w32 ((G 64 39) + 1))) from ?_)
  refine w2_vc [10, 20, 30] 400 oo_X12 q_X12_emit ?_
  exact h
