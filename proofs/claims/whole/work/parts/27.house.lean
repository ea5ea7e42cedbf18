/-! ===== printed by wip/whole/gen27.py: the house ===== -/
theorem fa_X3_areKnown (G : mG) (n : Int) : (f_X3_areKnown G n = 1 ∧ 0 ≤ n ∧ n ≤ G 8 4) ∨ (f_X3_areKnown G n = 0 ∧ ¬ (0 ≤ n ∧ n ≤ G 8 4)) := by
  unfold f_X3_areKnown
  repeat' split
  all_goals omega
def g_X9_append_3 (G : mG) (x : Int) : Nat → mG → mG := fun j1 s1 => (if (s1 13 1) < 0 then s1 else (if ((3000 : Nat) : Int) ≤ (s1 13 1) then s1 else (gs (gs s1 14 (Int.toNat (s1 13 1)) (w8 (w8 (mUshr x (24 - 8 * ((j1 : Nat) : Int)))))) 13 1 (w32 ((s1 13 1) + 1)))))
def e_X9_append (G : mG) (x : Int) : mG := (fd (g_X9_append_3 G x) G 4)
theorem fr_g_X9_append_3 (G : mG) (x : Int) {k : Nat} (hk : ∀ a ∈ ([13, 14] : List Nat), k ≠ a) (j : Nat) (s : mG) : (g_X9_append_3 G x j s) k = s k := by
  unfold g_X9_append_3
  repeat' with_reducible first | apply ite_f | apply ite_f2 | apply ite_p | apply ite_p2
  all_goals first | (simp only [gs_ne (hk (13) (by simp)), gs_ne (hk (14) (by simp))]; done) | rfl
theorem frp_g_X9_append_3_13 (G : mG) (x : Int) {i : Nat} (hj : ∀ a ∈ ([1] : List Nat), i ≠ a) (j : Nat) (s : mG) : (g_X9_append_3 G x j s) 13 i = s 13 i := by
  unfold g_X9_append_3
  repeat' with_reducible first | apply ite_f | apply ite_f2 | apply ite_p | apply ite_p2
  all_goals first | (simp only [gs_at_ne (hj 1 (by simp)), gs_ne (show (13) ≠ (14) from by omega)]; done) | rfl
theorem frp_X9_append_13 {G : mG} {x : Int} {i : Nat} (hj : ∀ a ∈ ([1] : List Nat), i ≠ a) : (e_X9_append G x) 13 i = G 13 i := by
  unfold e_X9_append
  repeat' with_reducible first | apply ite_f | apply ite_f2 | apply ite_p | apply ite_p2
  all_goals first | (simp only [gs_at_ne (hj 1 (by simp)), gs_ne (show (13) ≠ (14) from by omega), fd_frp (frp_g_X9_append_3_13 _ _ hj)]; done) | rfl
theorem fr_X9_append {G : mG} {x : Int} {k : Nat} (hk : ∀ a ∈ ([13, 14] : List Nat), k ≠ a) : (e_X9_append G x) k = G k := by
  unfold e_X9_append
  repeat' with_reducible first | apply ite_f | apply ite_f2 | apply ite_p | apply ite_p2
  all_goals first | (simp only [gs_ne (hk (13) (by simp)), gs_ne (hk (14) (by simp)), fd_fr (fr_g_X9_append_3 _ _ hk)]; done) | rfl
theorem sp_X9_append {D : Nat → Bool} {d : Nat} {G : mG} {x : Int} {Q : Option mV → mG → Prop} (hD : ∀ k, D k = false → inN [13, 14] k = false) (h : Q none (e_X9_append G x)) : P2 D (d + 1) M_X9_append [mR 18, mI x] G Q := by
  unfold e_X9_append at h
  refine MP.to (D2 := inN [13, 14]) (Q2 := Q) ?_ hD (fun v G' q _ => q)
  refine p2_vc [3, 39, 49] 400 oo_X9 q_X9_append (by decide) rfl (Nat.le_of_ble_eq_true rfl) ?_
  refine (show W2 o_X9 M_X9_append (inN [13, 14]) (d + 1) Q 3 [some (mR 18), some (mI x), some (mI (24 - 8 * ((0 : Nat) : Int)))] [] G from ?_)
  refine lup (g_X9_append_3 G x) G (fun j1 s1 => W2 o_X9 M_X9_append (inN [13, 14]) (d + 1) Q 3 [some (mR 18), some (mI x), some (mI (24 - 8 * ((j1 : Nat) : Int)))] [] s1) 4 (fun j1 s1 hj1 ih1 => ?_) ?_
  · have ih1 : W2 o_X9 M_X9_append (inN [13, 14]) (d + 1) Q 3 [some (mR 18), some (mI x), some (mI (24 - 8 * ((j1 + 1 : Nat) : Int)))] [] (g_X9_append_3 G x j1 s1) := ih1
    unfold g_X9_append_3 at ih1
    refine w2_vc [3, 39, 49] 400 oo_X9 q_X9_append ?_
    refine ⟨fun (c1 : (24 - 8 * ((j1 : Nat) : Int)) < 0) => ?_, fun (c1 : 0 ≤ (24 - 8 * ((j1 : Nat) : Int))) => ?_⟩
    · skip
      exfalso; first | omega | (rw [w32_i (by omega) (by omega)] at c1; omega) | (simp (disch := omega) only [w32_i] at *; omega)
    · skip
      refine ⟨fun (c2 : (s1 13 1) < 0) => ?_, fun (c2 : 0 ≤ (s1 13 1)) => ?_⟩
      · rw [if_pos c2] at ih1
        refine (show W2 o_X9 M_X9_append (inN [13, 14]) (d + 1) Q 49 [some (mR 18), some (mI x), some (mI (24 - 8 * ((j1 : Nat) : Int)))] [] s1 from ?_)
        refine w2_vc [3, 39, 49] 400 oo_X9 q_X9_append ?_
        refine (show W2 o_X9 M_X9_append (inN [13, 14]) (d + 1) Q 3 [some (mR 18), some (mI x), some (mI (w32 ((24 - 8 * ((j1 : Nat) : Int)) + (-8))))] [] s1 from ?_)
        rw [show w32 (24 - 8 * ((j1 : Nat) : Int) + (-8)) = 24 - 8 * ((j1 + 1 : Nat) : Int) from by rw [w32_i (by omega) (by omega)]; omega]
        exact ih1
      · rw [if_neg (Int.not_lt.mpr c2)] at ih1
        refine ⟨fun (c3 : ((3000 : Nat) : Int) ≤ (s1 13 1)) => ?_, fun (c3 : (s1 13 1) < ((3000 : Nat) : Int)) => ?_⟩
        · rw [if_pos c3] at ih1
          refine (show W2 o_X9 M_X9_append (inN [13, 14]) (d + 1) Q 49 [some (mR 18), some (mI x), some (mI (24 - 8 * ((j1 : Nat) : Int)))] [] s1 from ?_)
          refine w2_vc [3, 39, 49] 400 oo_X9 q_X9_append ?_
          refine (show W2 o_X9 M_X9_append (inN [13, 14]) (d + 1) Q 3 [some (mR 18), some (mI x), some (mI (w32 ((24 - 8 * ((j1 : Nat) : Int)) + (-8))))] [] s1 from ?_)
          rw [show w32 (24 - 8 * ((j1 : Nat) : Int) + (-8)) = 24 - 8 * ((j1 + 1 : Nat) : Int) from by rw [w32_i (by omega) (by omega)]; omega]
          exact ih1
        · rw [if_neg (Int.not_le.mpr c3)] at ih1
          refine ⟨(show 0 ≤ (s1 13 1) ∧ (s1 13 1) < ((3000 : Nat) : Int) from by first | omega | (simp (disch := omega) only [w32_i]; omega)), ?_⟩
          refine (show W2 o_X9 M_X9_append (inN [13, 14]) (d + 1) Q 39 [some (mR 18), some (mI x), some (mI (24 - 8 * ((j1 : Nat) : Int)))] [] (gs s1 14 (Int.toNat (s1 13 1)) (w8 (w8 (mUshr x (24 - 8 * ((j1 : Nat) : Int)))))) from ?_)
          refine w2_vc [3, 39, 49] 400 oo_X9 q_X9_append ?_
          refine (show W2 o_X9 M_X9_append (inN [13, 14]) (d + 1) Q 49 [some (mR 18), some (mI x), some (mI (24 - 8 * ((j1 : Nat) : Int)))] [] (gs (gs s1 14 (Int.toNat (s1 13 1)) (w8 (w8 (mUshr x (24 - 8 * ((j1 : Nat) : Int)))))) 13 1 (w32 ((s1 13 1) + 1))) from ?_)
          refine w2_vc [3, 39, 49] 400 oo_X9 q_X9_append ?_
          refine (show W2 o_X9 M_X9_append (inN [13, 14]) (d + 1) Q 3 [some (mR 18), some (mI x), some (mI (w32 ((24 - 8 * ((j1 : Nat) : Int)) + (-8))))] [] (gs (gs s1 14 (Int.toNat (s1 13 1)) (w8 (w8 (mUshr x (24 - 8 * ((j1 : Nat) : Int)))))) 13 1 (w32 ((s1 13 1) + 1))) from ?_)
          rw [show w32 (24 - 8 * ((j1 : Nat) : Int) + (-8)) = 24 - 8 * ((j1 + 1 : Nat) : Int) from by rw [w32_i (by omega) (by omega)]; omega]
          exact ih1
  · skip
    refine (show W2 o_X9 M_X9_append (inN [13, 14]) (d + 1) Q 3 [some (mR 18), some (mI x), some (mI (24 - 8 * ((4 : Nat) : Int)))] [] (fd (g_X9_append_3 G x) G 4) from ?_)
    refine w2_vc [3, 39, 49] 400 oo_X9 q_X9_append ?_
    refine ⟨fun (c4 : (24 - 8 * ((4 : Nat) : Int)) < 0) => ?_, fun (c4 : 0 ≤ (24 - 8 * ((4 : Nat) : Int))) => ?_⟩
    · skip
      exact h
    · skip
      exfalso; first | omega | (rw [w32_i (by omega) (by omega)] at c4; omega) | (simp (disch := omega) only [w32_i] at *; omega)
def r_X11_feed (G : mG) (a : Int) (b : Int) (x : Int) (y : Int) (z : Int) : Int × mG := (if ¬ (f_X9_hasRoomFor G 20) = 0 then ((f_X9_length (e_X9_append (e_X9_append (e_X9_append (e_X9_append (e_X9_append G a) b) x) y) z) ), (e_X9_append (e_X9_append (e_X9_append (e_X9_append (e_X9_append G a) b) x) y) z)) else ((-1), G))
theorem frp_X11_feed_13 {G : mG} {a : Int} {b : Int} {x : Int} {y : Int} {z : Int} {i : Nat} (hj : ∀ a ∈ ([1] : List Nat), i ≠ a) : (r_X11_feed G a b x y z).2 13 i = G 13 i := by
  unfold r_X11_feed
  repeat' with_reducible first | apply ite_f | apply ite_f2 | apply ite_p | apply ite_p2
  all_goals first | (simp only [gs_at_ne (hj 1 (by simp)), gs_ne (show (13) ≠ (14) from by omega), frp_X9_append_13 (fun a ha => hj a (by simp only [List.mem_cons, List.not_mem_nil, or_false] at ha ⊢; omega))]; done) | rfl
theorem fr_X11_feed {G : mG} {a : Int} {b : Int} {x : Int} {y : Int} {z : Int} {k : Nat} (hk : ∀ a ∈ ([13, 14] : List Nat), k ≠ a) : (r_X11_feed G a b x y z).2 k = G k := by
  unfold r_X11_feed
  repeat' with_reducible first | apply ite_f | apply ite_f2 | apply ite_p | apply ite_p2
  all_goals first | (simp only [gs_ne (hk (13) (by simp)), gs_ne (hk (14) (by simp)), fr_X9_append (fun a ha => hk a (by simp only [List.mem_cons, List.not_mem_nil, or_false] at ha ⊢; omega))]; done) | rfl
theorem sp_X11_feed {D : Nat → Bool} {d : Nat} {G : mG} {a : Int} {b : Int} {x : Int} {y : Int} {z : Int} {Q : Option mV → mG → Prop} (hD : ∀ k, D k = false → inN [13, 14] k = false) (h : Q (some (mI (r_X11_feed G a b x y z).1)) (r_X11_feed G a b x y z).2) : P2 D (d + 2) M_X11_feed [mR 5, mI a, mI b, mI x, mI y, mI z] G Q := by
  unfold r_X11_feed at h
  refine MP.to (D2 := inN [13, 14]) (Q2 := Q) ?_ hD (fun v G' q _ => q)
  refine p2_vc [9, 22, 30, 38, 47, 56, 63] 400 oo_X11 q_X11_feed (by decide) rfl (Nat.le_of_ble_eq_true rfl) ?_
  refine sp_X9_hasRoomFor  ?_
  refine (show W2 o_X11 M_X11_feed (inN [13, 14]) (d + 2) Q 9 [some (mR 5), some (mI a), some (mI b), some (mI x), some (mI y), some (mI z)] [mI (f_X9_hasRoomFor G 20)] G from ?_)
  refine w2_vc [9, 22, 30, 38, 47, 56, 63] 400 oo_X11 q_X11_feed ?_
  refine ⟨fun (c2 : ¬ (f_X9_hasRoomFor G 20) = 0) => ?_, fun (c2 : (f_X9_hasRoomFor G 20) = 0) => ?_⟩
  · rw [if_pos c2] at h
    refine sp_X9_append  (insub (by decide)) ?_
    refine (show W2 o_X11 M_X11_feed (inN [13, 14]) (d + 2) Q 22 [some (mR 5), some (mI a), some (mI b), some (mI x), some (mI y), some (mI z)] [] (e_X9_append G a) from ?_)
    refine w2_vc [9, 22, 30, 38, 47, 56, 63] 400 oo_X11 q_X11_feed ?_
    refine sp_X9_append  (insub (by decide)) ?_
    refine (show W2 o_X11 M_X11_feed (inN [13, 14]) (d + 2) Q 30 [some (mR 5), some (mI a), some (mI b), some (mI x), some (mI y), some (mI z)] [] (e_X9_append (e_X9_append G a) b) from ?_)
    refine w2_vc [9, 22, 30, 38, 47, 56, 63] 400 oo_X11 q_X11_feed ?_
    refine sp_X9_append  (insub (by decide)) ?_
    refine (show W2 o_X11 M_X11_feed (inN [13, 14]) (d + 2) Q 38 [some (mR 5), some (mI a), some (mI b), some (mI x), some (mI y), some (mI z)] [] (e_X9_append (e_X9_append (e_X9_append G a) b) x) from ?_)
    refine w2_vc [9, 22, 30, 38, 47, 56, 63] 400 oo_X11 q_X11_feed ?_
    refine sp_X9_append  (insub (by decide)) ?_
    refine (show W2 o_X11 M_X11_feed (inN [13, 14]) (d + 2) Q 47 [some (mR 5), some (mI a), some (mI b), some (mI x), some (mI y), some (mI z)] [] (e_X9_append (e_X9_append (e_X9_append (e_X9_append G a) b) x) y) from ?_)
    refine w2_vc [9, 22, 30, 38, 47, 56, 63] 400 oo_X11 q_X11_feed ?_
    refine sp_X9_append  (insub (by decide)) ?_
    refine (show W2 o_X11 M_X11_feed (inN [13, 14]) (d + 2) Q 56 [some (mR 5), some (mI a), some (mI b), some (mI x), some (mI y), some (mI z)] [] (e_X9_append (e_X9_append (e_X9_append (e_X9_append (e_X9_append G a) b) x) y) z) from ?_)
    refine w2_vc [9, 22, 30, 38, 47, 56, 63] 400 oo_X11 q_X11_feed ?_
    refine sp_X9_length  ?_
    refine (show W2 o_X11 M_X11_feed (inN [13, 14]) (d + 2) Q 63 [some (mR 5), some (mI a), some (mI b), some (mI x), some (mI y), some (mI z)] [mI (f_X9_length (e_X9_append (e_X9_append (e_X9_append (e_X9_append (e_X9_append G a) b) x) y) z) )] (e_X9_append (e_X9_append (e_X9_append (e_X9_append (e_X9_append G a) b) x) y) z) from ?_)
    generalize (e_X9_append (e_X9_append (e_X9_append (e_X9_append (e_X9_append G a) b) x) y) z) = H9 at h ⊢
    refine w2_vc [9, 22, 30, 38, 47, 56, 63] 400 oo_X11 q_X11_feed ?_
    exact h
  · rw [if_neg (fun q => q c2)] at h
    exact h
def r_X11_back (G : mG) (n : Int) : Int × mG := (if (r_X9_drop G n).1 = 0 then ((-1), (r_X9_drop G n).2) else ((f_X9_length (r_X9_drop G n).2 ), (r_X9_drop G n).2))
theorem frp_X11_back_13 {G : mG} {n : Int} {i : Nat} (hj : ∀ a ∈ ([1] : List Nat), i ≠ a) : (r_X11_back G n).2 13 i = G 13 i := by
  unfold r_X11_back
  repeat' with_reducible first | apply ite_f | apply ite_f2 | apply ite_p | apply ite_p2
  all_goals first | (simp only [gs_at_ne (hj 1 (by simp)), frp_X9_drop_13 (fun a ha => hj a (by simp only [List.mem_cons, List.not_mem_nil, or_false] at ha ⊢; omega))]; done) | rfl
theorem fr_X11_back {G : mG} {n : Int} {k : Nat} (hk : ∀ a ∈ ([13] : List Nat), k ≠ a) : (r_X11_back G n).2 k = G k := by
  unfold r_X11_back
  repeat' with_reducible first | apply ite_f | apply ite_f2 | apply ite_p | apply ite_p2
  all_goals first | (simp only [gs_ne (hk (13) (by simp)), fr_X9_drop (fun a ha => hk a (by simp only [List.mem_cons, List.not_mem_nil, or_false] at ha ⊢; omega))]; done) | rfl
theorem sp_X11_back {D : Nat → Bool} {d : Nat} {G : mG} {n : Int} {Q : Option mV → mG → Prop} (hD : ∀ k, D k = false → inN [13] k = false) (h : Q (some (mI (r_X11_back G n).1)) (r_X11_back G n).2) : P2 D (d + 2) M_X11_back [mR 5, mI n] G Q := by
  unfold r_X11_back at h
  refine MP.to (D2 := inN [13]) (Q2 := Q) ?_ hD (fun v G' q _ => q)
  refine p2_vc [] 400 oo_X11 q_X11_back (by decide) rfl (Nat.le_of_ble_eq_true rfl) ?_
  refine sp_X9_drop  (insub (by decide)) ?_
  refine ⟨fun (c2 : (r_X9_drop G n).1 = 0) => ?_, fun (c2 : ¬ (r_X9_drop G n).1 = 0) => ?_⟩
  · rw [if_pos c2] at h
    exact h
  · rw [if_neg (c2)] at h
    refine sp_X9_length  ?_
    exact h
def f_X11_place (G : mG) : Int := (G 0 10)
theorem sp_X11_place {D : Nat → Bool} {d : Nat} {G : mG} {Q : Option mV → mG → Prop} (h : Q (some (mI (f_X11_place G ))) G) : P2 D (d + 1) M_X11_place [mR 5] G Q := by
  unfold f_X11_place at h
  refine p2_vc [] 400 oo_X11 q_X11_place (by decide) rfl (Nat.le_of_ble_eq_true rfl) ?_
  exact h
def r_X11_board (G : mG) (a : Int) (b : Int) (x : Int) (y : Int) (z : Int) : Int × mG := ((r_X0_add G a b x y z).1, (r_X0_add G a b x y z).2)
theorem frp_X11_board_1 {G : mG} {a : Int} {b : Int} {x : Int} {y : Int} {z : Int} {i : Nat} (hj : ∀ a ∈ ([6] : List Nat), i ≠ a) : (r_X11_board G a b x y z).2 1 i = G 1 i := by
  unfold r_X11_board
  repeat' with_reducible first | apply ite_f | apply ite_f2 | apply ite_p | apply ite_p2
  all_goals first | (simp only [gs_at_ne (hj 6 (by simp)), gs_ne (show (1) ≠ (2) from by omega), gs_ne (show (1) ≠ (3) from by omega), gs_ne (show (1) ≠ (4) from by omega), gs_ne (show (1) ≠ (5) from by omega), gs_ne (show (1) ≠ (6) from by omega), frp_X0_add_1 (fun a ha => hj a (by simp only [List.mem_cons, List.not_mem_nil, or_false] at ha ⊢; omega))]; done) | rfl
theorem fr_X11_board {G : mG} {a : Int} {b : Int} {x : Int} {y : Int} {z : Int} {k : Nat} (hk : ∀ a ∈ ([1, 2, 3, 4, 5, 6] : List Nat), k ≠ a) : (r_X11_board G a b x y z).2 k = G k := by
  unfold r_X11_board
  repeat' with_reducible first | apply ite_f | apply ite_f2 | apply ite_p | apply ite_p2
  all_goals first | (simp only [gs_ne (hk (1) (by simp)), gs_ne (hk (2) (by simp)), gs_ne (hk (3) (by simp)), gs_ne (hk (4) (by simp)), gs_ne (hk (5) (by simp)), gs_ne (hk (6) (by simp)), fr_X0_add (fun a ha => hk a (by simp only [List.mem_cons, List.not_mem_nil, or_false] at ha ⊢; omega))]; done) | rfl
theorem sp_X11_board {D : Nat → Bool} {d : Nat} {G : mG} {a : Int} {b : Int} {x : Int} {y : Int} {z : Int} {Q : Option mV → mG → Prop} (hD : ∀ k, D k = false → inN [1, 2, 3, 4, 5, 6] k = false) (h : Q (some (mI (r_X11_board G a b x y z).1)) (r_X11_board G a b x y z).2) : P2 D (d + 3) M_X11_board [mR 5, mI a, mI b, mI x, mI y, mI z] G Q := by
  unfold r_X11_board at h
  refine MP.to (D2 := inN [1, 2, 3, 4, 5, 6]) (Q2 := Q) ?_ hD (fun v G' q _ => q)
  refine p2_vc [] 400 oo_X11 q_X11_board (by decide) rfl (Nat.le_of_ble_eq_true rfl) ?_
  refine sp_X0_add  (insub (by decide)) ?_
  exact h
theorem fa_X0_setPace (G : mG) (x y : Int) : (r_X0_setPace G x y).1 = 1 ∨ (r_X0_setPace G x y).1 = 0 := by
  unfold r_X0_setPace
  repeat' split
  all_goals simp
def r_X11_pace (G : mG) (x : Int) (y : Int) : Int × mG := ((r_X0_setPace G x y).1, (r_X0_setPace G x y).2)
theorem fr_X11_pace {G : mG} {x : Int} {y : Int} {k : Nat} (hk : ∀ a ∈ ([7] : List Nat), k ≠ a) : (r_X11_pace G x y).2 k = G k := by
  unfold r_X11_pace
  repeat' with_reducible first | apply ite_f | apply ite_f2 | apply ite_p | apply ite_p2
  all_goals first | (simp only [gs_ne (hk (7) (by simp)), fr_X0_setPace (fun a ha => hk a (by simp only [List.mem_cons, List.not_mem_nil, or_false] at ha ⊢; omega))]; done) | rfl
theorem sp_X11_pace {D : Nat → Bool} {d : Nat} {G : mG} {x : Int} {y : Int} {Q : Option mV → mG → Prop} (hD : ∀ k, D k = false → inN [7] k = false) (h : Q (some (mI (r_X11_pace G x y).1)) (r_X11_pace G x y).2) : P2 D (d + 3) M_X11_pace [mR 5, mI x, mI y] G Q := by
  unfold r_X11_pace at h
  refine MP.to (D2 := inN [7]) (Q2 := Q) ?_ hD (fun v G' q _ => q)
  refine p2_vc [] 400 oo_X11 q_X11_pace (by decide) rfl (Nat.le_of_ble_eq_true rfl) ?_
  refine sp_X0_setPace  (insub (by decide)) ?_
  have c2 := fa_X0_setPace G x y
  exact ⟨by omega, h⟩
def r_X11_fact (G : mG) (kd : Int) (b : Int) (f : Int) (dy : Int) : Int × mG := (if (f_X0_has G b) = 0 then ((-1), G) else ((r_X3_add G kd b f dy).1, (r_X3_add G kd b f dy).2))
theorem frp_X11_fact_8 {G : mG} {kd : Int} {b : Int} {f : Int} {dy : Int} {i : Nat} (hj : ∀ a ∈ ([4] : List Nat), i ≠ a) : (r_X11_fact G kd b f dy).2 8 i = G 8 i := by
  unfold r_X11_fact
  repeat' with_reducible first | apply ite_f | apply ite_f2 | apply ite_p | apply ite_p2
  all_goals first | (simp only [gs_at_ne (hj 4 (by simp)), gs_ne (show (8) ≠ (9) from by omega), gs_ne (show (8) ≠ (10) from by omega), gs_ne (show (8) ≠ (11) from by omega), gs_ne (show (8) ≠ (12) from by omega), frp_X3_add_8 (fun a ha => hj a (by simp only [List.mem_cons, List.not_mem_nil, or_false] at ha ⊢; omega))]; done) | rfl
theorem fr_X11_fact {G : mG} {kd : Int} {b : Int} {f : Int} {dy : Int} {k : Nat} (hk : ∀ a ∈ ([8, 9, 10, 11, 12] : List Nat), k ≠ a) : (r_X11_fact G kd b f dy).2 k = G k := by
  unfold r_X11_fact
  repeat' with_reducible first | apply ite_f | apply ite_f2 | apply ite_p | apply ite_p2
  all_goals first | (simp only [gs_ne (hk (8) (by simp)), gs_ne (hk (9) (by simp)), gs_ne (hk (10) (by simp)), gs_ne (hk (11) (by simp)), gs_ne (hk (12) (by simp)), fr_X3_add (fun a ha => hk a (by simp only [List.mem_cons, List.not_mem_nil, or_false] at ha ⊢; omega))]; done) | rfl
theorem sp_X11_fact {D : Nat → Bool} {d : Nat} {G : mG} {kd : Int} {b : Int} {f : Int} {dy : Int} {Q : Option mV → mG → Prop} (hD : ∀ k, D k = false → inN [8, 9, 10, 11, 12] k = false) (h : Q (some (mI (r_X11_fact G kd b f dy).1)) (r_X11_fact G kd b f dy).2) : P2 D (d + 3) M_X11_fact [mR 5, mI kd, mI b, mI f, mI dy] G Q := by
  unfold r_X11_fact at h
  refine MP.to (D2 := inN [8, 9, 10, 11, 12]) (Q2 := Q) ?_ hD (fun v G' q _ => q)
  refine p2_vc [] 400 oo_X11 q_X11_fact (by decide) rfl (Nat.le_of_ble_eq_true rfl) ?_
  refine sp_X0_has  ?_
  have c2 := fa_X0_has G b
  refine ⟨fun (c3 : (f_X0_has G b) = 0) => ?_, fun (c3 : ¬ (f_X0_has G b) = 0) => ?_⟩
  · rw [if_pos c3] at h
    exact h
  · rw [if_neg (c3)] at h
    refine sp_X3_add  (insub (by decide)) ?_
    exact h
def g_X11_takeOver_2 (G : mG) (f : Int) : Nat → mG → mG := fun j1 s1 => (if (f_X0_size s1 ) ≤ ((j1 : Nat) : Int) then (e_X4_set s1 ((j1 : Nat) : Int) f (-1)) else (e_X4_set s1 ((j1 : Nat) : Int) f (f_X8_clauseFor s1 ((j1 : Nat) : Int))))
def e_X11_takeOver (G : mG) (f : Int) : mG := (e_X4_setMade (fd (g_X11_takeOver_2 G f) G 9) f)
theorem fr_g_X11_takeOver_2 (G : mG) (f : Int) {k : Nat} (hk : ∀ a ∈ ([22, 23] : List Nat), k ≠ a) (j : Nat) (s : mG) : (g_X11_takeOver_2 G f j s) k = s k := by
  unfold g_X11_takeOver_2
  repeat' with_reducible first | apply ite_f | apply ite_f2 | apply ite_p | apply ite_p2
  all_goals first | (simp only [gs_ne (hk (22) (by simp)), gs_ne (hk (23) (by simp)), fr_X4_set (fun a ha => hk a (by simp only [List.mem_cons, List.not_mem_nil, or_false] at ha ⊢; omega)), fr_X4_setMade (fun a ha => hk a (by simp only [List.mem_cons, List.not_mem_nil, or_false] at ha ⊢; omega))]; done) | rfl
theorem fr_X11_takeOver {G : mG} {f : Int} {k : Nat} (hk : ∀ a ∈ ([22, 23] : List Nat), k ≠ a) : (e_X11_takeOver G f) k = G k := by
  unfold e_X11_takeOver
  repeat' with_reducible first | apply ite_f | apply ite_f2 | apply ite_p | apply ite_p2
  all_goals first | (simp only [gs_ne (hk (22) (by simp)), gs_ne (hk (23) (by simp)), fr_X4_set (fun a ha => hk a (by simp only [List.mem_cons, List.not_mem_nil, or_false] at ha ⊢; omega)), fr_X4_setMade (fun a ha => hk a (by simp only [List.mem_cons, List.not_mem_nil, or_false] at ha ⊢; omega)), fd_fr (fr_g_X11_takeOver_2 _ _ hk)]; done) | rfl
theorem sp_X11_takeOver {D : Nat → Bool} {d : Nat} {G : mG} {f : Int} {Q : Option mV → mG → Prop} (hD : ∀ k, D k = false → inN [22, 23] k = false) (h : Q none (e_X11_takeOver G f)) : P2 D (d + 4) M_X11_takeOver [mR 5, mI f] G Q := by
  unfold e_X11_takeOver at h
  refine MP.to (D2 := inN [22, 23]) (Q2 := Q) ?_ hD (fun v G' q _ => q)
  refine p2_vc [2] 400 oo_X11 q_X11_takeOver (by decide) rfl (Nat.le_of_ble_eq_true rfl) ?_
  refine (show W2 o_X11 M_X11_takeOver (inN [22, 23]) (d + 4) Q 2 [some (mR 5), some (mI f), some (mI ((0 : Nat) : Int))] [] G from ?_)
  refine lup (g_X11_takeOver_2 G f) G (fun j1 s1 => W2 o_X11 M_X11_takeOver (inN [22, 23]) (d + 4) Q 2 [some (mR 5), some (mI f), some (mI ((j1 : Nat) : Int))] [] s1) 9 (fun j1 s1 hj1 ih1 => ?_) ?_
  · have ih1 : W2 o_X11 M_X11_takeOver (inN [22, 23]) (d + 4) Q 2 [some (mR 5), some (mI f), some (mI ((j1 + 1 : Nat) : Int))] [] (g_X11_takeOver_2 G f j1 s1) := ih1
    unfold g_X11_takeOver_2 at ih1
    refine w2_vc [2] 400 oo_X11 q_X11_takeOver ?_
    refine ⟨fun (c1 : 9 ≤ ((j1 : Nat) : Int)) => ?_, fun (c1 : ((j1 : Nat) : Int) < 9) => ?_⟩
    · skip
      exfalso; first | omega | (rw [w32_i (by omega) (by omega)] at c1; omega) | (simp (disch := omega) only [w32_i] at *; omega)
    · skip
      refine sp_X0_size  ?_
      have c3 := (show f_X0_size s1 = s1 1 6 from rfl)
      refine ⟨fun (c4 : (f_X0_size s1 ) ≤ ((j1 : Nat) : Int)) => ?_, fun (c4 : ((j1 : Nat) : Int) < (f_X0_size s1 )) => ?_⟩
      · rw [if_pos c4] at ih1
        refine sp_X4_set  (insub (by decide)) ?_
        refine (show W2 o_X11 M_X11_takeOver (inN [22, 23]) (d + 4) Q 2 [some (mR 5), some (mI f), some (mI (w32 (((j1 : Nat) : Int) + 1)))] [] (e_X4_set s1 ((j1 : Nat) : Int) f (-1)) from ?_)
        rw [w32_nat (by omega)]
        exact ih1
      · rw [if_neg (Int.not_le.mpr c4)] at ih1
        refine sp_X8_clauseFor  ?_
        refine sp_X4_set  (insub (by decide)) ?_
        refine (show W2 o_X11 M_X11_takeOver (inN [22, 23]) (d + 4) Q 2 [some (mR 5), some (mI f), some (mI (w32 (((j1 : Nat) : Int) + 1)))] [] (e_X4_set s1 ((j1 : Nat) : Int) f (f_X8_clauseFor s1 ((j1 : Nat) : Int))) from ?_)
        rw [w32_nat (by omega)]
        exact ih1
  · skip
    refine (show W2 o_X11 M_X11_takeOver (inN [22, 23]) (d + 4) Q 2 [some (mR 5), some (mI f), some (mI ((9 : Nat) : Int))] [] (fd (g_X11_takeOver_2 G f) G 9) from ?_)
    refine w2_vc [2] 400 oo_X11 q_X11_takeOver ?_
    refine ⟨fun (c8 : 9 ≤ ((9 : Nat) : Int)) => ?_, fun (c8 : ((9 : Nat) : Int) < 9) => ?_⟩
    · skip
      refine sp_X4_setMade  (insub (by decide)) ?_
      exact h
    · skip
      exfalso; first | omega | (rw [w32_i (by omega) (by omega)] at c9; omega) | (simp (disch := omega) only [w32_i] at *; omega)
def g_X11_worthGiven_4 (c : Nat) (G : mG) (f : Int) : Nat → Int → Int := fun j1 s1 => (w32 (s1 + (f_X1_worthOf c G (f_X4_clauseOf G ((j1 : Nat) : Int) f))))
def f_X11_worthGiven (c : Nat) (G : mG) (f : Int) : Int := (fd (g_X11_worthGiven_4 c G f) 0 (Int.toNat (G 1 6)))
theorem sp_X11_worthGiven {D : Nat → Bool} {d : Nat} {c : Nat} {G : mG} {f : Int} {Q : Option mV → mG → Prop} (hc : c = 40 ∨ c = 52) (hp : G 0 8 = ((c + 5 : Nat) : Int)) (h16 : G 1 6 ≤ 9) (h : Q (some (mI (f_X11_worthGiven c G f))) G) : P2 D (d + 4) M_X11_worthGiven [mR 5, mI f] G Q := by
  rcases hc with rfl | rfl
  · skip
    unfold f_X11_worthGiven at h
    try simp only [Nat.reduceAdd, Nat.reduceSub] at h
    have hp : G 0 8 = 45 := hp
    refine (show P2 D (d + 4) M_X11_worthGiven [mR 5, mI f] G Q from ?_)
    refine p2_vc [4, 20] 400 oo_X11 q_X11_worthGiven (by decide) rfl (Nat.le_of_ble_eq_true rfl) ?_
    refine (show W2 o_X11 M_X11_worthGiven D (d + 4) Q 4 [some (mR 5), some (mI f), some (mI 0), some (mI ((0 : Nat) : Int))] [] G from ?_)
    refine lup (g_X11_worthGiven_4 40 G f) 0 (fun j1 s1 => W2 o_X11 M_X11_worthGiven D (d + 4) Q 4 [some (mR 5), some (mI f), some (mI s1), some (mI ((j1 : Nat) : Int))] [] G) (Int.toNat (G 1 6)) (fun j1 s1 hj1 ih1 => ?_) ?_
    · have ih1 : W2 o_X11 M_X11_worthGiven D (d + 4) Q 4 [some (mR 5), some (mI f), some (mI (g_X11_worthGiven_4 40 G f j1 s1)), some (mI ((j1 + 1 : Nat) : Int))] [] G := ih1
      unfold g_X11_worthGiven_4 at ih1
      try simp only [Nat.reduceAdd, Nat.reduceSub] at ih1
      refine w2_vc [4, 20] 400 oo_X11 q_X11_worthGiven ?_
      refine sp_X0_size  ?_
      have c2 := (show f_X0_size G = G 1 6 from rfl)
      refine ⟨fun (c3 : (f_X0_size G ) ≤ ((j1 : Nat) : Int)) => ?_, fun (c3 : ((j1 : Nat) : Int) < (f_X0_size G )) => ?_⟩
      · skip
        exfalso; first | omega | (rw [w32_i (by omega) (by omega)] at c3; omega) | (simp (disch := omega) only [w32_i] at *; omega)
      · skip
        refine (show W2 o_X11 M_X11_worthGiven D (d + 4) Q 20 [some (mR 5), some (mI f), some (mI s1), some (mI ((j1 : Nat) : Int))] [mR (Int.toNat (G 0 8)), mI s1] G from ?_)
        rw [hp]
        refine (show W2 o_X11 M_X11_worthGiven D (d + 4) Q 20 [some (mR 5), some (mI f), some (mI s1), some (mI ((j1 : Nat) : Int))] [mR 45, mI s1] G from ?_)
        refine w2_vc [4, 20] 400 oo_X11 q_X11_worthGiven ?_
        refine sp_X4_clauseOf  ?_
        refine sp_X1_worthOf (by decide) ?_
        refine (show W2 o_X11 M_X11_worthGiven D (d + 4) Q 4 [some (mR 5), some (mI f), some (mI (w32 (s1 + (f_X1_worthOf 40 G (f_X4_clauseOf G ((j1 : Nat) : Int) f))))), some (mI (w32 (((j1 : Nat) : Int) + 1)))] [] G from ?_)
        rw [w32_nat (by omega)]
        exact ih1
    · skip
      refine (show W2 o_X11 M_X11_worthGiven D (d + 4) Q 4 [some (mR 5), some (mI f), some (mI (fd (g_X11_worthGiven_4 40 G f) 0 (Int.toNat (G 1 6)))), some (mI (((Int.toNat (G 1 6)) : Nat) : Int))] [] G from ?_)
      refine w2_vc [4, 20] 400 oo_X11 q_X11_worthGiven ?_
      refine sp_X0_size  ?_
      have c7 := (show f_X0_size G = G 1 6 from rfl)
      refine ⟨fun (c8 : (f_X0_size G ) ≤ (((Int.toNat (G 1 6)) : Nat) : Int)) => ?_, fun (c8 : (((Int.toNat (G 1 6)) : Nat) : Int) < (f_X0_size G )) => ?_⟩
      · skip
        exact h
      · skip
        exfalso; first | omega | (rw [w32_i (by omega) (by omega)] at c8; omega) | (simp (disch := omega) only [w32_i] at *; omega)
  · skip
    unfold f_X11_worthGiven at h
    try simp only [Nat.reduceAdd, Nat.reduceSub] at h
    have hp : G 0 8 = 57 := hp
    refine (show P2 D (d + 4) M_X11_worthGiven [mR 5, mI f] G Q from ?_)
    refine p2_vc [4, 20] 400 oo_X11 q_X11_worthGiven (by decide) rfl (Nat.le_of_ble_eq_true rfl) ?_
    refine (show W2 o_X11 M_X11_worthGiven D (d + 4) Q 4 [some (mR 5), some (mI f), some (mI 0), some (mI ((0 : Nat) : Int))] [] G from ?_)
    refine lup (g_X11_worthGiven_4 52 G f) 0 (fun j1 s1 => W2 o_X11 M_X11_worthGiven D (d + 4) Q 4 [some (mR 5), some (mI f), some (mI s1), some (mI ((j1 : Nat) : Int))] [] G) (Int.toNat (G 1 6)) (fun j1 s1 hj1 ih1 => ?_) ?_
    · have ih1 : W2 o_X11 M_X11_worthGiven D (d + 4) Q 4 [some (mR 5), some (mI f), some (mI (g_X11_worthGiven_4 52 G f j1 s1)), some (mI ((j1 + 1 : Nat) : Int))] [] G := ih1
      unfold g_X11_worthGiven_4 at ih1
      try simp only [Nat.reduceAdd, Nat.reduceSub] at ih1
      refine w2_vc [4, 20] 400 oo_X11 q_X11_worthGiven ?_
      refine sp_X0_size  ?_
      have c2 := (show f_X0_size G = G 1 6 from rfl)
      refine ⟨fun (c3 : (f_X0_size G ) ≤ ((j1 : Nat) : Int)) => ?_, fun (c3 : ((j1 : Nat) : Int) < (f_X0_size G )) => ?_⟩
      · skip
        exfalso; first | omega | (rw [w32_i (by omega) (by omega)] at c3; omega) | (simp (disch := omega) only [w32_i] at *; omega)
      · skip
        refine (show W2 o_X11 M_X11_worthGiven D (d + 4) Q 20 [some (mR 5), some (mI f), some (mI s1), some (mI ((j1 : Nat) : Int))] [mR (Int.toNat (G 0 8)), mI s1] G from ?_)
        rw [hp]
        refine (show W2 o_X11 M_X11_worthGiven D (d + 4) Q 20 [some (mR 5), some (mI f), some (mI s1), some (mI ((j1 : Nat) : Int))] [mR 57, mI s1] G from ?_)
        refine w2_vc [4, 20] 400 oo_X11 q_X11_worthGiven ?_
        refine sp_X4_clauseOf  ?_
        refine sp_X1_worthOf (by decide) ?_
        refine (show W2 o_X11 M_X11_worthGiven D (d + 4) Q 4 [some (mR 5), some (mI f), some (mI (w32 (s1 + (f_X1_worthOf 52 G (f_X4_clauseOf G ((j1 : Nat) : Int) f))))), some (mI (w32 (((j1 : Nat) : Int) + 1)))] [] G from ?_)
        rw [w32_nat (by omega)]
        exact ih1
    · skip
      refine (show W2 o_X11 M_X11_worthGiven D (d + 4) Q 4 [some (mR 5), some (mI f), some (mI (fd (g_X11_worthGiven_4 52 G f) 0 (Int.toNat (G 1 6)))), some (mI (((Int.toNat (G 1 6)) : Nat) : Int))] [] G from ?_)
      refine w2_vc [4, 20] 400 oo_X11 q_X11_worthGiven ?_
      refine sp_X0_size  ?_
      have c7 := (show f_X0_size G = G 1 6 from rfl)
      refine ⟨fun (c8 : (f_X0_size G ) ≤ (((Int.toNat (G 1 6)) : Nat) : Int)) => ?_, fun (c8 : (((Int.toNat (G 1 6)) : Nat) : Int) < (f_X0_size G )) => ?_⟩
      · skip
        exact h
      · skip
        exfalso; first | omega | (rw [w32_i (by omega) (by omega)] at c8; omega) | (simp (disch := omega) only [w32_i] at *; omega)
def g_X11_movedBy_5 (G : mG) (f : Int) (n : Int) : Nat → Int → Int := fun j1 s1 => (if (f_X8_clauseFor G ((j1 : Nat) : Int)) = (f_X4_clauseOf G ((j1 : Nat) : Int) f) then s1 else (if ¬ (f_X3_isLost G ((j1 : Nat) : Int) f n) = 0 then s1 else (w32 (s1 + 1))))
def f_X11_movedBy (G : mG) (f : Int) (n : Int) : Int := (fd (g_X11_movedBy_5 G f n) 0 (Int.toNat (G 1 6)))
theorem sp_X11_movedBy {D : Nat → Bool} {d : Nat} {G : mG} {f : Int} {n : Int} {Q : Option mV → mG → Prop} (h16 : G 1 6 ≤ 9) (hk : 0 ≤ n ∧ n ≤ G 8 4) (hs : G 8 4 ≤ 300) (h : Q (some (mI (f_X11_movedBy G f n))) G) : P2 D (d + 4) M_X11_movedBy [mR 5, mI f, mI n] G Q := by
  unfold f_X11_movedBy at h
  refine p2_vc [5] 400 oo_X11 q_X11_movedBy (by decide) rfl (Nat.le_of_ble_eq_true rfl) ?_
  refine (show W2 o_X11 M_X11_movedBy D (d + 4) Q 5 [some (mR 5), some (mI f), some (mI n), some (mI 0), some (mI ((0 : Nat) : Int)), none] [] G from ?_)
  refine lup (g_X11_movedBy_5 G f n) 0 (fun j1 s1 => W2 o_X11 M_X11_movedBy D (d + 4) Q 5 [some (mR 5), some (mI f), some (mI n), some (mI s1), some (mI ((j1 : Nat) : Int)), none] [] G) (Int.toNat (G 1 6)) (fun j1 s1 hj1 ih1 => ?_) ?_
  · have ih1 : W2 o_X11 M_X11_movedBy D (d + 4) Q 5 [some (mR 5), some (mI f), some (mI n), some (mI (g_X11_movedBy_5 G f n j1 s1)), some (mI ((j1 + 1 : Nat) : Int)), none] [] G := ih1
    unfold g_X11_movedBy_5 at ih1
    refine w2_vc [5] 400 oo_X11 q_X11_movedBy ?_
    refine sp_X0_size  ?_
    have c2 := (show f_X0_size G = G 1 6 from rfl)
    refine ⟨fun (c3 : (f_X0_size G ) ≤ ((j1 : Nat) : Int)) => ?_, fun (c3 : ((j1 : Nat) : Int) < (f_X0_size G )) => ?_⟩
    · skip
      exfalso; first | omega | (rw [w32_i (by omega) (by omega)] at c3; omega) | (simp (disch := omega) only [w32_i] at *; omega)
    · skip
      refine sp_X8_clauseFor  ?_
      refine sp_X4_clauseOf  ?_
      refine ⟨fun (c6 : (f_X8_clauseFor G ((j1 : Nat) : Int)) = (f_X4_clauseOf G ((j1 : Nat) : Int) f)) => ?_, fun (c6 : ¬ (f_X8_clauseFor G ((j1 : Nat) : Int)) = (f_X4_clauseOf G ((j1 : Nat) : Int) f)) => ?_⟩
      · rw [if_pos c6] at ih1
        refine ⟨fun _ => ?_, fun (c : ¬ (0 : Int) = 0) => absurd c (by decide)⟩
        refine (show W2 o_X11 M_X11_movedBy D (d + 4) Q 5 [some (mR 5), some (mI f), some (mI n), some (mI s1), some (mI (w32 (((j1 : Nat) : Int) + 1))), some (mI 0)] [] G from ?_)
        refine WP.fg (L' := [some (mR 5), some (mI f), some (mI n), some (mI s1), some (mI (w32 (((j1 : Nat) : Int) + 1))), none]) ⟨rfl, rfl, rfl, rfl, rfl, trivial⟩ ?_
        rw [w32_nat (by omega)]
        exact ih1
      · rw [if_neg (c6)] at ih1
        refine ⟨fun (c : (1 : Int) = 0) => absurd c (by decide), fun _ => ?_⟩
        refine sp_X3_isLost (by omega) (by omega) ?_
        have c8 := fa_X3_isLost G ((j1 : Nat) : Int) f n
        refine ⟨fun (c9 : ¬ (f_X3_isLost G ((j1 : Nat) : Int) f n) = 0) => ?_, fun (c9 : (f_X3_isLost G ((j1 : Nat) : Int) f n) = 0) => ?_⟩
        · rw [if_pos c9] at ih1
          refine (show W2 o_X11 M_X11_movedBy D (d + 4) Q 5 [some (mR 5), some (mI f), some (mI n), some (mI s1), some (mI (w32 (((j1 : Nat) : Int) + 1))), some (mI 1)] [] G from ?_)
          refine WP.fg (L' := [some (mR 5), some (mI f), some (mI n), some (mI s1), some (mI (w32 (((j1 : Nat) : Int) + 1))), none]) ⟨rfl, rfl, rfl, rfl, rfl, trivial⟩ ?_
          rw [w32_nat (by omega)]
          exact ih1
        · rw [if_neg (fun q => q c9)] at ih1
          refine (show W2 o_X11 M_X11_movedBy D (d + 4) Q 5 [some (mR 5), some (mI f), some (mI n), some (mI (w32 (s1 + 1))), some (mI (w32 (((j1 : Nat) : Int) + 1))), some (mI 1)] [] G from ?_)
          refine WP.fg (L' := [some (mR 5), some (mI f), some (mI n), some (mI (w32 (s1 + 1))), some (mI (w32 (((j1 : Nat) : Int) + 1))), none]) ⟨rfl, rfl, rfl, rfl, rfl, trivial⟩ ?_
          rw [w32_nat (by omega)]
          exact ih1
  · skip
    refine (show W2 o_X11 M_X11_movedBy D (d + 4) Q 5 [some (mR 5), some (mI f), some (mI n), some (mI (fd (g_X11_movedBy_5 G f n) 0 (Int.toNat (G 1 6)))), some (mI (((Int.toNat (G 1 6)) : Nat) : Int)), none] [] G from ?_)
    refine w2_vc [5] 400 oo_X11 q_X11_movedBy ?_
    refine sp_X0_size  ?_
    have c11 := (show f_X0_size G = G 1 6 from rfl)
    refine ⟨fun (c12 : (f_X0_size G ) ≤ (((Int.toNat (G 1 6)) : Nat) : Int)) => ?_, fun (c12 : (((Int.toNat (G 1 6)) : Nat) : Int) < (f_X0_size G )) => ?_⟩
    · skip
      exact h
    · skip
      exfalso; first | omega | (rw [w32_i (by omega) (by omega)] at c12; omega) | (simp (disch := omega) only [w32_i] at *; omega)
def r_X11_firstBar (c : Nat) (G : mG) (b : Int) (x : Int) : Int × mG := ((r_X5_firstHolding c (e_X5_regard G b) 21 x).1, (r_X5_firstHolding c (e_X5_regard G b) 21 x).2)
theorem frp_X11_firstBar_24 {c : Nat} {G : mG} {b : Int} {x : Int} (hc : c = 40 ∨ c = 52) {i : Nat} (hj : ∀ a ∈ ([1, 2, 3, 4, 5, 6, 7] : List Nat), i ≠ a) : (r_X11_firstBar c G b x).2 24 i = G 24 i := by
  unfold r_X11_firstBar
  repeat' with_reducible first | apply ite_f | apply ite_f2 | apply ite_p | apply ite_p2
  all_goals first | (simp only [gs_at_ne (hj 1 (by simp)), gs_at_ne (hj 2 (by simp)), gs_at_ne (hj 3 (by simp)), gs_at_ne (hj 4 (by simp)), gs_at_ne (hj 5 (by simp)), gs_at_ne (hj 6 (by simp)), gs_at_ne (hj 7 (by simp)), gs_ne (show (24) ≠ (25) from by omega), fr_X5_firstHolding (c := c) (k := 24) (fun a ha => by simp only [List.mem_cons, List.not_mem_nil, or_false] at ha; omega), frp_X5_regard_24 (fun a ha => hj a (by simp only [List.mem_cons, List.not_mem_nil, or_false] at ha ⊢; omega))]; done) | rfl
theorem fr_X11_firstBar {c : Nat} {G : mG} {b : Int} {x : Int} {k : Nat} (hk : ∀ a ∈ ([24, 25] : List Nat), k ≠ a) : (r_X11_firstBar c G b x).2 k = G k := by
  unfold r_X11_firstBar
  repeat' with_reducible first | apply ite_f | apply ite_f2 | apply ite_p | apply ite_p2
  all_goals first | (simp only [gs_ne (hk (24) (by simp)), gs_ne (hk (25) (by simp)), fr_X5_firstHolding (c := c) (fun a ha => hk a (by simp only [List.mem_cons, List.not_mem_nil, or_false] at ha ⊢; omega)), fr_X5_regard (fun a ha => hk a (by simp only [List.mem_cons, List.not_mem_nil, or_false] at ha ⊢; omega))]; done) | rfl
theorem sp_X11_firstBar {D : Nat → Bool} {d : Nat} {c : Nat} {G : mG} {b : Int} {x : Int} {Q : Option mV → mG → Prop} (hc : c = 40 ∨ c = 52) (hp : G 0 8 = ((c + 5 : Nat) : Int)) (h12 : G c 12 ≤ 40) (ha : cB c G) (hD : ∀ k, D k = false → inN [24, 25] k = false) (h : Q (some (mI (r_X11_firstBar c G b x).1)) (r_X11_firstBar c G b x).2) : P2 D (d + 5) M_X11_firstBar [mR 5, mI b, mI x] G Q := by
  rcases hc with rfl | rfl
  · skip
    unfold r_X11_firstBar at h
    try simp only [Nat.reduceAdd, Nat.reduceSub] at h
    have hp : G 0 8 = 45 := hp
    refine MP.to (D2 := inN [24, 25]) (Q2 := Q) ?_ hD (fun v G' q _ => q)
    refine (show P2 (inN [24, 25]) (d + 5) M_X11_firstBar [mR 5, mI b, mI x] G Q from ?_)
    refine p2_vc [20, 26] 400 oo_X11 q_X11_firstBar (by decide) rfl (Nat.le_of_ble_eq_true rfl) ?_
    refine sp_X5_regard  (insub (by decide)) ?_
    refine (show W2 o_X11 M_X11_firstBar (inN [24, 25]) (d + 5) Q 20 [some (mR 5), some (mI b), some (mI x)] [mR (Int.toNat ((e_X5_regard G b) 0 8)), mR 29] (e_X5_regard G b) from ?_)
    rw [show ((e_X5_regard G b) 0 8) = 45 from by (try simp (disch := decide) only [gs_ne, gs_at_ne, fr_X5_regard, frp_X5_regard_24]); exact hp]
    refine (show W2 o_X11 M_X11_firstBar (inN [24, 25]) (d + 5) Q 20 [some (mR 5), some (mI b), some (mI x)] [mR 45, mR 29] (e_X5_regard G b) from ?_)
    refine w2_vc [20, 26] 400 oo_X11 q_X11_firstBar ?_
    refine sp_X5_firstHolding (by decide) (by first | omega | (simp (disch := decide) only [gs_ne, gs_at_ne, fr_X5_regard, frp_X5_regard_24]; omega)) (cB_to ha (show (e_X5_regard G b) 40 = G 40 from by simp (disch := decide) only [gs_ne, gs_at_ne, fr_X5_regard, frp_X5_regard_24]) (show (e_X5_regard G b) 49 = G 49 from by simp (disch := decide) only [gs_ne, gs_at_ne, fr_X5_regard, frp_X5_regard_24]) (show (e_X5_regard G b) 50 = G 50 from by simp (disch := decide) only [gs_ne, gs_at_ne, fr_X5_regard, frp_X5_regard_24])) (insub (by decide)) ?_
    refine (show W2 o_X11 M_X11_firstBar (inN [24, 25]) (d + 5) Q 26 [some (mR 5), some (mI b), some (mI x)] [mI (r_X5_firstHolding 40 (e_X5_regard G b) 21 x).1] (r_X5_firstHolding 40 (e_X5_regard G b) 21 x).2 from ?_)
    refine w2_vc [20, 26] 400 oo_X11 q_X11_firstBar ?_
    exact h
  · skip
    unfold r_X11_firstBar at h
    try simp only [Nat.reduceAdd, Nat.reduceSub] at h
    have hp : G 0 8 = 57 := hp
    refine MP.to (D2 := inN [24, 25]) (Q2 := Q) ?_ hD (fun v G' q _ => q)
    refine (show P2 (inN [24, 25]) (d + 5) M_X11_firstBar [mR 5, mI b, mI x] G Q from ?_)
    refine p2_vc [20, 26] 400 oo_X11 q_X11_firstBar (by decide) rfl (Nat.le_of_ble_eq_true rfl) ?_
    refine sp_X5_regard  (insub (by decide)) ?_
    refine (show W2 o_X11 M_X11_firstBar (inN [24, 25]) (d + 5) Q 20 [some (mR 5), some (mI b), some (mI x)] [mR (Int.toNat ((e_X5_regard G b) 0 8)), mR 29] (e_X5_regard G b) from ?_)
    rw [show ((e_X5_regard G b) 0 8) = 57 from by (try simp (disch := decide) only [gs_ne, gs_at_ne, fr_X5_regard, frp_X5_regard_24]); exact hp]
    refine (show W2 o_X11 M_X11_firstBar (inN [24, 25]) (d + 5) Q 20 [some (mR 5), some (mI b), some (mI x)] [mR 57, mR 29] (e_X5_regard G b) from ?_)
    refine w2_vc [20, 26] 400 oo_X11 q_X11_firstBar ?_
    refine sp_X5_firstHolding (by decide) (by first | omega | (simp (disch := decide) only [gs_ne, gs_at_ne, fr_X5_regard, frp_X5_regard_24]; omega)) (cB_to ha (show (e_X5_regard G b) 52 = G 52 from by simp (disch := decide) only [gs_ne, gs_at_ne, fr_X5_regard, frp_X5_regard_24]) (show (e_X5_regard G b) 61 = G 61 from by simp (disch := decide) only [gs_ne, gs_at_ne, fr_X5_regard, frp_X5_regard_24]) (show (e_X5_regard G b) 62 = G 62 from by simp (disch := decide) only [gs_ne, gs_at_ne, fr_X5_regard, frp_X5_regard_24])) (insub (by decide)) ?_
    refine (show W2 o_X11 M_X11_firstBar (inN [24, 25]) (d + 5) Q 26 [some (mR 5), some (mI b), some (mI x)] [mI (r_X5_firstHolding 52 (e_X5_regard G b) 21 x).1] (r_X5_firstHolding 52 (e_X5_regard G b) 21 x).2 from ?_)
    refine w2_vc [20, 26] 400 oo_X11 q_X11_firstBar ?_
    exact h
def g_X11_dueOf_30 (G : mG) (b : Int) (f : Int) : Nat → Int → Int := fun j1 s1 => (if ¬ (f_X0_districtOf G ((j1 : Nat) : Int)) = (f_X0_districtOf G b) then s1 else (if (f_X4_clauseOf G ((j1 : Nat) : Int) f) = (-1) then s1 else (w32 (s1 + 1))))
def f_X11_dueOf (G : mG) (b : Int) (f : Int) : Int := (if ¬ (f_X4_clauseOf G b f) = (-1) then (if (f_X0_paceOf G (f_X0_districtOf G b)) ≤ 0 then (fd (g_X11_dueOf_30 G b f) 0 (Int.toNat b)) else (mDiv (fd (g_X11_dueOf_30 G b f) 0 (Int.toNat b)) (f_X0_paceOf G (f_X0_districtOf G b)))) else (-1))
theorem sp_X11_dueOf {D : Nat → Bool} {d : Nat} {G : mG} {b : Int} {f : Int} {Q : Option mV → mG → Prop} (hb : 0 ≤ b ∧ b ≤ 9) (h : Q (some (mI (f_X11_dueOf G b f))) G) : P2 D (d + 4) M_X11_dueOf [mR 5, mI b, mI f] G Q := by
  unfold f_X11_dueOf at h
  refine p2_vc [30] 400 oo_X11 q_X11_dueOf (by decide) rfl (Nat.le_of_ble_eq_true rfl) ?_
  refine sp_X4_clauseOf  ?_
  refine ⟨fun (c2 : ¬ (f_X4_clauseOf G b f) = (-1)) => ?_, fun (c2 : (f_X4_clauseOf G b f) = (-1)) => ?_⟩
  · rw [if_pos c2] at h
    refine sp_X0_districtOf  ?_
    refine (show W2 o_X11 M_X11_dueOf D (d + 4) Q 30 [some (mR 5), some (mI b), some (mI f), some (mI (f_X0_districtOf G b)), some (mI 0), some (mI ((0 : Nat) : Int))] [] G from ?_)
    refine lup (g_X11_dueOf_30 G b f) 0 (fun j1 s1 => W2 o_X11 M_X11_dueOf D (d + 4) Q 30 [some (mR 5), some (mI b), some (mI f), some (mI (f_X0_districtOf G b)), some (mI s1), some (mI ((j1 : Nat) : Int))] [] G) (Int.toNat b) (fun j1 s1 hj1 ih1 => ?_) ?_
    · have ih1 : W2 o_X11 M_X11_dueOf D (d + 4) Q 30 [some (mR 5), some (mI b), some (mI f), some (mI (f_X0_districtOf G b)), some (mI (g_X11_dueOf_30 G b f j1 s1)), some (mI ((j1 + 1 : Nat) : Int))] [] G := ih1
      unfold g_X11_dueOf_30 at ih1
      refine w2_vc [30] 400 oo_X11 q_X11_dueOf ?_
      refine ⟨fun (c4 : b ≤ ((j1 : Nat) : Int)) => ?_, fun (c4 : ((j1 : Nat) : Int) < b) => ?_⟩
      · skip
        exfalso; first | omega | (rw [w32_i (by omega) (by omega)] at c4; omega) | (simp (disch := omega) only [w32_i] at *; omega)
      · skip
        refine sp_X0_districtOf  ?_
        refine ⟨fun (c6 : ¬ (f_X0_districtOf G ((j1 : Nat) : Int)) = (f_X0_districtOf G b)) => ?_, fun (c6 : (f_X0_districtOf G ((j1 : Nat) : Int)) = (f_X0_districtOf G b)) => ?_⟩
        · rw [if_pos c6] at ih1
          refine (show W2 o_X11 M_X11_dueOf D (d + 4) Q 30 [some (mR 5), some (mI b), some (mI f), some (mI (f_X0_districtOf G b)), some (mI s1), some (mI (w32 (((j1 : Nat) : Int) + 1)))] [] G from ?_)
          rw [w32_nat (by omega)]
          exact ih1
        · rw [if_neg (fun q => q c6)] at ih1
          refine sp_X4_clauseOf  ?_
          refine ⟨fun (c8 : (f_X4_clauseOf G ((j1 : Nat) : Int) f) = (-1)) => ?_, fun (c8 : ¬ (f_X4_clauseOf G ((j1 : Nat) : Int) f) = (-1)) => ?_⟩
          · rw [if_pos c8] at ih1
            refine (show W2 o_X11 M_X11_dueOf D (d + 4) Q 30 [some (mR 5), some (mI b), some (mI f), some (mI (f_X0_districtOf G b)), some (mI s1), some (mI (w32 (((j1 : Nat) : Int) + 1)))] [] G from ?_)
            rw [w32_nat (by omega)]
            exact ih1
          · rw [if_neg (c8)] at ih1
            refine (show W2 o_X11 M_X11_dueOf D (d + 4) Q 30 [some (mR 5), some (mI b), some (mI f), some (mI (f_X0_districtOf G b)), some (mI (w32 (s1 + 1))), some (mI (w32 (((j1 : Nat) : Int) + 1)))] [] G from ?_)
            rw [w32_nat (by omega)]
            exact ih1
    · skip
      refine (show W2 o_X11 M_X11_dueOf D (d + 4) Q 30 [some (mR 5), some (mI b), some (mI f), some (mI (f_X0_districtOf G b)), some (mI (fd (g_X11_dueOf_30 G b f) 0 (Int.toNat b))), some (mI (((Int.toNat b) : Nat) : Int))] [] G from ?_)
      refine w2_vc [30] 400 oo_X11 q_X11_dueOf ?_
      refine ⟨fun (c9 : b ≤ (((Int.toNat b) : Nat) : Int)) => ?_, fun (c9 : (((Int.toNat b) : Nat) : Int) < b) => ?_⟩
      · skip
        refine sp_X0_paceOf  ?_
        refine ⟨fun (c11 : (f_X0_paceOf G (f_X0_districtOf G b)) ≤ 0) => ?_, fun (c11 : 0 < (f_X0_paceOf G (f_X0_districtOf G b))) => ?_⟩
        · rw [if_pos c11] at h
          exact h
        · rw [if_neg (Int.not_le.mpr c11)] at h
          refine ⟨(show ¬ (f_X0_paceOf G (f_X0_districtOf G b)) = 0 from by omega), ?_⟩
          exact h
      · skip
        exfalso; first | omega | (rw [w32_i (by omega) (by omega)] at c11; omega) | (simp (disch := omega) only [w32_i] at *; omega)
  · rw [if_neg (fun q => q c2)] at h
    exact h
def f_X11_lateOf (G : mG) (b : Int) (f : Int) : Int := (if ¬ (f_X11_dueOf G b f) = (-1) then (mMax 0 (w32 ((f_X2_firstHung G ) - (f_X11_dueOf G b f)))) else 0)
theorem sp_X11_lateOf {D : Nat → Bool} {d : Nat} {G : mG} {b : Int} {f : Int} {Q : Option mV → mG → Prop} (hb : 0 ≤ b ∧ b ≤ 9) (h : Q (some (mI (f_X11_lateOf G b f))) G) : P2 D (d + 5) M_X11_lateOf [mR 5, mI b, mI f] G Q := by
  unfold f_X11_lateOf at h
  refine p2_vc [] 400 oo_X11 q_X11_lateOf (by decide) rfl (Nat.le_of_ble_eq_true rfl) ?_
  refine sp_X11_dueOf (by omega) ?_
  refine ⟨fun (c2 : ¬ (f_X11_dueOf G b f) = (-1)) => ?_, fun (c2 : (f_X11_dueOf G b f) = (-1)) => ?_⟩
  · rw [if_pos c2] at h
    refine sp_X2_firstHung  ?_
    exact h
  · rw [if_neg (fun q => q c2)] at h
    exact h
def r_X11_groundOf (c : Nat) (G : mG) (b : Int) (f : Int) (n : Int) : Int × mG := (if ¬ (f_X1_ownerOf c G (f_X4_clauseOf G b f)) = (-1) then ((r_X5_firstHolding c (e_X5_regardCourse (e_X5_regard (e_X2_follow G b f n) b) (f_X11_lateOf (e_X5_regard (e_X2_follow G b f n) b) b f)) 23 (f_X1_ownerOf c G (f_X4_clauseOf G b f))).1, (r_X5_firstHolding c (e_X5_regardCourse (e_X5_regard (e_X2_follow G b f n) b) (f_X11_lateOf (e_X5_regard (e_X2_follow G b f n) b) b f)) 23 (f_X1_ownerOf c G (f_X4_clauseOf G b f))).2) else ((-1), G))
theorem frp_X11_groundOf_24 {c : Nat} {G : mG} {b : Int} {f : Int} {n : Int} (hc : c = 40 ∨ c = 52) {i : Nat} (hj : ∀ a ∈ ([1, 2, 3, 4, 5, 6, 7] : List Nat), i ≠ a) : (r_X11_groundOf c G b f n).2 24 i = G 24 i := by
  unfold r_X11_groundOf
  repeat' with_reducible first | apply ite_f | apply ite_f2 | apply ite_p | apply ite_p2
  all_goals first | (simp only [gs_at_ne (hj 1 (by simp)), gs_at_ne (hj 2 (by simp)), gs_at_ne (hj 3 (by simp)), gs_at_ne (hj 4 (by simp)), gs_at_ne (hj 5 (by simp)), gs_at_ne (hj 6 (by simp)), gs_at_ne (hj 7 (by simp)), gs_ne (show (24) ≠ (25) from by omega), gs_ne (show (24) ≠ (26) from by omega), gs_ne (show (24) ≠ (27) from by omega), gs_ne (show (24) ≠ (28) from by omega), fr_X2_follow (k := 24) (fun a ha => by simp only [List.mem_cons, List.not_mem_nil, or_false] at ha; omega), fr_X5_firstHolding (c := c) (k := 24) (fun a ha => by simp only [List.mem_cons, List.not_mem_nil, or_false] at ha; omega), frp_X5_regard_24 (fun a ha => hj a (by simp only [List.mem_cons, List.not_mem_nil, or_false] at ha ⊢; omega)), frp_X5_regardCourse_24 (fun a ha => hj a (by simp only [List.mem_cons, List.not_mem_nil, or_false] at ha ⊢; omega))]; done) | rfl
theorem frp_X11_groundOf_26 {c : Nat} {G : mG} {b : Int} {f : Int} {n : Int} (hc : c = 40 ∨ c = 52) {i : Nat} (hj : ∀ a ∈ ([2] : List Nat), i ≠ a) : (r_X11_groundOf c G b f n).2 26 i = G 26 i := by
  unfold r_X11_groundOf
  repeat' with_reducible first | apply ite_f | apply ite_f2 | apply ite_p | apply ite_p2
  all_goals first | (simp only [gs_at_ne (hj 2 (by simp)), gs_ne (show (26) ≠ (24) from by omega), gs_ne (show (26) ≠ (25) from by omega), gs_ne (show (26) ≠ (27) from by omega), gs_ne (show (26) ≠ (28) from by omega), frp_X2_follow_26 (fun a ha => hj a (by simp only [List.mem_cons, List.not_mem_nil, or_false] at ha ⊢; omega)), fr_X5_firstHolding (c := c) (k := 26) (fun a ha => by simp only [List.mem_cons, List.not_mem_nil, or_false] at ha; omega), fr_X5_regard (k := 26) (fun a ha => by simp only [List.mem_cons, List.not_mem_nil, or_false] at ha; omega), fr_X5_regardCourse (k := 26) (fun a ha => by simp only [List.mem_cons, List.not_mem_nil, or_false] at ha; omega)]; done) | rfl
theorem fr_X11_groundOf {c : Nat} {G : mG} {b : Int} {f : Int} {n : Int} {k : Nat} (hk : ∀ a ∈ ([24, 25, 26, 27, 28] : List Nat), k ≠ a) : (r_X11_groundOf c G b f n).2 k = G k := by
  unfold r_X11_groundOf
  repeat' with_reducible first | apply ite_f | apply ite_f2 | apply ite_p | apply ite_p2
  all_goals first | (simp only [gs_ne (hk (24) (by simp)), gs_ne (hk (25) (by simp)), gs_ne (hk (26) (by simp)), gs_ne (hk (27) (by simp)), gs_ne (hk (28) (by simp)), fr_X2_follow (fun a ha => hk a (by simp only [List.mem_cons, List.not_mem_nil, or_false] at ha ⊢; omega)), fr_X5_firstHolding (c := c) (fun a ha => hk a (by simp only [List.mem_cons, List.not_mem_nil, or_false] at ha ⊢; omega)), fr_X5_regard (fun a ha => hk a (by simp only [List.mem_cons, List.not_mem_nil, or_false] at ha ⊢; omega)), fr_X5_regardCourse (fun a ha => hk a (by simp only [List.mem_cons, List.not_mem_nil, or_false] at ha ⊢; omega))]; done) | rfl
theorem sp_X11_groundOf {D : Nat → Bool} {d : Nat} {c : Nat} {G : mG} {b : Int} {f : Int} {n : Int} {Q : Option mV → mG → Prop} (hc : c = 40 ∨ c = 52) (hp : G 0 8 = ((c + 5 : Nat) : Int)) (h12 : G c 12 ≤ 40) (ha : cB c G) (hk : 0 ≤ n ∧ n ≤ G 8 4) (hs : G 8 4 ≤ 300) (hb : 0 ≤ b ∧ b ≤ 9) (hD : ∀ k, D k = false → inN [24, 25, 26, 27, 28] k = false) (h : Q (some (mI (r_X11_groundOf c G b f n).1)) (r_X11_groundOf c G b f n).2) : P2 D (d + 6) M_X11_groundOf [mR 5, mI b, mI f, mI n] G Q := by
  rcases hc with rfl | rfl
  · skip
    unfold r_X11_groundOf at h
    try simp only [Nat.reduceAdd, Nat.reduceSub] at h
    have hp : G 0 8 = 45 := hp
    refine MP.to (D2 := inN [24, 25, 26, 27, 28]) (Q2 := Q) ?_ hD (fun v G' q _ => q)
    refine (show P2 (inN [24, 25, 26, 27, 28]) (d + 6) M_X11_groundOf [mR 5, mI b, mI f, mI n] G Q from ?_)
    refine p2_vc [4, 52, 66, 69, 77, 84] 400 oo_X11 q_X11_groundOf (by decide) rfl (Nat.le_of_ble_eq_true rfl) ?_
    refine (show W2 o_X11 M_X11_groundOf (inN [24, 25, 26, 27, 28]) (d + 6) Q 4 [some (mR 5), some (mI b), some (mI f), some (mI n), none] [mR (Int.toNat (G 0 8))] G from ?_)
    rw [hp]
    refine (show W2 o_X11 M_X11_groundOf (inN [24, 25, 26, 27, 28]) (d + 6) Q 4 [some (mR 5), some (mI b), some (mI f), some (mI n), none] [mR 45] G from ?_)
    refine w2_vc [4, 52, 66, 69, 77, 84] 400 oo_X11 q_X11_groundOf ?_
    refine sp_X4_clauseOf  ?_
    refine sp_X1_ownerOf (by decide) ?_
    refine ⟨fun (c3 : ¬ (f_X1_ownerOf 40 G (f_X4_clauseOf G b f)) = (-1)) => ?_, fun (c3 : (f_X1_ownerOf 40 G (f_X4_clauseOf G b f)) = (-1)) => ?_⟩
    · rw [if_pos c3] at h
      refine sp_X2_follow (by omega) (by omega) (insub (by decide)) ?_
      refine sp_X5_regard  (insub (by decide)) ?_
      refine (show W2 o_X11 M_X11_groundOf (inN [24, 25, 26, 27, 28]) (d + 6) Q 52 [some (mR 5), some (mI b), some (mI f), some (mI n), some (mI (f_X1_ownerOf 40 G (f_X4_clauseOf G b f)))] [] (e_X5_regard (e_X2_follow G b f n) b) from ?_)
      refine w2_vc [4, 52, 66, 69, 77, 84] 400 oo_X11 q_X11_groundOf ?_
      refine sp_X11_lateOf (by first | omega | (simp (disch := decide) only [gs_ne, gs_at_ne, fr_X2_follow, frp_X2_follow_26, fr_X5_regard, frp_X5_regard_24]; omega)) ?_
      refine (show W2 o_X11 M_X11_groundOf (inN [24, 25, 26, 27, 28]) (d + 6) Q 66 [some (mR 5), some (mI b), some (mI f), some (mI n), some (mI (f_X1_ownerOf 40 G (f_X4_clauseOf G b f)))] [mI (f_X11_lateOf (e_X5_regard (e_X2_follow G b f n) b) b f), mR 31, mR 29] (e_X5_regard (e_X2_follow G b f n) b) from ?_)
      refine w2_vc [4, 52, 66, 69, 77, 84] 400 oo_X11 q_X11_groundOf ?_
      refine sp_X5_regardCourse  (insub (by decide)) ?_
      refine (show W2 o_X11 M_X11_groundOf (inN [24, 25, 26, 27, 28]) (d + 6) Q 69 [some (mR 5), some (mI b), some (mI f), some (mI n), some (mI (f_X1_ownerOf 40 G (f_X4_clauseOf G b f)))] [] (e_X5_regardCourse (e_X5_regard (e_X2_follow G b f n) b) (f_X11_lateOf (e_X5_regard (e_X2_follow G b f n) b) b f)) from ?_)
      refine w2_vc [4, 52, 66, 69, 77, 84] 400 oo_X11 q_X11_groundOf ?_
      refine (show W2 o_X11 M_X11_groundOf (inN [24, 25, 26, 27, 28]) (d + 6) Q 77 [some (mR 5), some (mI b), some (mI f), some (mI n), some (mI (f_X1_ownerOf 40 G (f_X4_clauseOf G b f)))] [mR (Int.toNat ((e_X5_regardCourse (e_X5_regard (e_X2_follow G b f n) b) (f_X11_lateOf (e_X5_regard (e_X2_follow G b f n) b) b f)) 0 8)), mR 29] (e_X5_regardCourse (e_X5_regard (e_X2_follow G b f n) b) (f_X11_lateOf (e_X5_regard (e_X2_follow G b f n) b) b f)) from ?_)
      rw [show ((e_X5_regardCourse (e_X5_regard (e_X2_follow G b f n) b) (f_X11_lateOf (e_X5_regard (e_X2_follow G b f n) b) b f)) 0 8) = 45 from by (try simp (disch := decide) only [gs_ne, gs_at_ne, fr_X2_follow, frp_X2_follow_26, fr_X5_regard, frp_X5_regard_24, fr_X5_regardCourse, frp_X5_regardCourse_24]); exact hp]
      refine (show W2 o_X11 M_X11_groundOf (inN [24, 25, 26, 27, 28]) (d + 6) Q 77 [some (mR 5), some (mI b), some (mI f), some (mI n), some (mI (f_X1_ownerOf 40 G (f_X4_clauseOf G b f)))] [mR 45, mR 29] (e_X5_regardCourse (e_X5_regard (e_X2_follow G b f n) b) (f_X11_lateOf (e_X5_regard (e_X2_follow G b f n) b) b f)) from ?_)
      refine w2_vc [4, 52, 66, 69, 77, 84] 400 oo_X11 q_X11_groundOf ?_
      refine sp_X5_firstHolding (by decide) (by first | omega | (simp (disch := decide) only [gs_ne, gs_at_ne, fr_X2_follow, frp_X2_follow_26, fr_X5_regard, frp_X5_regard_24, fr_X5_regardCourse, frp_X5_regardCourse_24]; omega)) (cB_to ha (show (e_X5_regardCourse (e_X5_regard (e_X2_follow G b f n) b) (f_X11_lateOf (e_X5_regard (e_X2_follow G b f n) b) b f)) 40 = G 40 from by simp (disch := decide) only [gs_ne, gs_at_ne, fr_X2_follow, frp_X2_follow_26, fr_X5_regard, frp_X5_regard_24, fr_X5_regardCourse, frp_X5_regardCourse_24]) (show (e_X5_regardCourse (e_X5_regard (e_X2_follow G b f n) b) (f_X11_lateOf (e_X5_regard (e_X2_follow G b f n) b) b f)) 49 = G 49 from by simp (disch := decide) only [gs_ne, gs_at_ne, fr_X2_follow, frp_X2_follow_26, fr_X5_regard, frp_X5_regard_24, fr_X5_regardCourse, frp_X5_regardCourse_24]) (show (e_X5_regardCourse (e_X5_regard (e_X2_follow G b f n) b) (f_X11_lateOf (e_X5_regard (e_X2_follow G b f n) b) b f)) 50 = G 50 from by simp (disch := decide) only [gs_ne, gs_at_ne, fr_X2_follow, frp_X2_follow_26, fr_X5_regard, frp_X5_regard_24, fr_X5_regardCourse, frp_X5_regardCourse_24])) (insub (by decide)) ?_
      refine (show W2 o_X11 M_X11_groundOf (inN [24, 25, 26, 27, 28]) (d + 6) Q 84 [some (mR 5), some (mI b), some (mI f), some (mI n), some (mI (f_X1_ownerOf 40 G (f_X4_clauseOf G b f)))] [mI (r_X5_firstHolding 40 (e_X5_regardCourse (e_X5_regard (e_X2_follow G b f n) b) (f_X11_lateOf (e_X5_regard (e_X2_follow G b f n) b) b f)) 23 (f_X1_ownerOf 40 G (f_X4_clauseOf G b f))).1] (r_X5_firstHolding 40 (e_X5_regardCourse (e_X5_regard (e_X2_follow G b f n) b) (f_X11_lateOf (e_X5_regard (e_X2_follow G b f n) b) b f)) 23 (f_X1_ownerOf 40 G (f_X4_clauseOf G b f))).2 from ?_)
      refine w2_vc [4, 52, 66, 69, 77, 84] 400 oo_X11 q_X11_groundOf ?_
      exact h
    · rw [if_neg (fun q => q c3)] at h
      exact h
  · skip
    unfold r_X11_groundOf at h
    try simp only [Nat.reduceAdd, Nat.reduceSub] at h
    have hp : G 0 8 = 57 := hp
    refine MP.to (D2 := inN [24, 25, 26, 27, 28]) (Q2 := Q) ?_ hD (fun v G' q _ => q)
    refine (show P2 (inN [24, 25, 26, 27, 28]) (d + 6) M_X11_groundOf [mR 5, mI b, mI f, mI n] G Q from ?_)
    refine p2_vc [4, 52, 66, 69, 77, 84] 400 oo_X11 q_X11_groundOf (by decide) rfl (Nat.le_of_ble_eq_true rfl) ?_
    refine (show W2 o_X11 M_X11_groundOf (inN [24, 25, 26, 27, 28]) (d + 6) Q 4 [some (mR 5), some (mI b), some (mI f), some (mI n), none] [mR (Int.toNat (G 0 8))] G from ?_)
    rw [hp]
    refine (show W2 o_X11 M_X11_groundOf (inN [24, 25, 26, 27, 28]) (d + 6) Q 4 [some (mR 5), some (mI b), some (mI f), some (mI n), none] [mR 57] G from ?_)
    refine w2_vc [4, 52, 66, 69, 77, 84] 400 oo_X11 q_X11_groundOf ?_
    refine sp_X4_clauseOf  ?_
    refine sp_X1_ownerOf (by decide) ?_
    refine ⟨fun (c3 : ¬ (f_X1_ownerOf 52 G (f_X4_clauseOf G b f)) = (-1)) => ?_, fun (c3 : (f_X1_ownerOf 52 G (f_X4_clauseOf G b f)) = (-1)) => ?_⟩
    · rw [if_pos c3] at h
      refine sp_X2_follow (by omega) (by omega) (insub (by decide)) ?_
      refine sp_X5_regard  (insub (by decide)) ?_
      refine (show W2 o_X11 M_X11_groundOf (inN [24, 25, 26, 27, 28]) (d + 6) Q 52 [some (mR 5), some (mI b), some (mI f), some (mI n), some (mI (f_X1_ownerOf 52 G (f_X4_clauseOf G b f)))] [] (e_X5_regard (e_X2_follow G b f n) b) from ?_)
      refine w2_vc [4, 52, 66, 69, 77, 84] 400 oo_X11 q_X11_groundOf ?_
      refine sp_X11_lateOf (by first | omega | (simp (disch := decide) only [gs_ne, gs_at_ne, fr_X2_follow, frp_X2_follow_26, fr_X5_regard, frp_X5_regard_24]; omega)) ?_
      refine (show W2 o_X11 M_X11_groundOf (inN [24, 25, 26, 27, 28]) (d + 6) Q 66 [some (mR 5), some (mI b), some (mI f), some (mI n), some (mI (f_X1_ownerOf 52 G (f_X4_clauseOf G b f)))] [mI (f_X11_lateOf (e_X5_regard (e_X2_follow G b f n) b) b f), mR 31, mR 29] (e_X5_regard (e_X2_follow G b f n) b) from ?_)
      refine w2_vc [4, 52, 66, 69, 77, 84] 400 oo_X11 q_X11_groundOf ?_
      refine sp_X5_regardCourse  (insub (by decide)) ?_
      refine (show W2 o_X11 M_X11_groundOf (inN [24, 25, 26, 27, 28]) (d + 6) Q 69 [some (mR 5), some (mI b), some (mI f), some (mI n), some (mI (f_X1_ownerOf 52 G (f_X4_clauseOf G b f)))] [] (e_X5_regardCourse (e_X5_regard (e_X2_follow G b f n) b) (f_X11_lateOf (e_X5_regard (e_X2_follow G b f n) b) b f)) from ?_)
      refine w2_vc [4, 52, 66, 69, 77, 84] 400 oo_X11 q_X11_groundOf ?_
      refine (show W2 o_X11 M_X11_groundOf (inN [24, 25, 26, 27, 28]) (d + 6) Q 77 [some (mR 5), some (mI b), some (mI f), some (mI n), some (mI (f_X1_ownerOf 52 G (f_X4_clauseOf G b f)))] [mR (Int.toNat ((e_X5_regardCourse (e_X5_regard (e_X2_follow G b f n) b) (f_X11_lateOf (e_X5_regard (e_X2_follow G b f n) b) b f)) 0 8)), mR 29] (e_X5_regardCourse (e_X5_regard (e_X2_follow G b f n) b) (f_X11_lateOf (e_X5_regard (e_X2_follow G b f n) b) b f)) from ?_)
      rw [show ((e_X5_regardCourse (e_X5_regard (e_X2_follow G b f n) b) (f_X11_lateOf (e_X5_regard (e_X2_follow G b f n) b) b f)) 0 8) = 57 from by (try simp (disch := decide) only [gs_ne, gs_at_ne, fr_X2_follow, frp_X2_follow_26, fr_X5_regard, frp_X5_regard_24, fr_X5_regardCourse, frp_X5_regardCourse_24]); exact hp]
      refine (show W2 o_X11 M_X11_groundOf (inN [24, 25, 26, 27, 28]) (d + 6) Q 77 [some (mR 5), some (mI b), some (mI f), some (mI n), some (mI (f_X1_ownerOf 52 G (f_X4_clauseOf G b f)))] [mR 57, mR 29] (e_X5_regardCourse (e_X5_regard (e_X2_follow G b f n) b) (f_X11_lateOf (e_X5_regard (e_X2_follow G b f n) b) b f)) from ?_)
      refine w2_vc [4, 52, 66, 69, 77, 84] 400 oo_X11 q_X11_groundOf ?_
      refine sp_X5_firstHolding (by decide) (by first | omega | (simp (disch := decide) only [gs_ne, gs_at_ne, fr_X2_follow, frp_X2_follow_26, fr_X5_regard, frp_X5_regard_24, fr_X5_regardCourse, frp_X5_regardCourse_24]; omega)) (cB_to ha (show (e_X5_regardCourse (e_X5_regard (e_X2_follow G b f n) b) (f_X11_lateOf (e_X5_regard (e_X2_follow G b f n) b) b f)) 52 = G 52 from by simp (disch := decide) only [gs_ne, gs_at_ne, fr_X2_follow, frp_X2_follow_26, fr_X5_regard, frp_X5_regard_24, fr_X5_regardCourse, frp_X5_regardCourse_24]) (show (e_X5_regardCourse (e_X5_regard (e_X2_follow G b f n) b) (f_X11_lateOf (e_X5_regard (e_X2_follow G b f n) b) b f)) 61 = G 61 from by simp (disch := decide) only [gs_ne, gs_at_ne, fr_X2_follow, frp_X2_follow_26, fr_X5_regard, frp_X5_regard_24, fr_X5_regardCourse, frp_X5_regardCourse_24]) (show (e_X5_regardCourse (e_X5_regard (e_X2_follow G b f n) b) (f_X11_lateOf (e_X5_regard (e_X2_follow G b f n) b) b f)) 62 = G 62 from by simp (disch := decide) only [gs_ne, gs_at_ne, fr_X2_follow, frp_X2_follow_26, fr_X5_regard, frp_X5_regard_24, fr_X5_regardCourse, frp_X5_regardCourse_24])) (insub (by decide)) ?_
      refine (show W2 o_X11 M_X11_groundOf (inN [24, 25, 26, 27, 28]) (d + 6) Q 84 [some (mR 5), some (mI b), some (mI f), some (mI n), some (mI (f_X1_ownerOf 52 G (f_X4_clauseOf G b f)))] [mI (r_X5_firstHolding 52 (e_X5_regardCourse (e_X5_regard (e_X2_follow G b f n) b) (f_X11_lateOf (e_X5_regard (e_X2_follow G b f n) b) b f)) 23 (f_X1_ownerOf 52 G (f_X4_clauseOf G b f))).1] (r_X5_firstHolding 52 (e_X5_regardCourse (e_X5_regard (e_X2_follow G b f n) b) (f_X11_lateOf (e_X5_regard (e_X2_follow G b f n) b) b f)) 23 (f_X1_ownerOf 52 G (f_X4_clauseOf G b f))).2 from ?_)
      refine w2_vc [4, 52, 66, 69, 77, 84] 400 oo_X11 q_X11_groundOf ?_
      exact h
    · rw [if_neg (fun q => q c3)] at h
      exact h
def g_X11_greatestAudience_6 (G : mG) (w : Int) (f : Int) (n : Int) : Nat → (Int × mG) → (Int × mG) := fun j1 s1 => (if ¬ (f_X4_clauseOf s1.2 ((j1 : Nat) : Int) f) = w then (s1.1, s1.2) else (if (f_X2_daysOf (e_X2_follow s1.2 ((j1 : Nat) : Int) f n) 1) ≤ 0 then (s1.1, (e_X2_follow s1.2 ((j1 : Nat) : Int) f n)) else ((mMax s1.1 (f_X0_audienceOf (e_X2_follow s1.2 ((j1 : Nat) : Int) f n) ((j1 : Nat) : Int))), (e_X2_follow s1.2 ((j1 : Nat) : Int) f n))))
def r_X11_greatestAudience (G : mG) (w : Int) (f : Int) (n : Int) : Int × mG := ((fd (g_X11_greatestAudience_6 G w f n) (0, G) (Int.toNat (G 1 6))).1, (fd (g_X11_greatestAudience_6 G w f n) (0, G) (Int.toNat (G 1 6))).2)
theorem fr_g_X11_greatestAudience_6 (G : mG) (w : Int) (f : Int) (n : Int) {k : Nat} (hk : ∀ a ∈ ([26, 27, 28] : List Nat), k ≠ a) (j : Nat) (s : Int × mG) : (g_X11_greatestAudience_6 G w f n j s).2 k = s.2 k := by
  unfold g_X11_greatestAudience_6
  repeat' with_reducible first | apply ite_f | apply ite_f2 | apply ite_p | apply ite_p2
  all_goals first | (simp only [gs_ne (hk (26) (by simp)), gs_ne (hk (27) (by simp)), gs_ne (hk (28) (by simp)), fr_X2_follow (fun a ha => hk a (by simp only [List.mem_cons, List.not_mem_nil, or_false] at ha ⊢; omega))]; done) | rfl
theorem frp_g_X11_greatestAudience_6_26 (G : mG) (w : Int) (f : Int) (n : Int) {i : Nat} (hj : ∀ a ∈ ([2] : List Nat), i ≠ a) (j : Nat) (s : Int × mG) : (g_X11_greatestAudience_6 G w f n j s).2 26 i = s.2 26 i := by
  unfold g_X11_greatestAudience_6
  repeat' with_reducible first | apply ite_f | apply ite_f2 | apply ite_p | apply ite_p2
  all_goals first | (simp only [gs_at_ne (hj 2 (by simp)), gs_ne (show (26) ≠ (27) from by omega), gs_ne (show (26) ≠ (28) from by omega), frp_X2_follow_26 (fun a ha => hj a (by simp only [List.mem_cons, List.not_mem_nil, or_false] at ha ⊢; omega))]; done) | rfl
theorem frp_X11_greatestAudience_26 {G : mG} {w : Int} {f : Int} {n : Int} {i : Nat} (hj : ∀ a ∈ ([2] : List Nat), i ≠ a) : (r_X11_greatestAudience G w f n).2 26 i = G 26 i := by
  unfold r_X11_greatestAudience
  repeat' with_reducible first | apply ite_f | apply ite_f2 | apply ite_p | apply ite_p2
  all_goals first | (simp only [gs_at_ne (hj 2 (by simp)), gs_ne (show (26) ≠ (27) from by omega), gs_ne (show (26) ≠ (28) from by omega), frp_X2_follow_26 (fun a ha => hj a (by simp only [List.mem_cons, List.not_mem_nil, or_false] at ha ⊢; omega)), fd_frp2 (frp_g_X11_greatestAudience_6_26 _ _ _ _ hj)]; done) | rfl
theorem fr_X11_greatestAudience {G : mG} {w : Int} {f : Int} {n : Int} {k : Nat} (hk : ∀ a ∈ ([26, 27, 28] : List Nat), k ≠ a) : (r_X11_greatestAudience G w f n).2 k = G k := by
  unfold r_X11_greatestAudience
  repeat' with_reducible first | apply ite_f | apply ite_f2 | apply ite_p | apply ite_p2
  all_goals first | (simp only [gs_ne (hk (26) (by simp)), gs_ne (hk (27) (by simp)), gs_ne (hk (28) (by simp)), fr_X2_follow (fun a ha => hk a (by simp only [List.mem_cons, List.not_mem_nil, or_false] at ha ⊢; omega)), fd_fr2 (fr_g_X11_greatestAudience_6 _ _ _ _ hk)]; done) | rfl
theorem sp_X11_greatestAudience {D : Nat → Bool} {d : Nat} {G : mG} {w : Int} {f : Int} {n : Int} {Q : Option mV → mG → Prop} (h16 : G 1 6 ≤ 9) (hk : 0 ≤ n ∧ n ≤ G 8 4) (hs : G 8 4 ≤ 300) (hD : ∀ k, D k = false → inN [26, 27, 28] k = false) (h : Q (some (mI (r_X11_greatestAudience G w f n).1)) (r_X11_greatestAudience G w f n).2) : P2 D (d + 4) M_X11_greatestAudience [mR 5, mI w, mI f, mI n] G Q := by
  unfold r_X11_greatestAudience at h
  refine MP.to (D2 := inN [26, 27, 28]) (Q2 := Q) ?_ hD (fun v G' q _ => q)
  refine p2_vc [6] 400 oo_X11 q_X11_greatestAudience (by decide) rfl (Nat.le_of_ble_eq_true rfl) ?_
  refine (show W2 o_X11 M_X11_greatestAudience (inN [26, 27, 28]) (d + 4) Q 6 [some (mR 5), some (mI w), some (mI f), some (mI n), some (mI 0), some (mI ((0 : Nat) : Int))] [] G from ?_)
  refine lupI (g_X11_greatestAudience_6 G w f n) (0, G) (fun j1 s1 => W2 o_X11 M_X11_greatestAudience (inN [26, 27, 28]) (d + 4) Q 6 [some (mR 5), some (mI w), some (mI f), some (mI n), some (mI s1.1), some (mI ((j1 : Nat) : Int))] [] s1.2) (fun (_ : Nat) s => (∀ k, (∀ a ∈ ([26, 27, 28] : List Nat), k ≠ a) → s.2 k = G k) ∧ (∀ i, (∀ a ∈ ([2] : List Nat), i ≠ a) → s.2 26 i = G 26 i)) (Int.toNat (G 1 6)) ⟨⟨fun _ _ => rfl, fun _ _ => rfl⟩, fun j s _ hI => ⟨fun k hk => by rw [← hI.1 k hk]; exact fr_g_X11_greatestAudience_6 G w f n hk j s, fun i hi => by rw [← hI.2 i hi]; exact frp_g_X11_greatestAudience_6_26 G w f n hi j s⟩⟩ (fun j1 s1 hj1 hI1 ih1 => ?_) (fun hI1 => ?_)
  · have ih1 : W2 o_X11 M_X11_greatestAudience (inN [26, 27, 28]) (d + 4) Q 6 [some (mR 5), some (mI w), some (mI f), some (mI n), some (mI (g_X11_greatestAudience_6 G w f n j1 s1).1), some (mI ((j1 + 1 : Nat) : Int))] [] (g_X11_greatestAudience_6 G w f n j1 s1).2 := ih1
    unfold g_X11_greatestAudience_6 at ih1
    have hF1 := hI1.1
    have hP1_26 := hI1.2
    have hI1a : s1.2 1 6 = G 1 6 := by simp (disch := decide) only [hF1]
    have hI1b : s1.2 8 4 = G 8 4 := by simp (disch := decide) only [hF1]
    refine w2_vc [6] 400 oo_X11 q_X11_greatestAudience ?_
    refine sp_X0_size  ?_
    have c2 := (show f_X0_size s1.2 = s1.2 1 6 from rfl)
    refine ⟨fun (c3 : (f_X0_size s1.2 ) ≤ ((j1 : Nat) : Int)) => ?_, fun (c3 : ((j1 : Nat) : Int) < (f_X0_size s1.2 )) => ?_⟩
    · skip
      exfalso; first | omega | (rw [w32_i (by omega) (by omega)] at c3; omega) | (simp (disch := omega) only [w32_i] at *; omega)
    · skip
      refine sp_X4_clauseOf  ?_
      refine ⟨fun (c5 : ¬ (f_X4_clauseOf s1.2 ((j1 : Nat) : Int) f) = w) => ?_, fun (c5 : (f_X4_clauseOf s1.2 ((j1 : Nat) : Int) f) = w) => ?_⟩
      · rw [if_pos c5] at ih1
        refine (show W2 o_X11 M_X11_greatestAudience (inN [26, 27, 28]) (d + 4) Q 6 [some (mR 5), some (mI w), some (mI f), some (mI n), some (mI s1.1), some (mI (w32 (((j1 : Nat) : Int) + 1)))] [] s1.2 from ?_)
        rw [w32_nat (by omega)]
        exact ih1
      · rw [if_neg (fun q => q c5)] at ih1
        refine sp_X2_follow (by first | omega | (simp (disch := decide) only [gs_ne, gs_at_ne, hF1, hP1_26]; omega)) (by first | omega | (simp (disch := decide) only [gs_ne, gs_at_ne, hF1, hP1_26]; omega)) (insub (by decide)) ?_
        refine sp_X2_daysOf  ?_
        refine ⟨fun (c8 : (f_X2_daysOf (e_X2_follow s1.2 ((j1 : Nat) : Int) f n) 1) ≤ 0) => ?_, fun (c8 : 0 < (f_X2_daysOf (e_X2_follow s1.2 ((j1 : Nat) : Int) f n) 1)) => ?_⟩
        · rw [if_pos c8] at ih1
          refine (show W2 o_X11 M_X11_greatestAudience (inN [26, 27, 28]) (d + 4) Q 6 [some (mR 5), some (mI w), some (mI f), some (mI n), some (mI s1.1), some (mI (w32 (((j1 : Nat) : Int) + 1)))] [] (e_X2_follow s1.2 ((j1 : Nat) : Int) f n) from ?_)
          rw [w32_nat (by omega)]
          exact ih1
        · rw [if_neg (Int.not_le.mpr c8)] at ih1
          refine sp_X0_audienceOf  ?_
          refine (show W2 o_X11 M_X11_greatestAudience (inN [26, 27, 28]) (d + 4) Q 6 [some (mR 5), some (mI w), some (mI f), some (mI n), some (mI (mMax s1.1 (f_X0_audienceOf (e_X2_follow s1.2 ((j1 : Nat) : Int) f n) ((j1 : Nat) : Int)))), some (mI (w32 (((j1 : Nat) : Int) + 1)))] [] (e_X2_follow s1.2 ((j1 : Nat) : Int) f n) from ?_)
          rw [w32_nat (by omega)]
          exact ih1
  · skip
    refine (show W2 o_X11 M_X11_greatestAudience (inN [26, 27, 28]) (d + 4) Q 6 [some (mR 5), some (mI w), some (mI f), some (mI n), some (mI (fd (g_X11_greatestAudience_6 G w f n) (0, G) (Int.toNat (G 1 6))).1), some (mI (((Int.toNat (G 1 6)) : Nat) : Int))] [] (fd (g_X11_greatestAudience_6 G w f n) (0, G) (Int.toNat (G 1 6))).2 from ?_)
    have hF1 := hI1.1
    have hP1_26 := hI1.2
    have hI1a : (fd (g_X11_greatestAudience_6 G w f n) (0, G) (Int.toNat (G 1 6))).2 1 6 = G 1 6 := by simp (disch := decide) only [hF1]
    have hI1b : (fd (g_X11_greatestAudience_6 G w f n) (0, G) (Int.toNat (G 1 6))).2 8 4 = G 8 4 := by simp (disch := decide) only [hF1]
    refine w2_vc [6] 400 oo_X11 q_X11_greatestAudience ?_
    refine sp_X0_size  ?_
    have c11 := (show f_X0_size (fd (g_X11_greatestAudience_6 G w f n) (0, G) (Int.toNat (G 1 6))).2 = (fd (g_X11_greatestAudience_6 G w f n) (0, G) (Int.toNat (G 1 6))).2 1 6 from rfl)
    refine ⟨fun (c12 : (f_X0_size (fd (g_X11_greatestAudience_6 G w f n) (0, G) (Int.toNat (G 1 6))).2 ) ≤ (((Int.toNat (G 1 6)) : Nat) : Int)) => ?_, fun (c12 : (((Int.toNat (G 1 6)) : Nat) : Int) < (f_X0_size (fd (g_X11_greatestAudience_6 G w f n) (0, G) (Int.toNat (G 1 6))).2 )) => ?_⟩
    · skip
      exact h
    · skip
      exfalso; first | omega | (rw [w32_i (by omega) (by omega)] at c12; omega) | (simp (disch := omega) only [w32_i] at *; omega)
def f_X11_given (c : Nat) (G : mG) (b : Int) (f : Int) (w : Int) : Int := (if (f_X0_has G b) = 0 then (-1) else (if ¬ (f_X4_isMade G f) = 0 then (if w = 0 then (f_X4_clauseOf G b f) else (if w = 1 then (f_X1_ownerOf c G (f_X4_clauseOf G b f)) else (if w = 2 then (f_X1_worthOf c G (f_X4_clauseOf G b f)) else (if w = 3 then (f_X11_dueOf G b f) else (-1))))) else (-1)))
theorem sp_X11_given {D : Nat → Bool} {d : Nat} {c : Nat} {G : mG} {b : Int} {f : Int} {w : Int} {Q : Option mV → mG → Prop} (hc : c = 40 ∨ c = 52) (hp : G 0 8 = ((c + 5 : Nat) : Int)) (h11 : G c 11 ≤ 8) (h12 : G c 12 ≤ 40) (ha : cB c G) (hs : G 8 4 ≤ 300) (h16 : G 1 6 ≤ 9) (h : Q (some (mI (f_X11_given c G b f w))) G) : P2 D (d + 5) M_X11_given [mR 5, mI b, mI f, mI w] G Q := by
  rcases hc with rfl | rfl
  · skip
    unfold f_X11_given at h
    try simp only [Nat.reduceAdd, Nat.reduceSub] at h
    have hp : G 0 8 = 45 := hp
    refine (show P2 D (d + 5) M_X11_given [mR 5, mI b, mI f, mI w] G Q from ?_)
    refine p2_vc [75, 85] 400 oo_X11 q_X11_given (by decide) rfl (Nat.le_of_ble_eq_true rfl) ?_
    refine sp_X0_has  ?_
    have c2 := fa_X0_has G b
    refine ⟨fun (c3 : (f_X0_has G b) = 0) => ?_, fun (c3 : ¬ (f_X0_has G b) = 0) => ?_⟩
    · rw [if_pos c3] at h
      exact h
    · rw [if_neg (c3)] at h
      refine sp_X4_isMade  ?_
      refine ⟨fun (c5 : ¬ (f_X4_isMade G f) = 0) => ?_, fun (c5 : (f_X4_isMade G f) = 0) => ?_⟩
      · rw [if_pos c5] at h
        refine sp_X4_clauseOf  ?_
        refine ⟨fun (c7 : w < 0 ∨ 3 < w) => ?_, fun (c7 : w = 0) => ?_, fun (c7 : w = 1) => ?_, fun (c7 : w = 2) => ?_, fun (c7 : w = 3) => ?_, trivial⟩
        · skip
          rw [if_neg (show ¬ w = 0 from by omega)] at h
          rw [if_neg (show ¬ w = 1 from by omega)] at h
          rw [if_neg (show ¬ w = 2 from by omega)] at h
          rw [if_neg (show ¬ w = 3 from by omega)] at h
          exact h
        · skip
          rw [if_pos c7] at h
          exact h
        · skip
          rw [if_neg (show ¬ w = 0 from by omega)] at h
          rw [if_pos c7] at h
          refine (show W2 o_X11 M_X11_given D (d + 5) Q 75 [some (mR 5), some (mI b), some (mI f), some (mI w), some (mI (f_X4_clauseOf G b f))] [mR (Int.toNat (G 0 8))] G from ?_)
          rw [hp]
          refine (show W2 o_X11 M_X11_given D (d + 5) Q 75 [some (mR 5), some (mI b), some (mI f), some (mI w), some (mI (f_X4_clauseOf G b f))] [mR 45] G from ?_)
          refine w2_vc [75, 85] 400 oo_X11 q_X11_given ?_
          refine sp_X1_ownerOf (by decide) ?_
          exact h
        · skip
          rw [if_neg (show ¬ w = 0 from by omega)] at h
          rw [if_neg (show ¬ w = 1 from by omega)] at h
          rw [if_pos c7] at h
          refine (show W2 o_X11 M_X11_given D (d + 5) Q 85 [some (mR 5), some (mI b), some (mI f), some (mI w), some (mI (f_X4_clauseOf G b f))] [mR (Int.toNat (G 0 8))] G from ?_)
          rw [hp]
          refine (show W2 o_X11 M_X11_given D (d + 5) Q 85 [some (mR 5), some (mI b), some (mI f), some (mI w), some (mI (f_X4_clauseOf G b f))] [mR 45] G from ?_)
          refine w2_vc [75, 85] 400 oo_X11 q_X11_given ?_
          refine sp_X1_worthOf (by decide) ?_
          exact h
        · skip
          rw [if_neg (show ¬ w = 0 from by omega)] at h
          rw [if_neg (show ¬ w = 1 from by omega)] at h
          rw [if_neg (show ¬ w = 2 from by omega)] at h
          rw [if_pos c7] at h
          refine sp_X11_dueOf (by omega) ?_
          exact h
      · rw [if_neg (fun q => q c5)] at h
        exact h
  · skip
    unfold f_X11_given at h
    try simp only [Nat.reduceAdd, Nat.reduceSub] at h
    have hp : G 0 8 = 57 := hp
    refine (show P2 D (d + 5) M_X11_given [mR 5, mI b, mI f, mI w] G Q from ?_)
    refine p2_vc [75, 85] 400 oo_X11 q_X11_given (by decide) rfl (Nat.le_of_ble_eq_true rfl) ?_
    refine sp_X0_has  ?_
    have c2 := fa_X0_has G b
    refine ⟨fun (c3 : (f_X0_has G b) = 0) => ?_, fun (c3 : ¬ (f_X0_has G b) = 0) => ?_⟩
    · rw [if_pos c3] at h
      exact h
    · rw [if_neg (c3)] at h
      refine sp_X4_isMade  ?_
      refine ⟨fun (c5 : ¬ (f_X4_isMade G f) = 0) => ?_, fun (c5 : (f_X4_isMade G f) = 0) => ?_⟩
      · rw [if_pos c5] at h
        refine sp_X4_clauseOf  ?_
        refine ⟨fun (c7 : w < 0 ∨ 3 < w) => ?_, fun (c7 : w = 0) => ?_, fun (c7 : w = 1) => ?_, fun (c7 : w = 2) => ?_, fun (c7 : w = 3) => ?_, trivial⟩
        · skip
          rw [if_neg (show ¬ w = 0 from by omega)] at h
          rw [if_neg (show ¬ w = 1 from by omega)] at h
          rw [if_neg (show ¬ w = 2 from by omega)] at h
          rw [if_neg (show ¬ w = 3 from by omega)] at h
          exact h
        · skip
          rw [if_pos c7] at h
          exact h
        · skip
          rw [if_neg (show ¬ w = 0 from by omega)] at h
          rw [if_pos c7] at h
          refine (show W2 o_X11 M_X11_given D (d + 5) Q 75 [some (mR 5), some (mI b), some (mI f), some (mI w), some (mI (f_X4_clauseOf G b f))] [mR (Int.toNat (G 0 8))] G from ?_)
          rw [hp]
          refine (show W2 o_X11 M_X11_given D (d + 5) Q 75 [some (mR 5), some (mI b), some (mI f), some (mI w), some (mI (f_X4_clauseOf G b f))] [mR 57] G from ?_)
          refine w2_vc [75, 85] 400 oo_X11 q_X11_given ?_
          refine sp_X1_ownerOf (by decide) ?_
          exact h
        · skip
          rw [if_neg (show ¬ w = 0 from by omega)] at h
          rw [if_neg (show ¬ w = 1 from by omega)] at h
          rw [if_pos c7] at h
          refine (show W2 o_X11 M_X11_given D (d + 5) Q 85 [some (mR 5), some (mI b), some (mI f), some (mI w), some (mI (f_X4_clauseOf G b f))] [mR (Int.toNat (G 0 8))] G from ?_)
          rw [hp]
          refine (show W2 o_X11 M_X11_given D (d + 5) Q 85 [some (mR 5), some (mI b), some (mI f), some (mI w), some (mI (f_X4_clauseOf G b f))] [mR 57] G from ?_)
          refine w2_vc [75, 85] 400 oo_X11 q_X11_given ?_
          refine sp_X1_worthOf (by decide) ?_
          exact h
        · skip
          rw [if_neg (show ¬ w = 0 from by omega)] at h
          rw [if_neg (show ¬ w = 1 from by omega)] at h
          rw [if_neg (show ¬ w = 2 from by omega)] at h
          rw [if_pos c7] at h
          refine sp_X11_dueOf (by omega) ?_
          exact h
      · rw [if_neg (fun q => q c5)] at h
        exact h
def r_X11_may (c : Nat) (G : mG) (b : Int) (x : Int) : Int × mG := (if (f_X0_has G b) = 0 then ((-1), G) else (if ¬ (f_X1_hasCampaign c G x) = 0 then (if ¬ (r_X11_firstBar c G b x).1 = (-1) then (0, (r_X11_firstBar c G b x).2) else (1, (r_X11_firstBar c G b x).2)) else ((-1), G)))
theorem frp_X11_may_24 {c : Nat} {G : mG} {b : Int} {x : Int} (hc : c = 40 ∨ c = 52) {i : Nat} (hj : ∀ a ∈ ([1, 2, 3, 4, 5, 6, 7] : List Nat), i ≠ a) : (r_X11_may c G b x).2 24 i = G 24 i := by
  unfold r_X11_may
  repeat' with_reducible first | apply ite_f | apply ite_f2 | apply ite_p | apply ite_p2
  all_goals first | (simp only [gs_at_ne (hj 1 (by simp)), gs_at_ne (hj 2 (by simp)), gs_at_ne (hj 3 (by simp)), gs_at_ne (hj 4 (by simp)), gs_at_ne (hj 5 (by simp)), gs_at_ne (hj 6 (by simp)), gs_at_ne (hj 7 (by simp)), gs_ne (show (24) ≠ (25) from by omega), frp_X11_firstBar_24 (c := c) hc (fun a ha => hj a (by simp only [List.mem_cons, List.not_mem_nil, or_false] at ha ⊢; omega))]; done) | rfl
theorem fr_X11_may {c : Nat} {G : mG} {b : Int} {x : Int} {k : Nat} (hk : ∀ a ∈ ([24, 25] : List Nat), k ≠ a) : (r_X11_may c G b x).2 k = G k := by
  unfold r_X11_may
  repeat' with_reducible first | apply ite_f | apply ite_f2 | apply ite_p | apply ite_p2
  all_goals first | (simp only [gs_ne (hk (24) (by simp)), gs_ne (hk (25) (by simp)), fr_X11_firstBar (c := c) (fun a ha => hk a (by simp only [List.mem_cons, List.not_mem_nil, or_false] at ha ⊢; omega))]; done) | rfl
theorem sp_X11_may {D : Nat → Bool} {d : Nat} {c : Nat} {G : mG} {b : Int} {x : Int} {Q : Option mV → mG → Prop} (hc : c = 40 ∨ c = 52) (hp : G 0 8 = ((c + 5 : Nat) : Int)) (h11 : G c 11 ≤ 8) (h12 : G c 12 ≤ 40) (ha : cB c G) (hs : G 8 4 ≤ 300) (h16 : G 1 6 ≤ 9) (hD : ∀ k, D k = false → inN [24, 25] k = false) (h : Q (some (mI (r_X11_may c G b x).1)) (r_X11_may c G b x).2) : P2 D (d + 6) M_X11_may [mR 5, mI b, mI x] G Q := by
  rcases hc with rfl | rfl
  · skip
    unfold r_X11_may at h
    try simp only [Nat.reduceAdd, Nat.reduceSub] at h
    have hp : G 0 8 = 45 := hp
    refine MP.to (D2 := inN [24, 25]) (Q2 := Q) ?_ hD (fun v G' q _ => q)
    refine (show P2 (inN [24, 25]) (d + 6) M_X11_may [mR 5, mI b, mI x] G Q from ?_)
    refine p2_vc [15] 400 oo_X11 q_X11_may (by decide) rfl (Nat.le_of_ble_eq_true rfl) ?_
    refine sp_X0_has  ?_
    have c2 := fa_X0_has G b
    refine ⟨fun (c3 : (f_X0_has G b) = 0) => ?_, fun (c3 : ¬ (f_X0_has G b) = 0) => ?_⟩
    · rw [if_pos c3] at h
      exact h
    · rw [if_neg (c3)] at h
      refine (show W2 o_X11 M_X11_may (inN [24, 25]) (d + 6) Q 15 [some (mR 5), some (mI b), some (mI x)] [mR (Int.toNat (G 0 8))] G from ?_)
      rw [hp]
      refine (show W2 o_X11 M_X11_may (inN [24, 25]) (d + 6) Q 15 [some (mR 5), some (mI b), some (mI x)] [mR 45] G from ?_)
      refine w2_vc [15] 400 oo_X11 q_X11_may ?_
      refine sp_X1_hasCampaign (by decide) ?_
      have c5 := fa_X1_hasCampaign 40 G x
      refine ⟨fun (c6 : ¬ (f_X1_hasCampaign 40 G x) = 0) => ?_, fun (c6 : (f_X1_hasCampaign 40 G x) = 0) => ?_⟩
      · rw [if_pos c6] at h
        refine sp_X11_firstBar (by decide) (hp) (by omega) (ha) (insub (by decide)) ?_
        refine ⟨fun (c8 : ¬ (r_X11_firstBar 40 G b x).1 = (-1)) => ?_, fun (c8 : (r_X11_firstBar 40 G b x).1 = (-1)) => ?_⟩
        · rw [if_pos c8] at h
          exact h
        · rw [if_neg (fun q => q c8)] at h
          exact h
      · rw [if_neg (fun q => q c6)] at h
        exact h
  · skip
    unfold r_X11_may at h
    try simp only [Nat.reduceAdd, Nat.reduceSub] at h
    have hp : G 0 8 = 57 := hp
    refine MP.to (D2 := inN [24, 25]) (Q2 := Q) ?_ hD (fun v G' q _ => q)
    refine (show P2 (inN [24, 25]) (d + 6) M_X11_may [mR 5, mI b, mI x] G Q from ?_)
    refine p2_vc [15] 400 oo_X11 q_X11_may (by decide) rfl (Nat.le_of_ble_eq_true rfl) ?_
    refine sp_X0_has  ?_
    have c2 := fa_X0_has G b
    refine ⟨fun (c3 : (f_X0_has G b) = 0) => ?_, fun (c3 : ¬ (f_X0_has G b) = 0) => ?_⟩
    · rw [if_pos c3] at h
      exact h
    · rw [if_neg (c3)] at h
      refine (show W2 o_X11 M_X11_may (inN [24, 25]) (d + 6) Q 15 [some (mR 5), some (mI b), some (mI x)] [mR (Int.toNat (G 0 8))] G from ?_)
      rw [hp]
      refine (show W2 o_X11 M_X11_may (inN [24, 25]) (d + 6) Q 15 [some (mR 5), some (mI b), some (mI x)] [mR 57] G from ?_)
      refine w2_vc [15] 400 oo_X11 q_X11_may ?_
      refine sp_X1_hasCampaign (by decide) ?_
      have c5 := fa_X1_hasCampaign 52 G x
      refine ⟨fun (c6 : ¬ (f_X1_hasCampaign 52 G x) = 0) => ?_, fun (c6 : (f_X1_hasCampaign 52 G x) = 0) => ?_⟩
      · rw [if_pos c6] at h
        refine sp_X11_firstBar (by decide) (hp) (by omega) (ha) (insub (by decide)) ?_
        refine ⟨fun (c8 : ¬ (r_X11_firstBar 52 G b x).1 = (-1)) => ?_, fun (c8 : (r_X11_firstBar 52 G b x).1 = (-1)) => ?_⟩
        · rw [if_pos c8] at h
          exact h
        · rw [if_neg (fun q => q c8)] at h
          exact h
      · rw [if_neg (fun q => q c6)] at h
        exact h
def r_X11_bar (c : Nat) (G : mG) (b : Int) (x : Int) : Int × mG := (if (f_X0_has G b) = 0 then ((-1), G) else (if ¬ (f_X1_hasCampaign c G x) = 0 then ((r_X11_firstBar c G b x).1, (r_X11_firstBar c G b x).2) else ((-1), G)))
theorem frp_X11_bar_24 {c : Nat} {G : mG} {b : Int} {x : Int} (hc : c = 40 ∨ c = 52) {i : Nat} (hj : ∀ a ∈ ([1, 2, 3, 4, 5, 6, 7] : List Nat), i ≠ a) : (r_X11_bar c G b x).2 24 i = G 24 i := by
  unfold r_X11_bar
  repeat' with_reducible first | apply ite_f | apply ite_f2 | apply ite_p | apply ite_p2
  all_goals first | (simp only [gs_at_ne (hj 1 (by simp)), gs_at_ne (hj 2 (by simp)), gs_at_ne (hj 3 (by simp)), gs_at_ne (hj 4 (by simp)), gs_at_ne (hj 5 (by simp)), gs_at_ne (hj 6 (by simp)), gs_at_ne (hj 7 (by simp)), gs_ne (show (24) ≠ (25) from by omega), frp_X11_firstBar_24 (c := c) hc (fun a ha => hj a (by simp only [List.mem_cons, List.not_mem_nil, or_false] at ha ⊢; omega))]; done) | rfl
theorem fr_X11_bar {c : Nat} {G : mG} {b : Int} {x : Int} {k : Nat} (hk : ∀ a ∈ ([24, 25] : List Nat), k ≠ a) : (r_X11_bar c G b x).2 k = G k := by
  unfold r_X11_bar
  repeat' with_reducible first | apply ite_f | apply ite_f2 | apply ite_p | apply ite_p2
  all_goals first | (simp only [gs_ne (hk (24) (by simp)), gs_ne (hk (25) (by simp)), fr_X11_firstBar (c := c) (fun a ha => hk a (by simp only [List.mem_cons, List.not_mem_nil, or_false] at ha ⊢; omega))]; done) | rfl
theorem sp_X11_bar {D : Nat → Bool} {d : Nat} {c : Nat} {G : mG} {b : Int} {x : Int} {Q : Option mV → mG → Prop} (hc : c = 40 ∨ c = 52) (hp : G 0 8 = ((c + 5 : Nat) : Int)) (h11 : G c 11 ≤ 8) (h12 : G c 12 ≤ 40) (ha : cB c G) (hs : G 8 4 ≤ 300) (h16 : G 1 6 ≤ 9) (hD : ∀ k, D k = false → inN [24, 25] k = false) (h : Q (some (mI (r_X11_bar c G b x).1)) (r_X11_bar c G b x).2) : P2 D (d + 6) M_X11_bar [mR 5, mI b, mI x] G Q := by
  rcases hc with rfl | rfl
  · skip
    unfold r_X11_bar at h
    try simp only [Nat.reduceAdd, Nat.reduceSub] at h
    have hp : G 0 8 = 45 := hp
    refine MP.to (D2 := inN [24, 25]) (Q2 := Q) ?_ hD (fun v G' q _ => q)
    refine (show P2 (inN [24, 25]) (d + 6) M_X11_bar [mR 5, mI b, mI x] G Q from ?_)
    refine p2_vc [15] 400 oo_X11 q_X11_bar (by decide) rfl (Nat.le_of_ble_eq_true rfl) ?_
    refine sp_X0_has  ?_
    have c2 := fa_X0_has G b
    refine ⟨fun (c3 : (f_X0_has G b) = 0) => ?_, fun (c3 : ¬ (f_X0_has G b) = 0) => ?_⟩
    · rw [if_pos c3] at h
      exact h
    · rw [if_neg (c3)] at h
      refine (show W2 o_X11 M_X11_bar (inN [24, 25]) (d + 6) Q 15 [some (mR 5), some (mI b), some (mI x)] [mR (Int.toNat (G 0 8))] G from ?_)
      rw [hp]
      refine (show W2 o_X11 M_X11_bar (inN [24, 25]) (d + 6) Q 15 [some (mR 5), some (mI b), some (mI x)] [mR 45] G from ?_)
      refine w2_vc [15] 400 oo_X11 q_X11_bar ?_
      refine sp_X1_hasCampaign (by decide) ?_
      have c5 := fa_X1_hasCampaign 40 G x
      refine ⟨fun (c6 : ¬ (f_X1_hasCampaign 40 G x) = 0) => ?_, fun (c6 : (f_X1_hasCampaign 40 G x) = 0) => ?_⟩
      · rw [if_pos c6] at h
        refine sp_X11_firstBar (by decide) (hp) (by omega) (ha) (insub (by decide)) ?_
        exact h
      · rw [if_neg (fun q => q c6)] at h
        exact h
  · skip
    unfold r_X11_bar at h
    try simp only [Nat.reduceAdd, Nat.reduceSub] at h
    have hp : G 0 8 = 57 := hp
    refine MP.to (D2 := inN [24, 25]) (Q2 := Q) ?_ hD (fun v G' q _ => q)
    refine (show P2 (inN [24, 25]) (d + 6) M_X11_bar [mR 5, mI b, mI x] G Q from ?_)
    refine p2_vc [15] 400 oo_X11 q_X11_bar (by decide) rfl (Nat.le_of_ble_eq_true rfl) ?_
    refine sp_X0_has  ?_
    have c2 := fa_X0_has G b
    refine ⟨fun (c3 : (f_X0_has G b) = 0) => ?_, fun (c3 : ¬ (f_X0_has G b) = 0) => ?_⟩
    · rw [if_pos c3] at h
      exact h
    · rw [if_neg (c3)] at h
      refine (show W2 o_X11 M_X11_bar (inN [24, 25]) (d + 6) Q 15 [some (mR 5), some (mI b), some (mI x)] [mR (Int.toNat (G 0 8))] G from ?_)
      rw [hp]
      refine (show W2 o_X11 M_X11_bar (inN [24, 25]) (d + 6) Q 15 [some (mR 5), some (mI b), some (mI x)] [mR 57] G from ?_)
      refine w2_vc [15] 400 oo_X11 q_X11_bar ?_
      refine sp_X1_hasCampaign (by decide) ?_
      have c5 := fa_X1_hasCampaign 52 G x
      refine ⟨fun (c6 : ¬ (f_X1_hasCampaign 52 G x) = 0) => ?_, fun (c6 : (f_X1_hasCampaign 52 G x) = 0) => ?_⟩
      · rw [if_pos c6] at h
        refine sp_X11_firstBar (by decide) (hp) (by omega) (ha) (insub (by decide)) ?_
        exact h
      · rw [if_neg (fun q => q c6)] at h
        exact h
def f_X11_lacks (c : Nat) (G : mG) (x : Int) (f : Int) (y : Int) : Int := (if (f_X1_isInForce c G x f) = 0 then (-1) else (if (f_X4_isMade G f) = 0 then (-1) else (if ¬ (f_X0_isDistrict G y) = 0 then (if ¬ (f_X1_wantOf c G x y) = (-1) then (w32 ((f_X1_amountOf c G (f_X1_wantOf c G x y)) - (f_X4_boardsOf G (f_X1_wantOf c G x y) f))) else 0) else (-1))))
theorem sp_X11_lacks {D : Nat → Bool} {d : Nat} {c : Nat} {G : mG} {x : Int} {f : Int} {y : Int} {Q : Option mV → mG → Prop} (hc : c = 40 ∨ c = 52) (hp : G 0 8 = ((c + 5 : Nat) : Int)) (h11 : G c 11 ≤ 8) (h12 : G c 12 ≤ 40) (ha : cB c G) (hs : G 8 4 ≤ 300) (h16 : G 1 6 ≤ 9) (h : Q (some (mI (f_X11_lacks c G x f y))) G) : P2 D (d + 5) M_X11_lacks [mR 5, mI x, mI f, mI y] G Q := by
  rcases hc with rfl | rfl
  · skip
    unfold f_X11_lacks at h
    try simp only [Nat.reduceAdd, Nat.reduceSub] at h
    have hp : G 0 8 = 45 := hp
    refine (show P2 D (d + 5) M_X11_lacks [mR 5, mI x, mI f, mI y] G Q from ?_)
    refine p2_vc [4, 36, 57] 400 oo_X11 q_X11_lacks (by decide) rfl (Nat.le_of_ble_eq_true rfl) ?_
    refine (show W2 o_X11 M_X11_lacks D (d + 5) Q 4 [some (mR 5), some (mI x), some (mI f), some (mI y), none] [mR (Int.toNat (G 0 8))] G from ?_)
    rw [hp]
    refine (show W2 o_X11 M_X11_lacks D (d + 5) Q 4 [some (mR 5), some (mI x), some (mI f), some (mI y), none] [mR 45] G from ?_)
    refine w2_vc [4, 36, 57] 400 oo_X11 q_X11_lacks ?_
    refine sp_X1_isInForce (by decide) ?_
    have c2 := fa_X1_isInForce 40 G x f
    refine ⟨fun (c3 : (f_X1_isInForce 40 G x f) = 0) => ?_, fun (c3 : ¬ (f_X1_isInForce 40 G x f) = 0) => ?_⟩
    · rw [if_pos c3] at h
      exact h
    · rw [if_neg (c3)] at h
      refine sp_X4_isMade  ?_
      refine ⟨fun (c5 : (f_X4_isMade G f) = 0) => ?_, fun (c5 : ¬ (f_X4_isMade G f) = 0) => ?_⟩
      · rw [if_pos c5] at h
        exact h
      · rw [if_neg (c5)] at h
        refine sp_X0_isDistrict  ?_
        have c7 := fa_X0_isDistrict G y
        refine ⟨fun (c8 : ¬ (f_X0_isDistrict G y) = 0) => ?_, fun (c8 : (f_X0_isDistrict G y) = 0) => ?_⟩
        · rw [if_pos c8] at h
          refine (show W2 o_X11 M_X11_lacks D (d + 5) Q 36 [some (mR 5), some (mI x), some (mI f), some (mI y), none] [mR (Int.toNat (G 0 8))] G from ?_)
          rw [hp]
          refine (show W2 o_X11 M_X11_lacks D (d + 5) Q 36 [some (mR 5), some (mI x), some (mI f), some (mI y), none] [mR 45] G from ?_)
          refine w2_vc [4, 36, 57] 400 oo_X11 q_X11_lacks ?_
          refine sp_X1_wantOf (by decide) (by omega) ?_
          refine ⟨fun (c10 : ¬ (f_X1_wantOf 40 G x y) = (-1)) => ?_, fun (c10 : (f_X1_wantOf 40 G x y) = (-1)) => ?_⟩
          · rw [if_pos c10] at h
            refine (show W2 o_X11 M_X11_lacks D (d + 5) Q 57 [some (mR 5), some (mI x), some (mI f), some (mI y), some (mI (f_X1_wantOf 40 G x y))] [mR (Int.toNat (G 0 8))] G from ?_)
            rw [hp]
            refine (show W2 o_X11 M_X11_lacks D (d + 5) Q 57 [some (mR 5), some (mI x), some (mI f), some (mI y), some (mI (f_X1_wantOf 40 G x y))] [mR 45] G from ?_)
            refine w2_vc [4, 36, 57] 400 oo_X11 q_X11_lacks ?_
            refine sp_X1_amountOf (by decide) ?_
            refine sp_X4_boardsOf  ?_
            exact h
          · rw [if_neg (fun q => q c10)] at h
            exact h
        · rw [if_neg (fun q => q c8)] at h
          exact h
  · skip
    unfold f_X11_lacks at h
    try simp only [Nat.reduceAdd, Nat.reduceSub] at h
    have hp : G 0 8 = 57 := hp
    refine (show P2 D (d + 5) M_X11_lacks [mR 5, mI x, mI f, mI y] G Q from ?_)
    refine p2_vc [4, 36, 57] 400 oo_X11 q_X11_lacks (by decide) rfl (Nat.le_of_ble_eq_true rfl) ?_
    refine (show W2 o_X11 M_X11_lacks D (d + 5) Q 4 [some (mR 5), some (mI x), some (mI f), some (mI y), none] [mR (Int.toNat (G 0 8))] G from ?_)
    rw [hp]
    refine (show W2 o_X11 M_X11_lacks D (d + 5) Q 4 [some (mR 5), some (mI x), some (mI f), some (mI y), none] [mR 57] G from ?_)
    refine w2_vc [4, 36, 57] 400 oo_X11 q_X11_lacks ?_
    refine sp_X1_isInForce (by decide) ?_
    have c2 := fa_X1_isInForce 52 G x f
    refine ⟨fun (c3 : (f_X1_isInForce 52 G x f) = 0) => ?_, fun (c3 : ¬ (f_X1_isInForce 52 G x f) = 0) => ?_⟩
    · rw [if_pos c3] at h
      exact h
    · rw [if_neg (c3)] at h
      refine sp_X4_isMade  ?_
      refine ⟨fun (c5 : (f_X4_isMade G f) = 0) => ?_, fun (c5 : ¬ (f_X4_isMade G f) = 0) => ?_⟩
      · rw [if_pos c5] at h
        exact h
      · rw [if_neg (c5)] at h
        refine sp_X0_isDistrict  ?_
        have c7 := fa_X0_isDistrict G y
        refine ⟨fun (c8 : ¬ (f_X0_isDistrict G y) = 0) => ?_, fun (c8 : (f_X0_isDistrict G y) = 0) => ?_⟩
        · rw [if_pos c8] at h
          refine (show W2 o_X11 M_X11_lacks D (d + 5) Q 36 [some (mR 5), some (mI x), some (mI f), some (mI y), none] [mR (Int.toNat (G 0 8))] G from ?_)
          rw [hp]
          refine (show W2 o_X11 M_X11_lacks D (d + 5) Q 36 [some (mR 5), some (mI x), some (mI f), some (mI y), none] [mR 57] G from ?_)
          refine w2_vc [4, 36, 57] 400 oo_X11 q_X11_lacks ?_
          refine sp_X1_wantOf (by decide) (by omega) ?_
          refine ⟨fun (c10 : ¬ (f_X1_wantOf 52 G x y) = (-1)) => ?_, fun (c10 : (f_X1_wantOf 52 G x y) = (-1)) => ?_⟩
          · rw [if_pos c10] at h
            refine (show W2 o_X11 M_X11_lacks D (d + 5) Q 57 [some (mR 5), some (mI x), some (mI f), some (mI y), some (mI (f_X1_wantOf 52 G x y))] [mR (Int.toNat (G 0 8))] G from ?_)
            rw [hp]
            refine (show W2 o_X11 M_X11_lacks D (d + 5) Q 57 [some (mR 5), some (mI x), some (mI f), some (mI y), some (mI (f_X1_wantOf 52 G x y))] [mR 57] G from ?_)
            refine w2_vc [4, 36, 57] 400 oo_X11 q_X11_lacks ?_
            refine sp_X1_amountOf (by decide) ?_
            refine sp_X4_boardsOf  ?_
            exact h
          · rw [if_neg (fun q => q c10)] at h
            exact h
        · rw [if_neg (fun q => q c8)] at h
          exact h
def r_X11_state (c : Nat) (G : mG) (b : Int) (f : Int) (n : Int) (w : Int) : Int × mG := (if (f_X0_has G b) = 0 then ((-1), G) else (if (f_X11_isFortnight G f) = 0 then ((-1), G) else (if ¬ (f_X3_areKnown G n) = 0 then (if w = 0 then ((f_X2_daysOf (e_X2_follow G b f n) 1), (e_X2_follow G b f n)) else (if w = 1 then ((f_X2_daysOf (e_X2_follow G b f n) 2), (e_X2_follow G b f n)) else (if w = 2 then ((f_X11_lateOf (e_X2_follow G b f n) b f), (e_X2_follow G b f n)) else (if w = 3 then (if (f_X3_isLost (e_X2_follow G b f n) b f n) = 0 then (0, (e_X2_follow G b f n)) else (1, (e_X2_follow G b f n))) else (if 20 ≤ w then ((f_X2_lookOn (e_X2_follow G b f n) (w32 (w - 20))), (e_X2_follow G b f n)) else ((-1), (e_X2_follow G b f n))))))) else ((-1), G))))
theorem frp_X11_state_26 {c : Nat} {G : mG} {b : Int} {f : Int} {n : Int} {w : Int} (hc : c = 40 ∨ c = 52) {i : Nat} (hj : ∀ a ∈ ([2] : List Nat), i ≠ a) : (r_X11_state c G b f n w).2 26 i = G 26 i := by
  unfold r_X11_state
  repeat' with_reducible first | apply ite_f | apply ite_f2 | apply ite_p | apply ite_p2
  all_goals first | (simp only [gs_at_ne (hj 2 (by simp)), gs_ne (show (26) ≠ (27) from by omega), gs_ne (show (26) ≠ (28) from by omega), frp_X2_follow_26 (fun a ha => hj a (by simp only [List.mem_cons, List.not_mem_nil, or_false] at ha ⊢; omega))]; done) | rfl
theorem fr_X11_state {c : Nat} {G : mG} {b : Int} {f : Int} {n : Int} {w : Int} {k : Nat} (hk : ∀ a ∈ ([26, 27, 28] : List Nat), k ≠ a) : (r_X11_state c G b f n w).2 k = G k := by
  unfold r_X11_state
  repeat' with_reducible first | apply ite_f | apply ite_f2 | apply ite_p | apply ite_p2
  all_goals first | (simp only [gs_ne (hk (26) (by simp)), gs_ne (hk (27) (by simp)), gs_ne (hk (28) (by simp)), fr_X2_follow (fun a ha => hk a (by simp only [List.mem_cons, List.not_mem_nil, or_false] at ha ⊢; omega))]; done) | rfl
set_option maxHeartbeats 8000000 in
theorem sp_X11_state {D : Nat → Bool} {d : Nat} {c : Nat} {G : mG} {b : Int} {f : Int} {n : Int} {w : Int} {Q : Option mV → mG → Prop} (hc : c = 40 ∨ c = 52) (hp : G 0 8 = ((c + 5 : Nat) : Int)) (h11 : G c 11 ≤ 8) (h12 : G c 12 ≤ 40) (ha : cB c G) (hs : G 8 4 ≤ 300) (h16 : G 1 6 ≤ 9) (hD : ∀ k, D k = false → inN [26, 27, 28] k = false) (h : Q (some (mI (r_X11_state c G b f n w).1)) (r_X11_state c G b f n w).2) : P2 D (d + 6) M_X11_state [mR 5, mI b, mI f, mI n, mI w] G Q := by
  rcases hc with rfl | rfl
  · skip
    unfold r_X11_state at h
    try simp only [Nat.reduceAdd, Nat.reduceSub] at h
    have hp : G 0 8 = 45 := hp
    refine MP.to (D2 := inN [26, 27, 28]) (Q2 := Q) ?_ hD (fun v G' q _ => q)
    refine (show P2 (inN [26, 27, 28]) (d + 6) M_X11_state [mR 5, mI b, mI f, mI n, mI w] G Q from ?_)
    refine p2_vc [] 400 oo_X11 q_X11_state (by decide) rfl (Nat.le_of_ble_eq_true rfl) ?_
    refine sp_X0_has  ?_
    have c2 := fa_X0_has G b
    refine ⟨fun (c3 : (f_X0_has G b) = 0) => ?_, fun (c3 : ¬ (f_X0_has G b) = 0) => ?_⟩
    · rw [if_pos c3] at h
      exact h
    · rw [if_neg (c3)] at h
      refine sp_X11_isFortnight  ?_
      have c5 := fa_X11_isFortnight G f
      refine ⟨fun (c6 : (f_X11_isFortnight G f) = 0) => ?_, fun (c6 : ¬ (f_X11_isFortnight G f) = 0) => ?_⟩
      · rw [if_pos c6] at h
        exact h
      · rw [if_neg (c6)] at h
        refine sp_X3_areKnown  ?_
        have c8 := fa_X3_areKnown G n
        refine ⟨fun (c9 : ¬ (f_X3_areKnown G n) = 0) => ?_, fun (c9 : (f_X3_areKnown G n) = 0) => ?_⟩
        · rw [if_pos c9] at h
          refine sp_X2_follow (by omega) (by omega) (insub (by decide)) ?_
          refine ⟨fun (c11 : w < 0 ∨ 3 < w) => ?_, fun (c11 : w = 0) => ?_, fun (c11 : w = 1) => ?_, fun (c11 : w = 2) => ?_, fun (c11 : w = 3) => ?_, trivial⟩
          · skip
            rw [if_neg (show ¬ w = 0 from by omega)] at h
            rw [if_neg (show ¬ w = 1 from by omega)] at h
            rw [if_neg (show ¬ w = 2 from by omega)] at h
            rw [if_neg (show ¬ w = 3 from by omega)] at h
            refine ⟨fun (c12 : 20 ≤ w) => ?_, fun (c12 : w < 20) => ?_⟩
            · rw [if_pos c12] at h
              refine sp_X2_lookOn  ?_
              exact h
            · rw [if_neg (Int.not_le.mpr c12)] at h
              exact h
          · skip
            rw [if_pos c11] at h
            refine sp_X2_daysOf  ?_
            exact h
          · skip
            rw [if_neg (show ¬ w = 0 from by omega)] at h
            rw [if_pos c11] at h
            refine sp_X2_daysOf  ?_
            exact h
          · skip
            rw [if_neg (show ¬ w = 0 from by omega)] at h
            rw [if_neg (show ¬ w = 1 from by omega)] at h
            rw [if_pos c11] at h
            refine sp_X11_lateOf (by first | omega | (simp (disch := decide) only [gs_ne, gs_at_ne, fr_X2_follow, frp_X2_follow_26]; omega)) ?_
            exact h
          · skip
            rw [if_neg (show ¬ w = 0 from by omega)] at h
            rw [if_neg (show ¬ w = 1 from by omega)] at h
            rw [if_neg (show ¬ w = 2 from by omega)] at h
            rw [if_pos c11] at h
            refine sp_X3_isLost (by first | omega | (simp (disch := decide) only [gs_ne, gs_at_ne, fr_X2_follow, frp_X2_follow_26]; omega)) (by first | omega | (simp (disch := decide) only [gs_ne, gs_at_ne, fr_X2_follow, frp_X2_follow_26]; omega)) ?_
            have c18 := fa_X3_isLost (e_X2_follow G b f n) b f n
            refine ⟨fun (c19 : (f_X3_isLost (e_X2_follow G b f n) b f n) = 0) => ?_, fun (c19 : ¬ (f_X3_isLost (e_X2_follow G b f n) b f n) = 0) => ?_⟩
            · rw [if_pos c19] at h
              exact h
            · rw [if_neg (c19)] at h
              exact h
        · rw [if_neg (fun q => q c9)] at h
          exact h
  · skip
    unfold r_X11_state at h
    try simp only [Nat.reduceAdd, Nat.reduceSub] at h
    have hp : G 0 8 = 57 := hp
    refine MP.to (D2 := inN [26, 27, 28]) (Q2 := Q) ?_ hD (fun v G' q _ => q)
    refine (show P2 (inN [26, 27, 28]) (d + 6) M_X11_state [mR 5, mI b, mI f, mI n, mI w] G Q from ?_)
    refine p2_vc [] 400 oo_X11 q_X11_state (by decide) rfl (Nat.le_of_ble_eq_true rfl) ?_
    refine sp_X0_has  ?_
    have c2 := fa_X0_has G b
    refine ⟨fun (c3 : (f_X0_has G b) = 0) => ?_, fun (c3 : ¬ (f_X0_has G b) = 0) => ?_⟩
    · rw [if_pos c3] at h
      exact h
    · rw [if_neg (c3)] at h
      refine sp_X11_isFortnight  ?_
      have c5 := fa_X11_isFortnight G f
      refine ⟨fun (c6 : (f_X11_isFortnight G f) = 0) => ?_, fun (c6 : ¬ (f_X11_isFortnight G f) = 0) => ?_⟩
      · rw [if_pos c6] at h
        exact h
      · rw [if_neg (c6)] at h
        refine sp_X3_areKnown  ?_
        have c8 := fa_X3_areKnown G n
        refine ⟨fun (c9 : ¬ (f_X3_areKnown G n) = 0) => ?_, fun (c9 : (f_X3_areKnown G n) = 0) => ?_⟩
        · rw [if_pos c9] at h
          refine sp_X2_follow (by omega) (by omega) (insub (by decide)) ?_
          refine ⟨fun (c11 : w < 0 ∨ 3 < w) => ?_, fun (c11 : w = 0) => ?_, fun (c11 : w = 1) => ?_, fun (c11 : w = 2) => ?_, fun (c11 : w = 3) => ?_, trivial⟩
          · skip
            rw [if_neg (show ¬ w = 0 from by omega)] at h
            rw [if_neg (show ¬ w = 1 from by omega)] at h
            rw [if_neg (show ¬ w = 2 from by omega)] at h
            rw [if_neg (show ¬ w = 3 from by omega)] at h
            refine ⟨fun (c12 : 20 ≤ w) => ?_, fun (c12 : w < 20) => ?_⟩
            · rw [if_pos c12] at h
              refine sp_X2_lookOn  ?_
              exact h
            · rw [if_neg (Int.not_le.mpr c12)] at h
              exact h
          · skip
            rw [if_pos c11] at h
            refine sp_X2_daysOf  ?_
            exact h
          · skip
            rw [if_neg (show ¬ w = 0 from by omega)] at h
            rw [if_pos c11] at h
            refine sp_X2_daysOf  ?_
            exact h
          · skip
            rw [if_neg (show ¬ w = 0 from by omega)] at h
            rw [if_neg (show ¬ w = 1 from by omega)] at h
            rw [if_pos c11] at h
            refine sp_X11_lateOf (by first | omega | (simp (disch := decide) only [gs_ne, gs_at_ne, fr_X2_follow, frp_X2_follow_26]; omega)) ?_
            exact h
          · skip
            rw [if_neg (show ¬ w = 0 from by omega)] at h
            rw [if_neg (show ¬ w = 1 from by omega)] at h
            rw [if_neg (show ¬ w = 2 from by omega)] at h
            rw [if_pos c11] at h
            refine sp_X3_isLost (by first | omega | (simp (disch := decide) only [gs_ne, gs_at_ne, fr_X2_follow, frp_X2_follow_26]; omega)) (by first | omega | (simp (disch := decide) only [gs_ne, gs_at_ne, fr_X2_follow, frp_X2_follow_26]; omega)) ?_
            have c18 := fa_X3_isLost (e_X2_follow G b f n) b f n
            refine ⟨fun (c19 : (f_X3_isLost (e_X2_follow G b f n) b f n) = 0) => ?_, fun (c19 : ¬ (f_X3_isLost (e_X2_follow G b f n) b f n) = 0) => ?_⟩
            · rw [if_pos c19] at h
              exact h
            · rw [if_neg (c19)] at h
              exact h
        · rw [if_neg (fun q => q c9)] at h
          exact h
def g_X11_refund_41 (c : Nat) (G : mG) (x : Int) (f : Int) (n : Int) : Nat → (Int × mG) → (Int × mG) := fun j1 s1 => (if ¬ (f_X1_ownerOf c s1.2 (f_X4_clauseOf s1.2 ((j1 : Nat) : Int) f)) = x then (s1.1, s1.2) else ((w32 (s1.1 + (mDiv (w32 ((f_X1_worthOf c (r_X11_groundOf c s1.2 ((j1 : Nat) : Int) f n).2 (f_X4_clauseOf s1.2 ((j1 : Nat) : Int) f)) * (f_X1_amountOf c (r_X11_groundOf c s1.2 ((j1 : Nat) : Int) f n).2 (r_X11_groundOf c s1.2 ((j1 : Nat) : Int) f n).1))) 100))), (r_X11_groundOf c s1.2 ((j1 : Nat) : Int) f n).2))
def r_X11_refund (c : Nat) (G : mG) (x : Int) (f : Int) (n : Int) : Int × mG := (if (f_X1_hasCampaign c G x) = 0 then ((-1), G) else (if (f_X4_isMade G f) = 0 then ((-1), G) else (if ¬ (f_X3_areKnown G n) = 0 then ((fd (g_X11_refund_41 c G x f n) (0, G) (Int.toNat (G 1 6))).1, (fd (g_X11_refund_41 c G x f n) (0, G) (Int.toNat (G 1 6))).2) else ((-1), G))))
theorem fr_g_X11_refund_41 (c : Nat) (G : mG) (x : Int) (f : Int) (n : Int) {k : Nat} (hk : ∀ a ∈ ([24, 25, 26, 27, 28] : List Nat), k ≠ a) (j : Nat) (s : Int × mG) : (g_X11_refund_41 c G x f n j s).2 k = s.2 k := by
  unfold g_X11_refund_41
  repeat' with_reducible first | apply ite_f | apply ite_f2 | apply ite_p | apply ite_p2
  all_goals first | (simp only [gs_ne (hk (24) (by simp)), gs_ne (hk (25) (by simp)), gs_ne (hk (26) (by simp)), gs_ne (hk (27) (by simp)), gs_ne (hk (28) (by simp)), fr_X11_groundOf (c := c) (fun a ha => hk a (by simp only [List.mem_cons, List.not_mem_nil, or_false] at ha ⊢; omega))]; done) | rfl
theorem frp_g_X11_refund_41_24 (c : Nat) (G : mG) (x : Int) (f : Int) (n : Int) (hc : c = 40 ∨ c = 52) {i : Nat} (hj : ∀ a ∈ ([1, 2, 3, 4, 5, 6, 7] : List Nat), i ≠ a) (j : Nat) (s : Int × mG) : (g_X11_refund_41 c G x f n j s).2 24 i = s.2 24 i := by
  unfold g_X11_refund_41
  repeat' with_reducible first | apply ite_f | apply ite_f2 | apply ite_p | apply ite_p2
  all_goals first | (simp only [gs_at_ne (hj 1 (by simp)), gs_at_ne (hj 2 (by simp)), gs_at_ne (hj 3 (by simp)), gs_at_ne (hj 4 (by simp)), gs_at_ne (hj 5 (by simp)), gs_at_ne (hj 6 (by simp)), gs_at_ne (hj 7 (by simp)), gs_ne (show (24) ≠ (25) from by omega), gs_ne (show (24) ≠ (26) from by omega), gs_ne (show (24) ≠ (27) from by omega), gs_ne (show (24) ≠ (28) from by omega), frp_X11_groundOf_24 (c := c) hc (fun a ha => hj a (by simp only [List.mem_cons, List.not_mem_nil, or_false] at ha ⊢; omega))]; done) | rfl
theorem frp_X11_refund_24 {c : Nat} {G : mG} {x : Int} {f : Int} {n : Int} (hc : c = 40 ∨ c = 52) {i : Nat} (hj : ∀ a ∈ ([1, 2, 3, 4, 5, 6, 7] : List Nat), i ≠ a) : (r_X11_refund c G x f n).2 24 i = G 24 i := by
  unfold r_X11_refund
  repeat' with_reducible first | apply ite_f | apply ite_f2 | apply ite_p | apply ite_p2
  all_goals first | (simp only [gs_at_ne (hj 1 (by simp)), gs_at_ne (hj 2 (by simp)), gs_at_ne (hj 3 (by simp)), gs_at_ne (hj 4 (by simp)), gs_at_ne (hj 5 (by simp)), gs_at_ne (hj 6 (by simp)), gs_at_ne (hj 7 (by simp)), gs_ne (show (24) ≠ (25) from by omega), gs_ne (show (24) ≠ (26) from by omega), gs_ne (show (24) ≠ (27) from by omega), gs_ne (show (24) ≠ (28) from by omega), frp_X11_groundOf_24 (c := c) hc (fun a ha => hj a (by simp only [List.mem_cons, List.not_mem_nil, or_false] at ha ⊢; omega)), fd_frp2 (frp_g_X11_refund_41_24 _ _ _ _ _ hc hj)]; done) | rfl
theorem frp_g_X11_refund_41_26 (c : Nat) (G : mG) (x : Int) (f : Int) (n : Int) (hc : c = 40 ∨ c = 52) {i : Nat} (hj : ∀ a ∈ ([2] : List Nat), i ≠ a) (j : Nat) (s : Int × mG) : (g_X11_refund_41 c G x f n j s).2 26 i = s.2 26 i := by
  unfold g_X11_refund_41
  repeat' with_reducible first | apply ite_f | apply ite_f2 | apply ite_p | apply ite_p2
  all_goals first | (simp only [gs_at_ne (hj 2 (by simp)), gs_ne (show (26) ≠ (24) from by omega), gs_ne (show (26) ≠ (25) from by omega), gs_ne (show (26) ≠ (27) from by omega), gs_ne (show (26) ≠ (28) from by omega), frp_X11_groundOf_26 (c := c) hc (fun a ha => hj a (by simp only [List.mem_cons, List.not_mem_nil, or_false] at ha ⊢; omega))]; done) | rfl
theorem frp_X11_refund_26 {c : Nat} {G : mG} {x : Int} {f : Int} {n : Int} (hc : c = 40 ∨ c = 52) {i : Nat} (hj : ∀ a ∈ ([2] : List Nat), i ≠ a) : (r_X11_refund c G x f n).2 26 i = G 26 i := by
  unfold r_X11_refund
  repeat' with_reducible first | apply ite_f | apply ite_f2 | apply ite_p | apply ite_p2
  all_goals first | (simp only [gs_at_ne (hj 2 (by simp)), gs_ne (show (26) ≠ (24) from by omega), gs_ne (show (26) ≠ (25) from by omega), gs_ne (show (26) ≠ (27) from by omega), gs_ne (show (26) ≠ (28) from by omega), frp_X11_groundOf_26 (c := c) hc (fun a ha => hj a (by simp only [List.mem_cons, List.not_mem_nil, or_false] at ha ⊢; omega)), fd_frp2 (frp_g_X11_refund_41_26 _ _ _ _ _ hc hj)]; done) | rfl
theorem fr_X11_refund {c : Nat} {G : mG} {x : Int} {f : Int} {n : Int} {k : Nat} (hk : ∀ a ∈ ([24, 25, 26, 27, 28] : List Nat), k ≠ a) : (r_X11_refund c G x f n).2 k = G k := by
  unfold r_X11_refund
  repeat' with_reducible first | apply ite_f | apply ite_f2 | apply ite_p | apply ite_p2
  all_goals first | (simp only [gs_ne (hk (24) (by simp)), gs_ne (hk (25) (by simp)), gs_ne (hk (26) (by simp)), gs_ne (hk (27) (by simp)), gs_ne (hk (28) (by simp)), fr_X11_groundOf (c := c) (fun a ha => hk a (by simp only [List.mem_cons, List.not_mem_nil, or_false] at ha ⊢; omega)), fd_fr2 (fr_g_X11_refund_41 _ _ _ _ _ hk)]; done) | rfl
set_option maxHeartbeats 8000000 in
theorem sp_X11_refund {D : Nat → Bool} {d : Nat} {c : Nat} {G : mG} {x : Int} {f : Int} {n : Int} {Q : Option mV → mG → Prop} (hc : c = 40 ∨ c = 52) (hp : G 0 8 = ((c + 5 : Nat) : Int)) (h11 : G c 11 ≤ 8) (h12 : G c 12 ≤ 40) (ha : cB c G) (hs : G 8 4 ≤ 300) (h16 : G 1 6 ≤ 9) (hD : ∀ k, D k = false → inN [24, 25, 26, 27, 28] k = false) (h : Q (some (mI (r_X11_refund c G x f n).1)) (r_X11_refund c G x f n).2) : P2 D (d + 7) M_X11_refund [mR 5, mI x, mI f, mI n] G Q := by
  rcases hc with rfl | rfl
  · skip
    unfold r_X11_refund at h
    try simp only [Nat.reduceAdd, Nat.reduceSub] at h
    have hp : G 0 8 = 45 := hp
    refine MP.to (D2 := inN [24, 25, 26, 27, 28]) (Q2 := Q) ?_ hD (fun v G' q _ => q)
    refine (show P2 (inN [24, 25, 26, 27, 28]) (d + 7) M_X11_refund [mR 5, mI x, mI f, mI n] G Q from ?_)
    refine p2_vc [4, 41, 69, 82, 101, 106, 115] 400 oo_X11 q_X11_refund (by decide) rfl (Nat.le_of_ble_eq_true rfl) ?_
    refine (show W2 o_X11 M_X11_refund (inN [24, 25, 26, 27, 28]) (d + 7) Q 4 [some (mR 5), some (mI x), some (mI f), some (mI n), none, none, none, none] [mR (Int.toNat (G 0 8))] G from ?_)
    rw [hp]
    refine (show W2 o_X11 M_X11_refund (inN [24, 25, 26, 27, 28]) (d + 7) Q 4 [some (mR 5), some (mI x), some (mI f), some (mI n), none, none, none, none] [mR 45] G from ?_)
    refine w2_vc [4, 41, 69, 82, 101, 106, 115] 400 oo_X11 q_X11_refund ?_
    refine sp_X1_hasCampaign (by decide) ?_
    have c2 := fa_X1_hasCampaign 40 G x
    refine ⟨fun (c3 : (f_X1_hasCampaign 40 G x) = 0) => ?_, fun (c3 : ¬ (f_X1_hasCampaign 40 G x) = 0) => ?_⟩
    · rw [if_pos c3] at h
      exact h
    · rw [if_neg (c3)] at h
      refine sp_X4_isMade  ?_
      refine ⟨fun (c5 : (f_X4_isMade G f) = 0) => ?_, fun (c5 : ¬ (f_X4_isMade G f) = 0) => ?_⟩
      · rw [if_pos c5] at h
        exact h
      · rw [if_neg (c5)] at h
        refine sp_X3_areKnown  ?_
        have c7 := fa_X3_areKnown G n
        refine ⟨fun (c8 : ¬ (f_X3_areKnown G n) = 0) => ?_, fun (c8 : (f_X3_areKnown G n) = 0) => ?_⟩
        · rw [if_pos c8] at h
          refine (show W2 o_X11 M_X11_refund (inN [24, 25, 26, 27, 28]) (d + 7) Q 41 [some (mR 5), some (mI x), some (mI f), some (mI n), some (mI 0), some (mI ((0 : Nat) : Int)), none, none] [] G from ?_)
          refine lupI (g_X11_refund_41 40 G x f n) (0, G) (fun j1 s1 => W2 o_X11 M_X11_refund (inN [24, 25, 26, 27, 28]) (d + 7) Q 41 [some (mR 5), some (mI x), some (mI f), some (mI n), some (mI s1.1), some (mI ((j1 : Nat) : Int)), none, none] [] s1.2) (fun (_ : Nat) s => (∀ k, (∀ a ∈ ([24, 25, 26, 27, 28] : List Nat), k ≠ a) → s.2 k = G k) ∧ (∀ i, (∀ a ∈ ([1, 2, 3, 4, 5, 6, 7] : List Nat), i ≠ a) → s.2 24 i = G 24 i) ∧ (∀ i, (∀ a ∈ ([2] : List Nat), i ≠ a) → s.2 26 i = G 26 i)) (Int.toNat (G 1 6)) ⟨⟨fun _ _ => rfl, fun _ _ => rfl, fun _ _ => rfl⟩, fun j s _ hI => ⟨fun k hk => by rw [← hI.1 k hk]; exact fr_g_X11_refund_41 40 G x f n hk j s, fun i hi => by rw [← hI.2.1 i hi]; exact frp_g_X11_refund_41_24 40 G x f n (by decide) hi j s, fun i hi => by rw [← hI.2.2 i hi]; exact frp_g_X11_refund_41_26 40 G x f n (by decide) hi j s⟩⟩ (fun j1 s1 hj1 hI1 ih1 => ?_) (fun hI1 => ?_)
          · have ih1 : W2 o_X11 M_X11_refund (inN [24, 25, 26, 27, 28]) (d + 7) Q 41 [some (mR 5), some (mI x), some (mI f), some (mI n), some (mI (g_X11_refund_41 40 G x f n j1 s1).1), some (mI ((j1 + 1 : Nat) : Int)), none, none] [] (g_X11_refund_41 40 G x f n j1 s1).2 := ih1
            unfold g_X11_refund_41 at ih1
            try simp only [Nat.reduceAdd, Nat.reduceSub] at ih1
            have hF1 := hI1.1
            have hP1_24 := hI1.2.1
            have hP1_26 := hI1.2.2
            have hI1a : s1.2 1 6 = G 1 6 := by simp (disch := decide) only [hF1]
            have hI1b : s1.2 8 4 = G 8 4 := by simp (disch := decide) only [hF1]
            refine w2_vc [4, 41, 69, 82, 101, 106, 115] 400 oo_X11 q_X11_refund ?_
            refine sp_X0_size  ?_
            have c10 := (show f_X0_size s1.2 = s1.2 1 6 from rfl)
            refine ⟨fun (c11 : (f_X0_size s1.2 ) ≤ ((j1 : Nat) : Int)) => ?_, fun (c11 : ((j1 : Nat) : Int) < (f_X0_size s1.2 )) => ?_⟩
            · skip
              exfalso; first | omega | (rw [w32_i (by omega) (by omega)] at c11; omega) | (simp (disch := omega) only [w32_i] at *; omega)
            · skip
              refine sp_X4_clauseOf  ?_
              refine (show W2 o_X11 M_X11_refund (inN [24, 25, 26, 27, 28]) (d + 7) Q 69 [some (mR 5), some (mI x), some (mI f), some (mI n), some (mI s1.1), some (mI ((j1 : Nat) : Int)), some (mI (f_X4_clauseOf s1.2 ((j1 : Nat) : Int) f)), none] [mR (Int.toNat (s1.2 0 8))] s1.2 from ?_)
              rw [show (s1.2 0 8) = 45 from by (try simp (disch := decide) only [gs_ne, gs_at_ne, hF1, hP1_24, hP1_26]); exact hp]
              refine (show W2 o_X11 M_X11_refund (inN [24, 25, 26, 27, 28]) (d + 7) Q 69 [some (mR 5), some (mI x), some (mI f), some (mI n), some (mI s1.1), some (mI ((j1 : Nat) : Int)), some (mI (f_X4_clauseOf s1.2 ((j1 : Nat) : Int) f)), none] [mR 45] s1.2 from ?_)
              refine w2_vc [4, 41, 69, 82, 101, 106, 115] 400 oo_X11 q_X11_refund ?_
              refine sp_X1_ownerOf (by decide) ?_
              refine ⟨fun (c14 : ¬ (f_X1_ownerOf 40 s1.2 (f_X4_clauseOf s1.2 ((j1 : Nat) : Int) f)) = x) => ?_, fun (c14 : (f_X1_ownerOf 40 s1.2 (f_X4_clauseOf s1.2 ((j1 : Nat) : Int) f)) = x) => ?_⟩
              · rw [if_pos c14] at ih1
                refine (show W2 o_X11 M_X11_refund (inN [24, 25, 26, 27, 28]) (d + 7) Q 115 [some (mR 5), some (mI x), some (mI f), some (mI n), some (mI s1.1), some (mI ((j1 : Nat) : Int)), some (mI (f_X4_clauseOf s1.2 ((j1 : Nat) : Int) f)), none] [] s1.2 from ?_)
                refine w2_vc [4, 41, 69, 82, 101, 106, 115] 400 oo_X11 q_X11_refund ?_
                refine (show W2 o_X11 M_X11_refund (inN [24, 25, 26, 27, 28]) (d + 7) Q 41 [some (mR 5), some (mI x), some (mI f), some (mI n), some (mI s1.1), some (mI (w32 (((j1 : Nat) : Int) + 1))), some (mI (f_X4_clauseOf s1.2 ((j1 : Nat) : Int) f)), none] [] s1.2 from ?_)
                refine WP.fg (L' := [some (mR 5), some (mI x), some (mI f), some (mI n), some (mI s1.1), some (mI (w32 (((j1 : Nat) : Int) + 1))), none, none]) ⟨rfl, rfl, rfl, rfl, rfl, rfl, trivial⟩ ?_
                rw [w32_nat (by omega)]
                exact ih1
              · rw [if_neg (fun q => q c14)] at ih1
                refine (show W2 o_X11 M_X11_refund (inN [24, 25, 26, 27, 28]) (d + 7) Q 82 [some (mR 5), some (mI x), some (mI f), some (mI n), some (mI s1.1), some (mI ((j1 : Nat) : Int)), some (mI (f_X4_clauseOf s1.2 ((j1 : Nat) : Int) f)), none] [mR (Int.toNat (s1.2 0 8))] s1.2 from ?_)
                rw [show (s1.2 0 8) = 45 from by (try simp (disch := decide) only [gs_ne, gs_at_ne, hF1, hP1_24, hP1_26]); exact hp]
                refine (show W2 o_X11 M_X11_refund (inN [24, 25, 26, 27, 28]) (d + 7) Q 82 [some (mR 5), some (mI x), some (mI f), some (mI n), some (mI s1.1), some (mI ((j1 : Nat) : Int)), some (mI (f_X4_clauseOf s1.2 ((j1 : Nat) : Int) f)), none] [mR 45] s1.2 from ?_)
                refine w2_vc [4, 41, 69, 82, 101, 106, 115] 400 oo_X11 q_X11_refund ?_
                refine sp_X11_groundOf (by decide) (show (s1.2 0 8) = 45 from by (try simp (disch := decide) only [gs_ne, gs_at_ne, hF1, hP1_24, hP1_26]); exact hp) (by first | omega | (simp (disch := decide) only [gs_ne, gs_at_ne, hF1, hP1_24, hP1_26]; omega)) (cB_to ha (show s1.2 40 = G 40 from by simp (disch := decide) only [gs_ne, gs_at_ne, hF1, hP1_24, hP1_26]) (show s1.2 49 = G 49 from by simp (disch := decide) only [gs_ne, gs_at_ne, hF1, hP1_24, hP1_26]) (show s1.2 50 = G 50 from by simp (disch := decide) only [gs_ne, gs_at_ne, hF1, hP1_24, hP1_26])) (by first | omega | (simp (disch := decide) only [gs_ne, gs_at_ne, hF1, hP1_24, hP1_26]; omega)) (by first | omega | (simp (disch := decide) only [gs_ne, gs_at_ne, hF1, hP1_24, hP1_26]; omega)) (by first | omega | (simp (disch := decide) only [gs_ne, gs_at_ne, hF1, hP1_24, hP1_26]; omega)) (insub (by decide)) ?_
                refine sp_X1_amountOf (by decide) ?_
                refine (show W2 o_X11 M_X11_refund (inN [24, 25, 26, 27, 28]) (d + 7) Q 101 [some (mR 5), some (mI x), some (mI f), some (mI n), some (mI s1.1), some (mI ((j1 : Nat) : Int)), some (mI (f_X4_clauseOf s1.2 ((j1 : Nat) : Int) f)), some (mI (f_X1_amountOf 40 (r_X11_groundOf 40 s1.2 ((j1 : Nat) : Int) f n).2 (r_X11_groundOf 40 s1.2 ((j1 : Nat) : Int) f n).1))] [mR (Int.toNat ((r_X11_groundOf 40 s1.2 ((j1 : Nat) : Int) f n).2 0 8)), mI s1.1] (r_X11_groundOf 40 s1.2 ((j1 : Nat) : Int) f n).2 from ?_)
                rw [show ((r_X11_groundOf 40 s1.2 ((j1 : Nat) : Int) f n).2 0 8) = 45 from by (try simp (disch := decide) only [gs_ne, gs_at_ne, fr_X11_groundOf, frp_X11_groundOf_24, frp_X11_groundOf_26, hF1, hP1_24, hP1_26]); exact hp]
                refine (show W2 o_X11 M_X11_refund (inN [24, 25, 26, 27, 28]) (d + 7) Q 101 [some (mR 5), some (mI x), some (mI f), some (mI n), some (mI s1.1), some (mI ((j1 : Nat) : Int)), some (mI (f_X4_clauseOf s1.2 ((j1 : Nat) : Int) f)), some (mI (f_X1_amountOf 40 (r_X11_groundOf 40 s1.2 ((j1 : Nat) : Int) f n).2 (r_X11_groundOf 40 s1.2 ((j1 : Nat) : Int) f n).1))] [mR 45, mI s1.1] (r_X11_groundOf 40 s1.2 ((j1 : Nat) : Int) f n).2 from ?_)
                refine w2_vc [4, 41, 69, 82, 101, 106, 115] 400 oo_X11 q_X11_refund ?_
                refine sp_X1_worthOf (by decide) ?_
                refine (show W2 o_X11 M_X11_refund (inN [24, 25, 26, 27, 28]) (d + 7) Q 106 [some (mR 5), some (mI x), some (mI f), some (mI n), some (mI s1.1), some (mI ((j1 : Nat) : Int)), some (mI (f_X4_clauseOf s1.2 ((j1 : Nat) : Int) f)), some (mI (f_X1_amountOf 40 (r_X11_groundOf 40 s1.2 ((j1 : Nat) : Int) f n).2 (r_X11_groundOf 40 s1.2 ((j1 : Nat) : Int) f n).1))] [mI (f_X1_worthOf 40 (r_X11_groundOf 40 s1.2 ((j1 : Nat) : Int) f n).2 (f_X4_clauseOf s1.2 ((j1 : Nat) : Int) f)), mI s1.1] (r_X11_groundOf 40 s1.2 ((j1 : Nat) : Int) f n).2 from ?_)
                refine w2_vc [4, 41, 69, 82, 101, 106, 115] 400 oo_X11 q_X11_refund ?_
                refine ⟨(show ¬ (100 : Int) = 0 from by omega), ?_⟩
                refine (show W2 o_X11 M_X11_refund (inN [24, 25, 26, 27, 28]) (d + 7) Q 115 [some (mR 5), some (mI x), some (mI f), some (mI n), some (mI (w32 (s1.1 + (mDiv (w32 ((f_X1_worthOf 40 (r_X11_groundOf 40 s1.2 ((j1 : Nat) : Int) f n).2 (f_X4_clauseOf s1.2 ((j1 : Nat) : Int) f)) * (f_X1_amountOf 40 (r_X11_groundOf 40 s1.2 ((j1 : Nat) : Int) f n).2 (r_X11_groundOf 40 s1.2 ((j1 : Nat) : Int) f n).1))) 100)))), some (mI ((j1 : Nat) : Int)), some (mI (f_X4_clauseOf s1.2 ((j1 : Nat) : Int) f)), some (mI (f_X1_amountOf 40 (r_X11_groundOf 40 s1.2 ((j1 : Nat) : Int) f n).2 (r_X11_groundOf 40 s1.2 ((j1 : Nat) : Int) f n).1))] [] (r_X11_groundOf 40 s1.2 ((j1 : Nat) : Int) f n).2 from ?_)
                refine w2_vc [4, 41, 69, 82, 101, 106, 115] 400 oo_X11 q_X11_refund ?_
                refine (show W2 o_X11 M_X11_refund (inN [24, 25, 26, 27, 28]) (d + 7) Q 41 [some (mR 5), some (mI x), some (mI f), some (mI n), some (mI (w32 (s1.1 + (mDiv (w32 ((f_X1_worthOf 40 (r_X11_groundOf 40 s1.2 ((j1 : Nat) : Int) f n).2 (f_X4_clauseOf s1.2 ((j1 : Nat) : Int) f)) * (f_X1_amountOf 40 (r_X11_groundOf 40 s1.2 ((j1 : Nat) : Int) f n).2 (r_X11_groundOf 40 s1.2 ((j1 : Nat) : Int) f n).1))) 100)))), some (mI (w32 (((j1 : Nat) : Int) + 1))), some (mI (f_X4_clauseOf s1.2 ((j1 : Nat) : Int) f)), some (mI (f_X1_amountOf 40 (r_X11_groundOf 40 s1.2 ((j1 : Nat) : Int) f n).2 (r_X11_groundOf 40 s1.2 ((j1 : Nat) : Int) f n).1))] [] (r_X11_groundOf 40 s1.2 ((j1 : Nat) : Int) f n).2 from ?_)
                refine WP.fg (L' := [some (mR 5), some (mI x), some (mI f), some (mI n), some (mI (w32 (s1.1 + (mDiv (w32 ((f_X1_worthOf 40 (r_X11_groundOf 40 s1.2 ((j1 : Nat) : Int) f n).2 (f_X4_clauseOf s1.2 ((j1 : Nat) : Int) f)) * (f_X1_amountOf 40 (r_X11_groundOf 40 s1.2 ((j1 : Nat) : Int) f n).2 (r_X11_groundOf 40 s1.2 ((j1 : Nat) : Int) f n).1))) 100)))), some (mI (w32 (((j1 : Nat) : Int) + 1))), none, none]) ⟨rfl, rfl, rfl, rfl, rfl, rfl, trivial⟩ ?_
                rw [w32_nat (by omega)]
                exact ih1
          · skip
            refine (show W2 o_X11 M_X11_refund (inN [24, 25, 26, 27, 28]) (d + 7) Q 41 [some (mR 5), some (mI x), some (mI f), some (mI n), some (mI (fd (g_X11_refund_41 40 G x f n) (0, G) (Int.toNat (G 1 6))).1), some (mI (((Int.toNat (G 1 6)) : Nat) : Int)), none, none] [] (fd (g_X11_refund_41 40 G x f n) (0, G) (Int.toNat (G 1 6))).2 from ?_)
            have hF1 := hI1.1
            have hP1_24 := hI1.2.1
            have hP1_26 := hI1.2.2
            have hI1a : (fd (g_X11_refund_41 40 G x f n) (0, G) (Int.toNat (G 1 6))).2 1 6 = G 1 6 := by simp (disch := decide) only [hF1]
            have hI1b : (fd (g_X11_refund_41 40 G x f n) (0, G) (Int.toNat (G 1 6))).2 8 4 = G 8 4 := by simp (disch := decide) only [hF1]
            refine w2_vc [4, 41, 69, 82, 101, 106, 115] 400 oo_X11 q_X11_refund ?_
            refine sp_X0_size  ?_
            have c19 := (show f_X0_size (fd (g_X11_refund_41 40 G x f n) (0, G) (Int.toNat (G 1 6))).2 = (fd (g_X11_refund_41 40 G x f n) (0, G) (Int.toNat (G 1 6))).2 1 6 from rfl)
            refine ⟨fun (c20 : (f_X0_size (fd (g_X11_refund_41 40 G x f n) (0, G) (Int.toNat (G 1 6))).2 ) ≤ (((Int.toNat (G 1 6)) : Nat) : Int)) => ?_, fun (c20 : (((Int.toNat (G 1 6)) : Nat) : Int) < (f_X0_size (fd (g_X11_refund_41 40 G x f n) (0, G) (Int.toNat (G 1 6))).2 )) => ?_⟩
            · skip
              exact h
            · skip
              exfalso; first | omega | (rw [w32_i (by omega) (by omega)] at c20; omega) | (simp (disch := omega) only [w32_i] at *; omega)
        · rw [if_neg (fun q => q c8)] at h
          exact h
  · skip
    unfold r_X11_refund at h
    try simp only [Nat.reduceAdd, Nat.reduceSub] at h
    have hp : G 0 8 = 57 := hp
    refine MP.to (D2 := inN [24, 25, 26, 27, 28]) (Q2 := Q) ?_ hD (fun v G' q _ => q)
    refine (show P2 (inN [24, 25, 26, 27, 28]) (d + 7) M_X11_refund [mR 5, mI x, mI f, mI n] G Q from ?_)
    refine p2_vc [4, 41, 69, 82, 101, 106, 115] 400 oo_X11 q_X11_refund (by decide) rfl (Nat.le_of_ble_eq_true rfl) ?_
    refine (show W2 o_X11 M_X11_refund (inN [24, 25, 26, 27, 28]) (d + 7) Q 4 [some (mR 5), some (mI x), some (mI f), some (mI n), none, none, none, none] [mR (Int.toNat (G 0 8))] G from ?_)
    rw [hp]
    refine (show W2 o_X11 M_X11_refund (inN [24, 25, 26, 27, 28]) (d + 7) Q 4 [some (mR 5), some (mI x), some (mI f), some (mI n), none, none, none, none] [mR 57] G from ?_)
    refine w2_vc [4, 41, 69, 82, 101, 106, 115] 400 oo_X11 q_X11_refund ?_
    refine sp_X1_hasCampaign (by decide) ?_
    have c2 := fa_X1_hasCampaign 52 G x
    refine ⟨fun (c3 : (f_X1_hasCampaign 52 G x) = 0) => ?_, fun (c3 : ¬ (f_X1_hasCampaign 52 G x) = 0) => ?_⟩
    · rw [if_pos c3] at h
      exact h
    · rw [if_neg (c3)] at h
      refine sp_X4_isMade  ?_
      refine ⟨fun (c5 : (f_X4_isMade G f) = 0) => ?_, fun (c5 : ¬ (f_X4_isMade G f) = 0) => ?_⟩
      · rw [if_pos c5] at h
        exact h
      · rw [if_neg (c5)] at h
        refine sp_X3_areKnown  ?_
        have c7 := fa_X3_areKnown G n
        refine ⟨fun (c8 : ¬ (f_X3_areKnown G n) = 0) => ?_, fun (c8 : (f_X3_areKnown G n) = 0) => ?_⟩
        · rw [if_pos c8] at h
          refine (show W2 o_X11 M_X11_refund (inN [24, 25, 26, 27, 28]) (d + 7) Q 41 [some (mR 5), some (mI x), some (mI f), some (mI n), some (mI 0), some (mI ((0 : Nat) : Int)), none, none] [] G from ?_)
          refine lupI (g_X11_refund_41 52 G x f n) (0, G) (fun j1 s1 => W2 o_X11 M_X11_refund (inN [24, 25, 26, 27, 28]) (d + 7) Q 41 [some (mR 5), some (mI x), some (mI f), some (mI n), some (mI s1.1), some (mI ((j1 : Nat) : Int)), none, none] [] s1.2) (fun (_ : Nat) s => (∀ k, (∀ a ∈ ([24, 25, 26, 27, 28] : List Nat), k ≠ a) → s.2 k = G k) ∧ (∀ i, (∀ a ∈ ([1, 2, 3, 4, 5, 6, 7] : List Nat), i ≠ a) → s.2 24 i = G 24 i) ∧ (∀ i, (∀ a ∈ ([2] : List Nat), i ≠ a) → s.2 26 i = G 26 i)) (Int.toNat (G 1 6)) ⟨⟨fun _ _ => rfl, fun _ _ => rfl, fun _ _ => rfl⟩, fun j s _ hI => ⟨fun k hk => by rw [← hI.1 k hk]; exact fr_g_X11_refund_41 52 G x f n hk j s, fun i hi => by rw [← hI.2.1 i hi]; exact frp_g_X11_refund_41_24 52 G x f n (by decide) hi j s, fun i hi => by rw [← hI.2.2 i hi]; exact frp_g_X11_refund_41_26 52 G x f n (by decide) hi j s⟩⟩ (fun j1 s1 hj1 hI1 ih1 => ?_) (fun hI1 => ?_)
          · have ih1 : W2 o_X11 M_X11_refund (inN [24, 25, 26, 27, 28]) (d + 7) Q 41 [some (mR 5), some (mI x), some (mI f), some (mI n), some (mI (g_X11_refund_41 52 G x f n j1 s1).1), some (mI ((j1 + 1 : Nat) : Int)), none, none] [] (g_X11_refund_41 52 G x f n j1 s1).2 := ih1
            unfold g_X11_refund_41 at ih1
            try simp only [Nat.reduceAdd, Nat.reduceSub] at ih1
            have hF1 := hI1.1
            have hP1_24 := hI1.2.1
            have hP1_26 := hI1.2.2
            have hI1a : s1.2 1 6 = G 1 6 := by simp (disch := decide) only [hF1]
            have hI1b : s1.2 8 4 = G 8 4 := by simp (disch := decide) only [hF1]
            refine w2_vc [4, 41, 69, 82, 101, 106, 115] 400 oo_X11 q_X11_refund ?_
            refine sp_X0_size  ?_
            have c10 := (show f_X0_size s1.2 = s1.2 1 6 from rfl)
            refine ⟨fun (c11 : (f_X0_size s1.2 ) ≤ ((j1 : Nat) : Int)) => ?_, fun (c11 : ((j1 : Nat) : Int) < (f_X0_size s1.2 )) => ?_⟩
            · skip
              exfalso; first | omega | (rw [w32_i (by omega) (by omega)] at c11; omega) | (simp (disch := omega) only [w32_i] at *; omega)
            · skip
              refine sp_X4_clauseOf  ?_
              refine (show W2 o_X11 M_X11_refund (inN [24, 25, 26, 27, 28]) (d + 7) Q 69 [some (mR 5), some (mI x), some (mI f), some (mI n), some (mI s1.1), some (mI ((j1 : Nat) : Int)), some (mI (f_X4_clauseOf s1.2 ((j1 : Nat) : Int) f)), none] [mR (Int.toNat (s1.2 0 8))] s1.2 from ?_)
              rw [show (s1.2 0 8) = 57 from by (try simp (disch := decide) only [gs_ne, gs_at_ne, hF1, hP1_24, hP1_26]); exact hp]
              refine (show W2 o_X11 M_X11_refund (inN [24, 25, 26, 27, 28]) (d + 7) Q 69 [some (mR 5), some (mI x), some (mI f), some (mI n), some (mI s1.1), some (mI ((j1 : Nat) : Int)), some (mI (f_X4_clauseOf s1.2 ((j1 : Nat) : Int) f)), none] [mR 57] s1.2 from ?_)
              refine w2_vc [4, 41, 69, 82, 101, 106, 115] 400 oo_X11 q_X11_refund ?_
              refine sp_X1_ownerOf (by decide) ?_
              refine ⟨fun (c14 : ¬ (f_X1_ownerOf 52 s1.2 (f_X4_clauseOf s1.2 ((j1 : Nat) : Int) f)) = x) => ?_, fun (c14 : (f_X1_ownerOf 52 s1.2 (f_X4_clauseOf s1.2 ((j1 : Nat) : Int) f)) = x) => ?_⟩
              · rw [if_pos c14] at ih1
                refine (show W2 o_X11 M_X11_refund (inN [24, 25, 26, 27, 28]) (d + 7) Q 115 [some (mR 5), some (mI x), some (mI f), some (mI n), some (mI s1.1), some (mI ((j1 : Nat) : Int)), some (mI (f_X4_clauseOf s1.2 ((j1 : Nat) : Int) f)), none] [] s1.2 from ?_)
                refine w2_vc [4, 41, 69, 82, 101, 106, 115] 400 oo_X11 q_X11_refund ?_
                refine (show W2 o_X11 M_X11_refund (inN [24, 25, 26, 27, 28]) (d + 7) Q 41 [some (mR 5), some (mI x), some (mI f), some (mI n), some (mI s1.1), some (mI (w32 (((j1 : Nat) : Int) + 1))), some (mI (f_X4_clauseOf s1.2 ((j1 : Nat) : Int) f)), none] [] s1.2 from ?_)
                refine WP.fg (L' := [some (mR 5), some (mI x), some (mI f), some (mI n), some (mI s1.1), some (mI (w32 (((j1 : Nat) : Int) + 1))), none, none]) ⟨rfl, rfl, rfl, rfl, rfl, rfl, trivial⟩ ?_
                rw [w32_nat (by omega)]
                exact ih1
              · rw [if_neg (fun q => q c14)] at ih1
                refine (show W2 o_X11 M_X11_refund (inN [24, 25, 26, 27, 28]) (d + 7) Q 82 [some (mR 5), some (mI x), some (mI f), some (mI n), some (mI s1.1), some (mI ((j1 : Nat) : Int)), some (mI (f_X4_clauseOf s1.2 ((j1 : Nat) : Int) f)), none] [mR (Int.toNat (s1.2 0 8))] s1.2 from ?_)
                rw [show (s1.2 0 8) = 57 from by (try simp (disch := decide) only [gs_ne, gs_at_ne, hF1, hP1_24, hP1_26]); exact hp]
                refine (show W2 o_X11 M_X11_refund (inN [24, 25, 26, 27, 28]) (d + 7) Q 82 [some (mR 5), some (mI x), some (mI f), some (mI n), some (mI s1.1), some (mI ((j1 : Nat) : Int)), some (mI (f_X4_clauseOf s1.2 ((j1 : Nat) : Int) f)), none] [mR 57] s1.2 from ?_)
                refine w2_vc [4, 41, 69, 82, 101, 106, 115] 400 oo_X11 q_X11_refund ?_
                refine sp_X11_groundOf (by decide) (show (s1.2 0 8) = 57 from by (try simp (disch := decide) only [gs_ne, gs_at_ne, hF1, hP1_24, hP1_26]); exact hp) (by first | omega | (simp (disch := decide) only [gs_ne, gs_at_ne, hF1, hP1_24, hP1_26]; omega)) (cB_to ha (show s1.2 52 = G 52 from by simp (disch := decide) only [gs_ne, gs_at_ne, hF1, hP1_24, hP1_26]) (show s1.2 61 = G 61 from by simp (disch := decide) only [gs_ne, gs_at_ne, hF1, hP1_24, hP1_26]) (show s1.2 62 = G 62 from by simp (disch := decide) only [gs_ne, gs_at_ne, hF1, hP1_24, hP1_26])) (by first | omega | (simp (disch := decide) only [gs_ne, gs_at_ne, hF1, hP1_24, hP1_26]; omega)) (by first | omega | (simp (disch := decide) only [gs_ne, gs_at_ne, hF1, hP1_24, hP1_26]; omega)) (by first | omega | (simp (disch := decide) only [gs_ne, gs_at_ne, hF1, hP1_24, hP1_26]; omega)) (insub (by decide)) ?_
                refine sp_X1_amountOf (by decide) ?_
                refine (show W2 o_X11 M_X11_refund (inN [24, 25, 26, 27, 28]) (d + 7) Q 101 [some (mR 5), some (mI x), some (mI f), some (mI n), some (mI s1.1), some (mI ((j1 : Nat) : Int)), some (mI (f_X4_clauseOf s1.2 ((j1 : Nat) : Int) f)), some (mI (f_X1_amountOf 52 (r_X11_groundOf 52 s1.2 ((j1 : Nat) : Int) f n).2 (r_X11_groundOf 52 s1.2 ((j1 : Nat) : Int) f n).1))] [mR (Int.toNat ((r_X11_groundOf 52 s1.2 ((j1 : Nat) : Int) f n).2 0 8)), mI s1.1] (r_X11_groundOf 52 s1.2 ((j1 : Nat) : Int) f n).2 from ?_)
                rw [show ((r_X11_groundOf 52 s1.2 ((j1 : Nat) : Int) f n).2 0 8) = 57 from by (try simp (disch := decide) only [gs_ne, gs_at_ne, fr_X11_groundOf, frp_X11_groundOf_24, frp_X11_groundOf_26, hF1, hP1_24, hP1_26]); exact hp]
                refine (show W2 o_X11 M_X11_refund (inN [24, 25, 26, 27, 28]) (d + 7) Q 101 [some (mR 5), some (mI x), some (mI f), some (mI n), some (mI s1.1), some (mI ((j1 : Nat) : Int)), some (mI (f_X4_clauseOf s1.2 ((j1 : Nat) : Int) f)), some (mI (f_X1_amountOf 52 (r_X11_groundOf 52 s1.2 ((j1 : Nat) : Int) f n).2 (r_X11_groundOf 52 s1.2 ((j1 : Nat) : Int) f n).1))] [mR 57, mI s1.1] (r_X11_groundOf 52 s1.2 ((j1 : Nat) : Int) f n).2 from ?_)
                refine w2_vc [4, 41, 69, 82, 101, 106, 115] 400 oo_X11 q_X11_refund ?_
                refine sp_X1_worthOf (by decide) ?_
                refine (show W2 o_X11 M_X11_refund (inN [24, 25, 26, 27, 28]) (d + 7) Q 106 [some (mR 5), some (mI x), some (mI f), some (mI n), some (mI s1.1), some (mI ((j1 : Nat) : Int)), some (mI (f_X4_clauseOf s1.2 ((j1 : Nat) : Int) f)), some (mI (f_X1_amountOf 52 (r_X11_groundOf 52 s1.2 ((j1 : Nat) : Int) f n).2 (r_X11_groundOf 52 s1.2 ((j1 : Nat) : Int) f n).1))] [mI (f_X1_worthOf 52 (r_X11_groundOf 52 s1.2 ((j1 : Nat) : Int) f n).2 (f_X4_clauseOf s1.2 ((j1 : Nat) : Int) f)), mI s1.1] (r_X11_groundOf 52 s1.2 ((j1 : Nat) : Int) f n).2 from ?_)
                refine w2_vc [4, 41, 69, 82, 101, 106, 115] 400 oo_X11 q_X11_refund ?_
                refine ⟨(show ¬ (100 : Int) = 0 from by omega), ?_⟩
                refine (show W2 o_X11 M_X11_refund (inN [24, 25, 26, 27, 28]) (d + 7) Q 115 [some (mR 5), some (mI x), some (mI f), some (mI n), some (mI (w32 (s1.1 + (mDiv (w32 ((f_X1_worthOf 52 (r_X11_groundOf 52 s1.2 ((j1 : Nat) : Int) f n).2 (f_X4_clauseOf s1.2 ((j1 : Nat) : Int) f)) * (f_X1_amountOf 52 (r_X11_groundOf 52 s1.2 ((j1 : Nat) : Int) f n).2 (r_X11_groundOf 52 s1.2 ((j1 : Nat) : Int) f n).1))) 100)))), some (mI ((j1 : Nat) : Int)), some (mI (f_X4_clauseOf s1.2 ((j1 : Nat) : Int) f)), some (mI (f_X1_amountOf 52 (r_X11_groundOf 52 s1.2 ((j1 : Nat) : Int) f n).2 (r_X11_groundOf 52 s1.2 ((j1 : Nat) : Int) f n).1))] [] (r_X11_groundOf 52 s1.2 ((j1 : Nat) : Int) f n).2 from ?_)
                refine w2_vc [4, 41, 69, 82, 101, 106, 115] 400 oo_X11 q_X11_refund ?_
                refine (show W2 o_X11 M_X11_refund (inN [24, 25, 26, 27, 28]) (d + 7) Q 41 [some (mR 5), some (mI x), some (mI f), some (mI n), some (mI (w32 (s1.1 + (mDiv (w32 ((f_X1_worthOf 52 (r_X11_groundOf 52 s1.2 ((j1 : Nat) : Int) f n).2 (f_X4_clauseOf s1.2 ((j1 : Nat) : Int) f)) * (f_X1_amountOf 52 (r_X11_groundOf 52 s1.2 ((j1 : Nat) : Int) f n).2 (r_X11_groundOf 52 s1.2 ((j1 : Nat) : Int) f n).1))) 100)))), some (mI (w32 (((j1 : Nat) : Int) + 1))), some (mI (f_X4_clauseOf s1.2 ((j1 : Nat) : Int) f)), some (mI (f_X1_amountOf 52 (r_X11_groundOf 52 s1.2 ((j1 : Nat) : Int) f n).2 (r_X11_groundOf 52 s1.2 ((j1 : Nat) : Int) f n).1))] [] (r_X11_groundOf 52 s1.2 ((j1 : Nat) : Int) f n).2 from ?_)
                refine WP.fg (L' := [some (mR 5), some (mI x), some (mI f), some (mI n), some (mI (w32 (s1.1 + (mDiv (w32 ((f_X1_worthOf 52 (r_X11_groundOf 52 s1.2 ((j1 : Nat) : Int) f n).2 (f_X4_clauseOf s1.2 ((j1 : Nat) : Int) f)) * (f_X1_amountOf 52 (r_X11_groundOf 52 s1.2 ((j1 : Nat) : Int) f n).2 (r_X11_groundOf 52 s1.2 ((j1 : Nat) : Int) f n).1))) 100)))), some (mI (w32 (((j1 : Nat) : Int) + 1))), none, none]) ⟨rfl, rfl, rfl, rfl, rfl, rfl, trivial⟩ ?_
                rw [w32_nat (by omega)]
                exact ih1
          · skip
            refine (show W2 o_X11 M_X11_refund (inN [24, 25, 26, 27, 28]) (d + 7) Q 41 [some (mR 5), some (mI x), some (mI f), some (mI n), some (mI (fd (g_X11_refund_41 52 G x f n) (0, G) (Int.toNat (G 1 6))).1), some (mI (((Int.toNat (G 1 6)) : Nat) : Int)), none, none] [] (fd (g_X11_refund_41 52 G x f n) (0, G) (Int.toNat (G 1 6))).2 from ?_)
            have hF1 := hI1.1
            have hP1_24 := hI1.2.1
            have hP1_26 := hI1.2.2
            have hI1a : (fd (g_X11_refund_41 52 G x f n) (0, G) (Int.toNat (G 1 6))).2 1 6 = G 1 6 := by simp (disch := decide) only [hF1]
            have hI1b : (fd (g_X11_refund_41 52 G x f n) (0, G) (Int.toNat (G 1 6))).2 8 4 = G 8 4 := by simp (disch := decide) only [hF1]
            refine w2_vc [4, 41, 69, 82, 101, 106, 115] 400 oo_X11 q_X11_refund ?_
            refine sp_X0_size  ?_
            have c19 := (show f_X0_size (fd (g_X11_refund_41 52 G x f n) (0, G) (Int.toNat (G 1 6))).2 = (fd (g_X11_refund_41 52 G x f n) (0, G) (Int.toNat (G 1 6))).2 1 6 from rfl)
            refine ⟨fun (c20 : (f_X0_size (fd (g_X11_refund_41 52 G x f n) (0, G) (Int.toNat (G 1 6))).2 ) ≤ (((Int.toNat (G 1 6)) : Nat) : Int)) => ?_, fun (c20 : (((Int.toNat (G 1 6)) : Nat) : Int) < (f_X0_size (fd (g_X11_refund_41 52 G x f n) (0, G) (Int.toNat (G 1 6))).2 )) => ?_⟩
            · skip
              exact h
            · skip
              exfalso; first | omega | (rw [w32_i (by omega) (by omega)] at c20; omega) | (simp (disch := omega) only [w32_i] at *; omega)
        · rw [if_neg (fun q => q c8)] at h
          exact h
def r_X11_ground (c : Nat) (G : mG) (b : Int) (f : Int) (n : Int) : Int × mG := (if (f_X0_has G b) = 0 then ((-1), G) else (if (f_X4_isMade G f) = 0 then ((-1), G) else (if ¬ (f_X3_areKnown G n) = 0 then ((r_X11_groundOf c G b f n).1, (r_X11_groundOf c G b f n).2) else ((-1), G))))
theorem frp_X11_ground_24 {c : Nat} {G : mG} {b : Int} {f : Int} {n : Int} (hc : c = 40 ∨ c = 52) {i : Nat} (hj : ∀ a ∈ ([1, 2, 3, 4, 5, 6, 7] : List Nat), i ≠ a) : (r_X11_ground c G b f n).2 24 i = G 24 i := by
  unfold r_X11_ground
  repeat' with_reducible first | apply ite_f | apply ite_f2 | apply ite_p | apply ite_p2
  all_goals first | (simp only [gs_at_ne (hj 1 (by simp)), gs_at_ne (hj 2 (by simp)), gs_at_ne (hj 3 (by simp)), gs_at_ne (hj 4 (by simp)), gs_at_ne (hj 5 (by simp)), gs_at_ne (hj 6 (by simp)), gs_at_ne (hj 7 (by simp)), gs_ne (show (24) ≠ (25) from by omega), gs_ne (show (24) ≠ (26) from by omega), gs_ne (show (24) ≠ (27) from by omega), gs_ne (show (24) ≠ (28) from by omega), frp_X11_groundOf_24 (c := c) hc (fun a ha => hj a (by simp only [List.mem_cons, List.not_mem_nil, or_false] at ha ⊢; omega))]; done) | rfl
theorem frp_X11_ground_26 {c : Nat} {G : mG} {b : Int} {f : Int} {n : Int} (hc : c = 40 ∨ c = 52) {i : Nat} (hj : ∀ a ∈ ([2] : List Nat), i ≠ a) : (r_X11_ground c G b f n).2 26 i = G 26 i := by
  unfold r_X11_ground
  repeat' with_reducible first | apply ite_f | apply ite_f2 | apply ite_p | apply ite_p2
  all_goals first | (simp only [gs_at_ne (hj 2 (by simp)), gs_ne (show (26) ≠ (24) from by omega), gs_ne (show (26) ≠ (25) from by omega), gs_ne (show (26) ≠ (27) from by omega), gs_ne (show (26) ≠ (28) from by omega), frp_X11_groundOf_26 (c := c) hc (fun a ha => hj a (by simp only [List.mem_cons, List.not_mem_nil, or_false] at ha ⊢; omega))]; done) | rfl
theorem fr_X11_ground {c : Nat} {G : mG} {b : Int} {f : Int} {n : Int} {k : Nat} (hk : ∀ a ∈ ([24, 25, 26, 27, 28] : List Nat), k ≠ a) : (r_X11_ground c G b f n).2 k = G k := by
  unfold r_X11_ground
  repeat' with_reducible first | apply ite_f | apply ite_f2 | apply ite_p | apply ite_p2
  all_goals first | (simp only [gs_ne (hk (24) (by simp)), gs_ne (hk (25) (by simp)), gs_ne (hk (26) (by simp)), gs_ne (hk (27) (by simp)), gs_ne (hk (28) (by simp)), fr_X11_groundOf (c := c) (fun a ha => hk a (by simp only [List.mem_cons, List.not_mem_nil, or_false] at ha ⊢; omega))]; done) | rfl
theorem sp_X11_ground {D : Nat → Bool} {d : Nat} {c : Nat} {G : mG} {b : Int} {f : Int} {n : Int} {Q : Option mV → mG → Prop} (hc : c = 40 ∨ c = 52) (hp : G 0 8 = ((c + 5 : Nat) : Int)) (h11 : G c 11 ≤ 8) (h12 : G c 12 ≤ 40) (ha : cB c G) (hs : G 8 4 ≤ 300) (h16 : G 1 6 ≤ 9) (hD : ∀ k, D k = false → inN [24, 25, 26, 27, 28] k = false) (h : Q (some (mI (r_X11_ground c G b f n).1)) (r_X11_ground c G b f n).2) : P2 D (d + 7) M_X11_ground [mR 5, mI b, mI f, mI n] G Q := by
  rcases hc with rfl | rfl
  · skip
    unfold r_X11_ground at h
    try simp only [Nat.reduceAdd, Nat.reduceSub] at h
    have hp : G 0 8 = 45 := hp
    refine MP.to (D2 := inN [24, 25, 26, 27, 28]) (Q2 := Q) ?_ hD (fun v G' q _ => q)
    refine (show P2 (inN [24, 25, 26, 27, 28]) (d + 7) M_X11_ground [mR 5, mI b, mI f, mI n] G Q from ?_)
    refine p2_vc [] 400 oo_X11 q_X11_ground (by decide) rfl (Nat.le_of_ble_eq_true rfl) ?_
    refine sp_X0_has  ?_
    have c2 := fa_X0_has G b
    refine ⟨fun (c3 : (f_X0_has G b) = 0) => ?_, fun (c3 : ¬ (f_X0_has G b) = 0) => ?_⟩
    · rw [if_pos c3] at h
      exact h
    · rw [if_neg (c3)] at h
      refine sp_X4_isMade  ?_
      refine ⟨fun (c5 : (f_X4_isMade G f) = 0) => ?_, fun (c5 : ¬ (f_X4_isMade G f) = 0) => ?_⟩
      · rw [if_pos c5] at h
        exact h
      · rw [if_neg (c5)] at h
        refine sp_X3_areKnown  ?_
        have c7 := fa_X3_areKnown G n
        refine ⟨fun (c8 : ¬ (f_X3_areKnown G n) = 0) => ?_, fun (c8 : (f_X3_areKnown G n) = 0) => ?_⟩
        · rw [if_pos c8] at h
          refine sp_X11_groundOf (by decide) (hp) (by omega) (ha) (by omega) (by omega) (by omega) (insub (by decide)) ?_
          exact h
        · rw [if_neg (fun q => q c8)] at h
          exact h
  · skip
    unfold r_X11_ground at h
    try simp only [Nat.reduceAdd, Nat.reduceSub] at h
    have hp : G 0 8 = 57 := hp
    refine MP.to (D2 := inN [24, 25, 26, 27, 28]) (Q2 := Q) ?_ hD (fun v G' q _ => q)
    refine (show P2 (inN [24, 25, 26, 27, 28]) (d + 7) M_X11_ground [mR 5, mI b, mI f, mI n] G Q from ?_)
    refine p2_vc [] 400 oo_X11 q_X11_ground (by decide) rfl (Nat.le_of_ble_eq_true rfl) ?_
    refine sp_X0_has  ?_
    have c2 := fa_X0_has G b
    refine ⟨fun (c3 : (f_X0_has G b) = 0) => ?_, fun (c3 : ¬ (f_X0_has G b) = 0) => ?_⟩
    · rw [if_pos c3] at h
      exact h
    · rw [if_neg (c3)] at h
      refine sp_X4_isMade  ?_
      refine ⟨fun (c5 : (f_X4_isMade G f) = 0) => ?_, fun (c5 : ¬ (f_X4_isMade G f) = 0) => ?_⟩
      · rw [if_pos c5] at h
        exact h
      · rw [if_neg (c5)] at h
        refine sp_X3_areKnown  ?_
        have c7 := fa_X3_areKnown G n
        refine ⟨fun (c8 : ¬ (f_X3_areKnown G n) = 0) => ?_, fun (c8 : (f_X3_areKnown G n) = 0) => ?_⟩
        · rw [if_pos c8] at h
          refine sp_X11_groundOf (by decide) (hp) (by omega) (ha) (by omega) (by omega) (by omega) (insub (by decide)) ?_
          exact h
        · rw [if_neg (fun q => q c8)] at h
          exact h
def g_X11_reach_41 (c : Nat) (G : mG) (x : Int) (f : Int) (n : Int) : Nat → (Int × mG) → (Int × mG) := fun j1 s1 => (if ¬ (f_X1_wantOf c s1.2 x ((j1 : Nat) : Int)) = (-1) then ((w32 (s1.1 + (r_X11_greatestAudience s1.2 (f_X1_wantOf c s1.2 x ((j1 : Nat) : Int)) f n).1)), (r_X11_greatestAudience s1.2 (f_X1_wantOf c s1.2 x ((j1 : Nat) : Int)) f n).2) else ((w32 (s1.1 + 0)), s1.2))
def r_X11_reach (c : Nat) (G : mG) (x : Int) (f : Int) (n : Int) : Int × mG := (if (f_X1_hasCampaign c G x) = 0 then ((-1), G) else (if (f_X4_isMade G f) = 0 then ((-1), G) else (if ¬ (f_X3_areKnown G n) = 0 then ((fd (g_X11_reach_41 c G x f n) (0, G) 6).1, (fd (g_X11_reach_41 c G x f n) (0, G) 6).2) else ((-1), G))))
theorem fr_g_X11_reach_41 (c : Nat) (G : mG) (x : Int) (f : Int) (n : Int) {k : Nat} (hk : ∀ a ∈ ([26, 27, 28] : List Nat), k ≠ a) (j : Nat) (s : Int × mG) : (g_X11_reach_41 c G x f n j s).2 k = s.2 k := by
  unfold g_X11_reach_41
  repeat' with_reducible first | apply ite_f | apply ite_f2 | apply ite_p | apply ite_p2
  all_goals first | (simp only [gs_ne (hk (26) (by simp)), gs_ne (hk (27) (by simp)), gs_ne (hk (28) (by simp)), fr_X11_greatestAudience (fun a ha => hk a (by simp only [List.mem_cons, List.not_mem_nil, or_false] at ha ⊢; omega))]; done) | rfl
theorem frp_g_X11_reach_41_26 (c : Nat) (G : mG) (x : Int) (f : Int) (n : Int) (hc : c = 40 ∨ c = 52) {i : Nat} (hj : ∀ a ∈ ([2] : List Nat), i ≠ a) (j : Nat) (s : Int × mG) : (g_X11_reach_41 c G x f n j s).2 26 i = s.2 26 i := by
  unfold g_X11_reach_41
  repeat' with_reducible first | apply ite_f | apply ite_f2 | apply ite_p | apply ite_p2
  all_goals first | (simp only [gs_at_ne (hj 2 (by simp)), gs_ne (show (26) ≠ (27) from by omega), gs_ne (show (26) ≠ (28) from by omega), frp_X11_greatestAudience_26 (fun a ha => hj a (by simp only [List.mem_cons, List.not_mem_nil, or_false] at ha ⊢; omega))]; done) | rfl
theorem frp_X11_reach_26 {c : Nat} {G : mG} {x : Int} {f : Int} {n : Int} (hc : c = 40 ∨ c = 52) {i : Nat} (hj : ∀ a ∈ ([2] : List Nat), i ≠ a) : (r_X11_reach c G x f n).2 26 i = G 26 i := by
  unfold r_X11_reach
  repeat' with_reducible first | apply ite_f | apply ite_f2 | apply ite_p | apply ite_p2
  all_goals first | (simp only [gs_at_ne (hj 2 (by simp)), gs_ne (show (26) ≠ (27) from by omega), gs_ne (show (26) ≠ (28) from by omega), frp_X11_greatestAudience_26 (fun a ha => hj a (by simp only [List.mem_cons, List.not_mem_nil, or_false] at ha ⊢; omega)), fd_frp2 (frp_g_X11_reach_41_26 _ _ _ _ _ hc hj)]; done) | rfl
theorem fr_X11_reach {c : Nat} {G : mG} {x : Int} {f : Int} {n : Int} {k : Nat} (hk : ∀ a ∈ ([26, 27, 28] : List Nat), k ≠ a) : (r_X11_reach c G x f n).2 k = G k := by
  unfold r_X11_reach
  repeat' with_reducible first | apply ite_f | apply ite_f2 | apply ite_p | apply ite_p2
  all_goals first | (simp only [gs_ne (hk (26) (by simp)), gs_ne (hk (27) (by simp)), gs_ne (hk (28) (by simp)), fr_X11_greatestAudience (fun a ha => hk a (by simp only [List.mem_cons, List.not_mem_nil, or_false] at ha ⊢; omega)), fd_fr2 (fr_g_X11_reach_41 _ _ _ _ _ hk)]; done) | rfl
theorem sp_X11_reach {D : Nat → Bool} {d : Nat} {c : Nat} {G : mG} {x : Int} {f : Int} {n : Int} {Q : Option mV → mG → Prop} (hc : c = 40 ∨ c = 52) (hp : G 0 8 = ((c + 5 : Nat) : Int)) (h11 : G c 11 ≤ 8) (h12 : G c 12 ≤ 40) (ha : cB c G) (hs : G 8 4 ≤ 300) (h16 : G 1 6 ≤ 9) (hD : ∀ k, D k = false → inN [26, 27, 28] k = false) (h : Q (some (mI (r_X11_reach c G x f n).1)) (r_X11_reach c G x f n).2) : P2 D (d + 5) M_X11_reach [mR 5, mI x, mI f, mI n] G Q := by
  rcases hc with rfl | rfl
  · skip
    unfold r_X11_reach at h
    try simp only [Nat.reduceAdd, Nat.reduceSub] at h
    have hp : G 0 8 = 45 := hp
    refine MP.to (D2 := inN [26, 27, 28]) (Q2 := Q) ?_ hD (fun v G' q _ => q)
    refine (show P2 (inN [26, 27, 28]) (d + 5) M_X11_reach [mR 5, mI x, mI f, mI n] G Q from ?_)
    refine p2_vc [4, 41, 52] 400 oo_X11 q_X11_reach (by decide) rfl (Nat.le_of_ble_eq_true rfl) ?_
    refine (show W2 o_X11 M_X11_reach (inN [26, 27, 28]) (d + 5) Q 4 [some (mR 5), some (mI x), some (mI f), some (mI n), none, none, none] [mR (Int.toNat (G 0 8))] G from ?_)
    rw [hp]
    refine (show W2 o_X11 M_X11_reach (inN [26, 27, 28]) (d + 5) Q 4 [some (mR 5), some (mI x), some (mI f), some (mI n), none, none, none] [mR 45] G from ?_)
    refine w2_vc [4, 41, 52] 400 oo_X11 q_X11_reach ?_
    refine sp_X1_hasCampaign (by decide) ?_
    have c2 := fa_X1_hasCampaign 40 G x
    refine ⟨fun (c3 : (f_X1_hasCampaign 40 G x) = 0) => ?_, fun (c3 : ¬ (f_X1_hasCampaign 40 G x) = 0) => ?_⟩
    · rw [if_pos c3] at h
      exact h
    · rw [if_neg (c3)] at h
      refine sp_X4_isMade  ?_
      refine ⟨fun (c5 : (f_X4_isMade G f) = 0) => ?_, fun (c5 : ¬ (f_X4_isMade G f) = 0) => ?_⟩
      · rw [if_pos c5] at h
        exact h
      · rw [if_neg (c5)] at h
        refine sp_X3_areKnown  ?_
        have c7 := fa_X3_areKnown G n
        refine ⟨fun (c8 : ¬ (f_X3_areKnown G n) = 0) => ?_, fun (c8 : (f_X3_areKnown G n) = 0) => ?_⟩
        · rw [if_pos c8] at h
          refine (show W2 o_X11 M_X11_reach (inN [26, 27, 28]) (d + 5) Q 41 [some (mR 5), some (mI x), some (mI f), some (mI n), some (mI 0), some (mI ((0 : Nat) : Int)), none] [] G from ?_)
          refine lupI (g_X11_reach_41 40 G x f n) (0, G) (fun j1 s1 => W2 o_X11 M_X11_reach (inN [26, 27, 28]) (d + 5) Q 41 [some (mR 5), some (mI x), some (mI f), some (mI n), some (mI s1.1), some (mI ((j1 : Nat) : Int)), none] [] s1.2) (fun (_ : Nat) s => (∀ k, (∀ a ∈ ([26, 27, 28] : List Nat), k ≠ a) → s.2 k = G k) ∧ (∀ i, (∀ a ∈ ([2] : List Nat), i ≠ a) → s.2 26 i = G 26 i)) 6 ⟨⟨fun _ _ => rfl, fun _ _ => rfl⟩, fun j s _ hI => ⟨fun k hk => by rw [← hI.1 k hk]; exact fr_g_X11_reach_41 40 G x f n hk j s, fun i hi => by rw [← hI.2 i hi]; exact frp_g_X11_reach_41_26 40 G x f n (by decide) hi j s⟩⟩ (fun j1 s1 hj1 hI1 ih1 => ?_) (fun hI1 => ?_)
          · have ih1 : W2 o_X11 M_X11_reach (inN [26, 27, 28]) (d + 5) Q 41 [some (mR 5), some (mI x), some (mI f), some (mI n), some (mI (g_X11_reach_41 40 G x f n j1 s1).1), some (mI ((j1 + 1 : Nat) : Int)), none] [] (g_X11_reach_41 40 G x f n j1 s1).2 := ih1
            unfold g_X11_reach_41 at ih1
            try simp only [Nat.reduceAdd, Nat.reduceSub] at ih1
            have hF1 := hI1.1
            have hP1_26 := hI1.2
            have hI1a : s1.2 1 6 = G 1 6 := by simp (disch := decide) only [hF1]
            have hI1b : s1.2 8 4 = G 8 4 := by simp (disch := decide) only [hF1]
            refine w2_vc [4, 41, 52] 400 oo_X11 q_X11_reach ?_
            refine ⟨fun (c9 : 6 ≤ ((j1 : Nat) : Int)) => ?_, fun (c9 : ((j1 : Nat) : Int) < 6) => ?_⟩
            · skip
              exfalso; first | omega | (rw [w32_i (by omega) (by omega)] at c9; omega) | (simp (disch := omega) only [w32_i] at *; omega)
            · skip
              refine (show W2 o_X11 M_X11_reach (inN [26, 27, 28]) (d + 5) Q 52 [some (mR 5), some (mI x), some (mI f), some (mI n), some (mI s1.1), some (mI ((j1 : Nat) : Int)), none] [mR (Int.toNat (s1.2 0 8))] s1.2 from ?_)
              rw [show (s1.2 0 8) = 45 from by (try simp (disch := decide) only [gs_ne, gs_at_ne, hF1, hP1_26]); exact hp]
              refine (show W2 o_X11 M_X11_reach (inN [26, 27, 28]) (d + 5) Q 52 [some (mR 5), some (mI x), some (mI f), some (mI n), some (mI s1.1), some (mI ((j1 : Nat) : Int)), none] [mR 45] s1.2 from ?_)
              refine w2_vc [4, 41, 52] 400 oo_X11 q_X11_reach ?_
              refine sp_X1_wantOf (by decide) (by first | omega | (simp (disch := decide) only [gs_ne, gs_at_ne, hF1, hP1_26]; omega)) ?_
              refine ⟨fun (c11 : ¬ (f_X1_wantOf 40 s1.2 x ((j1 : Nat) : Int)) = (-1)) => ?_, fun (c11 : (f_X1_wantOf 40 s1.2 x ((j1 : Nat) : Int)) = (-1)) => ?_⟩
              · rw [if_pos c11] at ih1
                refine sp_X11_greatestAudience (by first | omega | (simp (disch := decide) only [gs_ne, gs_at_ne, hF1, hP1_26]; omega)) (by first | omega | (simp (disch := decide) only [gs_ne, gs_at_ne, hF1, hP1_26]; omega)) (by first | omega | (simp (disch := decide) only [gs_ne, gs_at_ne, hF1, hP1_26]; omega)) (insub (by decide)) ?_
                refine (show W2 o_X11 M_X11_reach (inN [26, 27, 28]) (d + 5) Q 41 [some (mR 5), some (mI x), some (mI f), some (mI n), some (mI (w32 (s1.1 + (r_X11_greatestAudience s1.2 (f_X1_wantOf 40 s1.2 x ((j1 : Nat) : Int)) f n).1))), some (mI (w32 (((j1 : Nat) : Int) + 1))), some (mI (f_X1_wantOf 40 s1.2 x ((j1 : Nat) : Int)))] [] (r_X11_greatestAudience s1.2 (f_X1_wantOf 40 s1.2 x ((j1 : Nat) : Int)) f n).2 from ?_)
                refine WP.fg (L' := [some (mR 5), some (mI x), some (mI f), some (mI n), some (mI (w32 (s1.1 + (r_X11_greatestAudience s1.2 (f_X1_wantOf 40 s1.2 x ((j1 : Nat) : Int)) f n).1))), some (mI (w32 (((j1 : Nat) : Int) + 1))), none]) ⟨rfl, rfl, rfl, rfl, rfl, rfl, trivial⟩ ?_
                rw [w32_nat (by omega)]
                exact ih1
              · rw [if_neg (fun q => q c11)] at ih1
                refine (show W2 o_X11 M_X11_reach (inN [26, 27, 28]) (d + 5) Q 41 [some (mR 5), some (mI x), some (mI f), some (mI n), some (mI (w32 (s1.1 + 0))), some (mI (w32 (((j1 : Nat) : Int) + 1))), some (mI (f_X1_wantOf 40 s1.2 x ((j1 : Nat) : Int)))] [] s1.2 from ?_)
                refine WP.fg (L' := [some (mR 5), some (mI x), some (mI f), some (mI n), some (mI (w32 (s1.1 + 0))), some (mI (w32 (((j1 : Nat) : Int) + 1))), none]) ⟨rfl, rfl, rfl, rfl, rfl, rfl, trivial⟩ ?_
                rw [w32_nat (by omega)]
                exact ih1
          · skip
            refine (show W2 o_X11 M_X11_reach (inN [26, 27, 28]) (d + 5) Q 41 [some (mR 5), some (mI x), some (mI f), some (mI n), some (mI (fd (g_X11_reach_41 40 G x f n) (0, G) 6).1), some (mI ((6 : Nat) : Int)), none] [] (fd (g_X11_reach_41 40 G x f n) (0, G) 6).2 from ?_)
            have hF1 := hI1.1
            have hP1_26 := hI1.2
            have hI1a : (fd (g_X11_reach_41 40 G x f n) (0, G) 6).2 1 6 = G 1 6 := by simp (disch := decide) only [hF1]
            have hI1b : (fd (g_X11_reach_41 40 G x f n) (0, G) 6).2 8 4 = G 8 4 := by simp (disch := decide) only [hF1]
            refine w2_vc [4, 41, 52] 400 oo_X11 q_X11_reach ?_
            refine ⟨fun (c13 : 6 ≤ ((6 : Nat) : Int)) => ?_, fun (c13 : ((6 : Nat) : Int) < 6) => ?_⟩
            · skip
              exact h
            · skip
              exfalso; first | omega | (rw [w32_i (by omega) (by omega)] at c13; omega) | (simp (disch := omega) only [w32_i] at *; omega)
        · rw [if_neg (fun q => q c8)] at h
          exact h
  · skip
    unfold r_X11_reach at h
    try simp only [Nat.reduceAdd, Nat.reduceSub] at h
    have hp : G 0 8 = 57 := hp
    refine MP.to (D2 := inN [26, 27, 28]) (Q2 := Q) ?_ hD (fun v G' q _ => q)
    refine (show P2 (inN [26, 27, 28]) (d + 5) M_X11_reach [mR 5, mI x, mI f, mI n] G Q from ?_)
    refine p2_vc [4, 41, 52] 400 oo_X11 q_X11_reach (by decide) rfl (Nat.le_of_ble_eq_true rfl) ?_
    refine (show W2 o_X11 M_X11_reach (inN [26, 27, 28]) (d + 5) Q 4 [some (mR 5), some (mI x), some (mI f), some (mI n), none, none, none] [mR (Int.toNat (G 0 8))] G from ?_)
    rw [hp]
    refine (show W2 o_X11 M_X11_reach (inN [26, 27, 28]) (d + 5) Q 4 [some (mR 5), some (mI x), some (mI f), some (mI n), none, none, none] [mR 57] G from ?_)
    refine w2_vc [4, 41, 52] 400 oo_X11 q_X11_reach ?_
    refine sp_X1_hasCampaign (by decide) ?_
    have c2 := fa_X1_hasCampaign 52 G x
    refine ⟨fun (c3 : (f_X1_hasCampaign 52 G x) = 0) => ?_, fun (c3 : ¬ (f_X1_hasCampaign 52 G x) = 0) => ?_⟩
    · rw [if_pos c3] at h
      exact h
    · rw [if_neg (c3)] at h
      refine sp_X4_isMade  ?_
      refine ⟨fun (c5 : (f_X4_isMade G f) = 0) => ?_, fun (c5 : ¬ (f_X4_isMade G f) = 0) => ?_⟩
      · rw [if_pos c5] at h
        exact h
      · rw [if_neg (c5)] at h
        refine sp_X3_areKnown  ?_
        have c7 := fa_X3_areKnown G n
        refine ⟨fun (c8 : ¬ (f_X3_areKnown G n) = 0) => ?_, fun (c8 : (f_X3_areKnown G n) = 0) => ?_⟩
        · rw [if_pos c8] at h
          refine (show W2 o_X11 M_X11_reach (inN [26, 27, 28]) (d + 5) Q 41 [some (mR 5), some (mI x), some (mI f), some (mI n), some (mI 0), some (mI ((0 : Nat) : Int)), none] [] G from ?_)
          refine lupI (g_X11_reach_41 52 G x f n) (0, G) (fun j1 s1 => W2 o_X11 M_X11_reach (inN [26, 27, 28]) (d + 5) Q 41 [some (mR 5), some (mI x), some (mI f), some (mI n), some (mI s1.1), some (mI ((j1 : Nat) : Int)), none] [] s1.2) (fun (_ : Nat) s => (∀ k, (∀ a ∈ ([26, 27, 28] : List Nat), k ≠ a) → s.2 k = G k) ∧ (∀ i, (∀ a ∈ ([2] : List Nat), i ≠ a) → s.2 26 i = G 26 i)) 6 ⟨⟨fun _ _ => rfl, fun _ _ => rfl⟩, fun j s _ hI => ⟨fun k hk => by rw [← hI.1 k hk]; exact fr_g_X11_reach_41 52 G x f n hk j s, fun i hi => by rw [← hI.2 i hi]; exact frp_g_X11_reach_41_26 52 G x f n (by decide) hi j s⟩⟩ (fun j1 s1 hj1 hI1 ih1 => ?_) (fun hI1 => ?_)
          · have ih1 : W2 o_X11 M_X11_reach (inN [26, 27, 28]) (d + 5) Q 41 [some (mR 5), some (mI x), some (mI f), some (mI n), some (mI (g_X11_reach_41 52 G x f n j1 s1).1), some (mI ((j1 + 1 : Nat) : Int)), none] [] (g_X11_reach_41 52 G x f n j1 s1).2 := ih1
            unfold g_X11_reach_41 at ih1
            try simp only [Nat.reduceAdd, Nat.reduceSub] at ih1
            have hF1 := hI1.1
            have hP1_26 := hI1.2
            have hI1a : s1.2 1 6 = G 1 6 := by simp (disch := decide) only [hF1]
            have hI1b : s1.2 8 4 = G 8 4 := by simp (disch := decide) only [hF1]
            refine w2_vc [4, 41, 52] 400 oo_X11 q_X11_reach ?_
            refine ⟨fun (c9 : 6 ≤ ((j1 : Nat) : Int)) => ?_, fun (c9 : ((j1 : Nat) : Int) < 6) => ?_⟩
            · skip
              exfalso; first | omega | (rw [w32_i (by omega) (by omega)] at c9; omega) | (simp (disch := omega) only [w32_i] at *; omega)
            · skip
              refine (show W2 o_X11 M_X11_reach (inN [26, 27, 28]) (d + 5) Q 52 [some (mR 5), some (mI x), some (mI f), some (mI n), some (mI s1.1), some (mI ((j1 : Nat) : Int)), none] [mR (Int.toNat (s1.2 0 8))] s1.2 from ?_)
              rw [show (s1.2 0 8) = 57 from by (try simp (disch := decide) only [gs_ne, gs_at_ne, hF1, hP1_26]); exact hp]
              refine (show W2 o_X11 M_X11_reach (inN [26, 27, 28]) (d + 5) Q 52 [some (mR 5), some (mI x), some (mI f), some (mI n), some (mI s1.1), some (mI ((j1 : Nat) : Int)), none] [mR 57] s1.2 from ?_)
              refine w2_vc [4, 41, 52] 400 oo_X11 q_X11_reach ?_
              refine sp_X1_wantOf (by decide) (by first | omega | (simp (disch := decide) only [gs_ne, gs_at_ne, hF1, hP1_26]; omega)) ?_
              refine ⟨fun (c11 : ¬ (f_X1_wantOf 52 s1.2 x ((j1 : Nat) : Int)) = (-1)) => ?_, fun (c11 : (f_X1_wantOf 52 s1.2 x ((j1 : Nat) : Int)) = (-1)) => ?_⟩
              · rw [if_pos c11] at ih1
                refine sp_X11_greatestAudience (by first | omega | (simp (disch := decide) only [gs_ne, gs_at_ne, hF1, hP1_26]; omega)) (by first | omega | (simp (disch := decide) only [gs_ne, gs_at_ne, hF1, hP1_26]; omega)) (by first | omega | (simp (disch := decide) only [gs_ne, gs_at_ne, hF1, hP1_26]; omega)) (insub (by decide)) ?_
                refine (show W2 o_X11 M_X11_reach (inN [26, 27, 28]) (d + 5) Q 41 [some (mR 5), some (mI x), some (mI f), some (mI n), some (mI (w32 (s1.1 + (r_X11_greatestAudience s1.2 (f_X1_wantOf 52 s1.2 x ((j1 : Nat) : Int)) f n).1))), some (mI (w32 (((j1 : Nat) : Int) + 1))), some (mI (f_X1_wantOf 52 s1.2 x ((j1 : Nat) : Int)))] [] (r_X11_greatestAudience s1.2 (f_X1_wantOf 52 s1.2 x ((j1 : Nat) : Int)) f n).2 from ?_)
                refine WP.fg (L' := [some (mR 5), some (mI x), some (mI f), some (mI n), some (mI (w32 (s1.1 + (r_X11_greatestAudience s1.2 (f_X1_wantOf 52 s1.2 x ((j1 : Nat) : Int)) f n).1))), some (mI (w32 (((j1 : Nat) : Int) + 1))), none]) ⟨rfl, rfl, rfl, rfl, rfl, rfl, trivial⟩ ?_
                rw [w32_nat (by omega)]
                exact ih1
              · rw [if_neg (fun q => q c11)] at ih1
                refine (show W2 o_X11 M_X11_reach (inN [26, 27, 28]) (d + 5) Q 41 [some (mR 5), some (mI x), some (mI f), some (mI n), some (mI (w32 (s1.1 + 0))), some (mI (w32 (((j1 : Nat) : Int) + 1))), some (mI (f_X1_wantOf 52 s1.2 x ((j1 : Nat) : Int)))] [] s1.2 from ?_)
                refine WP.fg (L' := [some (mR 5), some (mI x), some (mI f), some (mI n), some (mI (w32 (s1.1 + 0))), some (mI (w32 (((j1 : Nat) : Int) + 1))), none]) ⟨rfl, rfl, rfl, rfl, rfl, rfl, trivial⟩ ?_
                rw [w32_nat (by omega)]
                exact ih1
          · skip
            refine (show W2 o_X11 M_X11_reach (inN [26, 27, 28]) (d + 5) Q 41 [some (mR 5), some (mI x), some (mI f), some (mI n), some (mI (fd (g_X11_reach_41 52 G x f n) (0, G) 6).1), some (mI ((6 : Nat) : Int)), none] [] (fd (g_X11_reach_41 52 G x f n) (0, G) 6).2 from ?_)
            have hF1 := hI1.1
            have hP1_26 := hI1.2
            have hI1a : (fd (g_X11_reach_41 52 G x f n) (0, G) 6).2 1 6 = G 1 6 := by simp (disch := decide) only [hF1]
            have hI1b : (fd (g_X11_reach_41 52 G x f n) (0, G) 6).2 8 4 = G 8 4 := by simp (disch := decide) only [hF1]
            refine w2_vc [4, 41, 52] 400 oo_X11 q_X11_reach ?_
            refine ⟨fun (c13 : 6 ≤ ((6 : Nat) : Int)) => ?_, fun (c13 : ((6 : Nat) : Int) < 6) => ?_⟩
            · skip
              exact h
            · skip
              exfalso; first | omega | (rw [w32_i (by omega) (by omega)] at c13; omega) | (simp (disch := omega) only [w32_i] at *; omega)
        · rw [if_neg (fun q => q c8)] at h
          exact h
def f_X11_count (c : Nat) (G : mG) (w : Int) : Int := (if w = 0 then (f_X0_size G ) else (if w = 1 then (f_X3_size G ) else (if w = 2 then (f_X1_campaigns c G ) else (if w = 3 then (f_X1_clauses c G ) else (if w = 4 then (f_X4_fortnightsMade G ) else (if w = 5 then (f_X9_length G ) else (-1)))))))
theorem sp_X11_count {D : Nat → Bool} {d : Nat} {c : Nat} {G : mG} {w : Int} {Q : Option mV → mG → Prop} (hc : c = 40 ∨ c = 52) (hp : G 0 8 = ((c + 5 : Nat) : Int)) (h11 : G c 11 ≤ 8) (h12 : G c 12 ≤ 40) (ha : cB c G) (hs : G 8 4 ≤ 300) (h16 : G 1 6 ≤ 9) (h : Q (some (mI (f_X11_count c G w))) G) : P2 D (d + 2) M_X11_count [mR 5, mI w] G Q := by
  rcases hc with rfl | rfl
  · skip
    unfold f_X11_count at h
    try simp only [Nat.reduceAdd, Nat.reduceSub] at h
    have hp : G 0 8 = 45 := hp
    refine (show P2 D (d + 2) M_X11_count [mR 5, mI w] G Q from ?_)
    refine p2_vc [60, 68] 400 oo_X11 q_X11_count (by decide) rfl (Nat.le_of_ble_eq_true rfl) ?_
    refine ⟨fun (c1 : w < 0 ∨ 5 < w) => ?_, fun (c1 : w = 0) => ?_, fun (c1 : w = 1) => ?_, fun (c1 : w = 2) => ?_, fun (c1 : w = 3) => ?_, fun (c1 : w = 4) => ?_, fun (c1 : w = 5) => ?_, trivial⟩
    · skip
      rw [if_neg (show ¬ w = 0 from by omega)] at h
      rw [if_neg (show ¬ w = 1 from by omega)] at h
      rw [if_neg (show ¬ w = 2 from by omega)] at h
      rw [if_neg (show ¬ w = 3 from by omega)] at h
      rw [if_neg (show ¬ w = 4 from by omega)] at h
      rw [if_neg (show ¬ w = 5 from by omega)] at h
      exact h
    · skip
      rw [if_pos c1] at h
      refine sp_X0_size  ?_
      have c3 := (show f_X0_size G = G 1 6 from rfl)
      exact h
    · skip
      rw [if_neg (show ¬ w = 0 from by omega)] at h
      rw [if_pos c1] at h
      refine sp_X3_size  ?_
      have c5 := (show f_X3_size G = G 8 4 from rfl)
      exact h
    · skip
      rw [if_neg (show ¬ w = 0 from by omega)] at h
      rw [if_neg (show ¬ w = 1 from by omega)] at h
      rw [if_pos c1] at h
      refine (show W2 o_X11 M_X11_count D (d + 2) Q 60 [some (mR 5), some (mI w)] [mR (Int.toNat (G 0 8))] G from ?_)
      rw [hp]
      refine (show W2 o_X11 M_X11_count D (d + 2) Q 60 [some (mR 5), some (mI w)] [mR 45] G from ?_)
      refine w2_vc [60, 68] 400 oo_X11 q_X11_count ?_
      refine sp_X1_campaigns (by decide) ?_
      have c7 := (show f_X1_campaigns 40 G = G 40 11 from rfl)
      exact h
    · skip
      rw [if_neg (show ¬ w = 0 from by omega)] at h
      rw [if_neg (show ¬ w = 1 from by omega)] at h
      rw [if_neg (show ¬ w = 2 from by omega)] at h
      rw [if_pos c1] at h
      refine (show W2 o_X11 M_X11_count D (d + 2) Q 68 [some (mR 5), some (mI w)] [mR (Int.toNat (G 0 8))] G from ?_)
      rw [hp]
      refine (show W2 o_X11 M_X11_count D (d + 2) Q 68 [some (mR 5), some (mI w)] [mR 45] G from ?_)
      refine w2_vc [60, 68] 400 oo_X11 q_X11_count ?_
      refine sp_X1_clauses (by decide) ?_
      have c9 := (show f_X1_clauses 40 G = G 40 12 from rfl)
      exact h
    · skip
      rw [if_neg (show ¬ w = 0 from by omega)] at h
      rw [if_neg (show ¬ w = 1 from by omega)] at h
      rw [if_neg (show ¬ w = 2 from by omega)] at h
      rw [if_neg (show ¬ w = 3 from by omega)] at h
      rw [if_pos c1] at h
      refine sp_X4_fortnightsMade  ?_
      exact h
    · skip
      rw [if_neg (show ¬ w = 0 from by omega)] at h
      rw [if_neg (show ¬ w = 1 from by omega)] at h
      rw [if_neg (show ¬ w = 2 from by omega)] at h
      rw [if_neg (show ¬ w = 3 from by omega)] at h
      rw [if_neg (show ¬ w = 4 from by omega)] at h
      rw [if_pos c1] at h
      refine sp_X9_length  ?_
      exact h
  · skip
    unfold f_X11_count at h
    try simp only [Nat.reduceAdd, Nat.reduceSub] at h
    have hp : G 0 8 = 57 := hp
    refine (show P2 D (d + 2) M_X11_count [mR 5, mI w] G Q from ?_)
    refine p2_vc [60, 68] 400 oo_X11 q_X11_count (by decide) rfl (Nat.le_of_ble_eq_true rfl) ?_
    refine ⟨fun (c1 : w < 0 ∨ 5 < w) => ?_, fun (c1 : w = 0) => ?_, fun (c1 : w = 1) => ?_, fun (c1 : w = 2) => ?_, fun (c1 : w = 3) => ?_, fun (c1 : w = 4) => ?_, fun (c1 : w = 5) => ?_, trivial⟩
    · skip
      rw [if_neg (show ¬ w = 0 from by omega)] at h
      rw [if_neg (show ¬ w = 1 from by omega)] at h
      rw [if_neg (show ¬ w = 2 from by omega)] at h
      rw [if_neg (show ¬ w = 3 from by omega)] at h
      rw [if_neg (show ¬ w = 4 from by omega)] at h
      rw [if_neg (show ¬ w = 5 from by omega)] at h
      exact h
    · skip
      rw [if_pos c1] at h
      refine sp_X0_size  ?_
      have c3 := (show f_X0_size G = G 1 6 from rfl)
      exact h
    · skip
      rw [if_neg (show ¬ w = 0 from by omega)] at h
      rw [if_pos c1] at h
      refine sp_X3_size  ?_
      have c5 := (show f_X3_size G = G 8 4 from rfl)
      exact h
    · skip
      rw [if_neg (show ¬ w = 0 from by omega)] at h
      rw [if_neg (show ¬ w = 1 from by omega)] at h
      rw [if_pos c1] at h
      refine (show W2 o_X11 M_X11_count D (d + 2) Q 60 [some (mR 5), some (mI w)] [mR (Int.toNat (G 0 8))] G from ?_)
      rw [hp]
      refine (show W2 o_X11 M_X11_count D (d + 2) Q 60 [some (mR 5), some (mI w)] [mR 57] G from ?_)
      refine w2_vc [60, 68] 400 oo_X11 q_X11_count ?_
      refine sp_X1_campaigns (by decide) ?_
      have c7 := (show f_X1_campaigns 52 G = G 52 11 from rfl)
      exact h
    · skip
      rw [if_neg (show ¬ w = 0 from by omega)] at h
      rw [if_neg (show ¬ w = 1 from by omega)] at h
      rw [if_neg (show ¬ w = 2 from by omega)] at h
      rw [if_pos c1] at h
      refine (show W2 o_X11 M_X11_count D (d + 2) Q 68 [some (mR 5), some (mI w)] [mR (Int.toNat (G 0 8))] G from ?_)
      rw [hp]
      refine (show W2 o_X11 M_X11_count D (d + 2) Q 68 [some (mR 5), some (mI w)] [mR 57] G from ?_)
      refine w2_vc [60, 68] 400 oo_X11 q_X11_count ?_
      refine sp_X1_clauses (by decide) ?_
      have c9 := (show f_X1_clauses 52 G = G 52 12 from rfl)
      exact h
    · skip
      rw [if_neg (show ¬ w = 0 from by omega)] at h
      rw [if_neg (show ¬ w = 1 from by omega)] at h
      rw [if_neg (show ¬ w = 2 from by omega)] at h
      rw [if_neg (show ¬ w = 3 from by omega)] at h
      rw [if_pos c1] at h
      refine sp_X4_fortnightsMade  ?_
      exact h
    · skip
      rw [if_neg (show ¬ w = 0 from by omega)] at h
      rw [if_neg (show ¬ w = 1 from by omega)] at h
      rw [if_neg (show ¬ w = 2 from by omega)] at h
      rw [if_neg (show ¬ w = 3 from by omega)] at h
      rw [if_neg (show ¬ w = 4 from by omega)] at h
      rw [if_pos c1] at h
      refine sp_X9_length  ?_
      exact h
