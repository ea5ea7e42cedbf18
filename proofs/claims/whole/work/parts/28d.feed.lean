def r_X12_feed (G : mG) (a : Int) (b : Int) (x : Int) (y : Int) (z : Int) : Int × mG := (if (w32 ((G 64 2) + 20)) ≤ 3000 then (((e_X12_put (e_X12_put (e_X12_put (e_X12_put (e_X12_put G a) b) x) y) z) 64 2), (e_X12_put (e_X12_put (e_X12_put (e_X12_put (e_X12_put G a) b) x) y) z)) else ((-1), G))
theorem frp_X12_feed_64 {G : mG} {a : Int} {b : Int} {x : Int} {y : Int} {z : Int} {i : Nat} (hj : ∀ a ∈ ([2] : List Nat), i ≠ a) : (r_X12_feed G a b x y z).2 64 i = G 64 i := by
  unfold r_X12_feed
  repeat' with_reducible first | apply ite_f | apply ite_f2 | apply ite_p | apply ite_p2
  all_goals first | (simp only [gs_at_ne (hj 2 (by simp)), gs_ne (show (64) ≠ (65) from by omega), frp_X12_put_64 (fun a ha => hj a (by simp only [List.mem_cons, List.not_mem_nil, or_false] at ha ⊢; omega))]; done) | rfl
theorem fr_X12_feed {G : mG} {a : Int} {b : Int} {x : Int} {y : Int} {z : Int} {k : Nat} (hk : ∀ a ∈ ([64, 65] : List Nat), k ≠ a) : (r_X12_feed G a b x y z).2 k = G k := by
  unfold r_X12_feed
  repeat' with_reducible first | apply ite_f | apply ite_f2 | apply ite_p | apply ite_p2
  all_goals first | (simp only [gs_ne (hk (64) (by simp)), gs_ne (hk (65) (by simp)), fr_X12_put (fun a ha => hk a (by simp only [List.mem_cons, List.not_mem_nil, or_false] at ha ⊢; omega))]; done) | rfl
theorem sp_X12_feed {D : Nat → Bool} {d : Nat} {G : mG} {a : Int} {b : Int} {x : Int} {y : Int} {z : Int} {Q : Option mV → mG → Prop} (ht : 0 ≤ G 64 2 ∧ G 64 2 ≤ 3000) (hD : ∀ k, D k = false → inN [64, 65] k = false) (h : Q (some (mI (r_X12_feed G a b x y z).1)) (r_X12_feed G a b x y z).2) : P2 D (d + 2) M_X12_feed [mR 69, mI a, mI b, mI x, mI y, mI z] G Q := by
  unfold r_X12_feed at h
  have hw0 : w32 ((G 64 2) + 20) = (G 64 2) + 20 := w32_i (by omega) (by omega)
  refine MP.to (D2 := inN [64, 65]) (Q2 := Q) ?_ hD (fun v G' q _ => q)
  refine p2_vc [42] 400 oo_X12 q_X12_feed (by decide) rfl (Nat.le_of_ble_eq_true rfl) ?_
  refine ⟨fun (c1 : (w32 ((G 64 2) + 20)) ≤ 3000) => ?_, fun (c1 : 3000 < (w32 ((G 64 2) + 20))) => ?_⟩
  · rw [if_pos c1] at h
    refine sp_X12_put (by omega) (insub (by decide)) ?_
    have c3 := ft_X12_put G a (by omega)
    generalize e_X12_put G a = H1 at h c3 ⊢
    refine sp_X12_put (by first | omega | (simp (disch := decide) only [gs_ne, gs_at_ne, fr_X12_put, frp_X12_put_64]; omega)) (insub (by decide)) ?_
    have c5 := ft_X12_put H1 b (by omega)
    generalize e_X12_put H1 b = H2 at h c5 ⊢
    refine sp_X12_put (by first | omega | (simp (disch := decide) only [gs_ne, gs_at_ne, fr_X12_put, frp_X12_put_64]; omega)) (insub (by decide)) ?_
    have c7 := ft_X12_put H2 x (by omega)
    generalize e_X12_put H2 x = H3 at h c7 ⊢
    refine sp_X12_put (by first | omega | (simp (disch := decide) only [gs_ne, gs_at_ne, fr_X12_put, frp_X12_put_64]; omega)) (insub (by decide)) ?_
    have c9 := ft_X12_put H3 y (by omega)
    generalize e_X12_put H3 y = H4 at h c9 ⊢
    refine sp_X12_put (by first | omega | (simp (disch := decide) only [gs_ne, gs_at_ne, fr_X12_put, frp_X12_put_64]; omega)) (insub (by decide)) ?_
    have c11 := ft_X12_put H4 z (by omega)
    generalize e_X12_put H4 z = H5 at h c11 ⊢
    refine (show W2 o_X12 M_X12_feed (inN [64, 65]) (d + 2) Q 42 [some (mR 69), some (mI a), some (mI b), some (mI x), some (mI y), some (mI z)] [] H5 from ?_)
    refine w2_vc [42] 400 oo_X12 q_X12_feed ?_
    exact h
  · rw [if_neg (Int.not_le.mpr c1)] at h
    exact h
