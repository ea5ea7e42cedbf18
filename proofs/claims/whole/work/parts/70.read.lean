/-! ===== printed by wip/whole/gen70.py: the class reads ===== -/
set_option maxHeartbeats 4000000 in
theorem sp_read_40 {D : Nat → Bool} {q : Nat} {G : mG} {Q : Option mV → mG → Prop} (hp : G 0 8 = ((57 : Nat) : Int)) (hq : G 0 9 = ((45 : Nat) : Int)) (hD : ∀ k, D k = false → inN [0, 13, 15, 16, 17, 18, 19, 20, 22, 23, 40, 41, 42, 43, 44, 45, 46, 47, 48, 49, 50, 51] k = false)
    (h1 : ∀ r, r_X7_parse 40 G = r → ¬ r.1 = 0 → Q (some (mI r.1)) (e_X9_clear (gs r.2 0 10 (f_X7_faultPlace r.2))))
    (h0 : ∀ r, r_X7_parse 40 G = r → r.1 = 0 → Q (some (mI r.1)) (e_X9_clear (e_X4_clear (gs (gs (gs r.2 0 10 (-1)) 0 8 ((45 : Nat) : Int)) 0 9 ((57 : Nat) : Int))))) : P2 D (q + 40) M_X11_read [mR 5] G Q := by
  refine MP.to (D2 := inN [0, 13, 15, 16, 17, 18, 19, 20, 22, 23, 40, 41, 42, 43, 44, 45, 46, 47, 48, 49, 50, 51]) (Q2 := Q) ?_ hD (fun v G' q _ => q)
  refine (show P2 (inN [0, 13, 15, 16, 17, 18, 19, 20, 22, 23, 40, 41, 42, 43, 44, 45, 46, 47, 48, 49, 50, 51]) (q + 40) M_X11_read [mR 5] G Q from ?_)
  refine p2_vc [8, 11, 31, 39, 45, 48, 53, 60, 67] 400 oo_X11 q_X11_read (by decide) rfl (Nat.le_of_ble_eq_true rfl) ?_
  refine (show W2 o_X11 M_X11_read (inN [0, 13, 15, 16, 17, 18, 19, 20, 22, 23, 40, 41, 42, 43, 44, 45, 46, 47, 48, 49, 50, 51]) (q + 40) Q 8 [some (mR 5), none, none] [mR (Int.toNat (G 0 9)), mR 20] G from ?_)
  rw [hq]
  refine (show W2 o_X11 M_X11_read (inN [0, 13, 15, 16, 17, 18, 19, 20, 22, 23, 40, 41, 42, 43, 44, 45, 46, 47, 48, 49, 50, 51]) (q + 40) Q 8 [some (mR 5), none, none] [mR 45, mR 20] G from ?_)
  refine w2_vc [8, 11, 31, 39, 45, 48, 53, 60, 67] 400 oo_X11 q_X11_read ?_
  refine sp_parse (c := 40) (d := q + 30) (by decide) (insub (by decide)) ?_
  generalize hr : r_X7_parse 40 G = r
  have hp : r.2 0 8 = ((57 : Nat) : Int) := by rw [← hr, fr_X7_parse (by decide)]; exact hp
  have hq : r.2 0 9 = ((45 : Nat) : Int) := by rw [← hr, fr_X7_parse (by decide)]; exact hq
  refine (show W2 o_X11 M_X11_read (inN [0, 13, 15, 16, 17, 18, 19, 20, 22, 23, 40, 41, 42, 43, 44, 45, 46, 47, 48, 49, 50, 51]) (q + 40) Q 11 [some (mR 5), none, none] [mI r.1] r.2 from ?_)
  refine w2_vc [8, 11, 31, 39, 45, 48, 53, 60, 67] 400 oo_X11 q_X11_read ?_
  refine ⟨fun (c1 : ¬ r.1 = 0) => ?_, fun (c1 : r.1 = 0) => ?_⟩
  · skip
    refine sp_X7_faultPlace  ?_
    refine (show W2 o_X11 M_X11_read (inN [0, 13, 15, 16, 17, 18, 19, 20, 22, 23, 40, 41, 42, 43, 44, 45, 46, 47, 48, 49, 50, 51]) (q + 40) Q 31 [some (mR 5), some (mI r.1), none] [] (gs r.2 0 10 (f_X7_faultPlace r.2 )) from ?_)
    refine w2_vc [8, 11, 31, 39, 45, 48, 53, 60, 67] 400 oo_X11 q_X11_read ?_
    refine ⟨fun (c3 : ¬ r.1 = 0) => ?_, fun (c3 : r.1 = 0) => ?_⟩
    · skip
      refine (show W2 o_X11 M_X11_read (inN [0, 13, 15, 16, 17, 18, 19, 20, 22, 23, 40, 41, 42, 43, 44, 45, 46, 47, 48, 49, 50, 51]) (q + 40) Q 60 [some (mR 5), some (mI r.1), none] [] (gs r.2 0 10 (f_X7_faultPlace r.2 )) from ?_)
      refine w2_vc [8, 11, 31, 39, 45, 48, 53, 60, 67] 400 oo_X11 q_X11_read ?_
      refine sp_X9_clear  (insub (by decide)) ?_
      refine (show W2 o_X11 M_X11_read (inN [0, 13, 15, 16, 17, 18, 19, 20, 22, 23, 40, 41, 42, 43, 44, 45, 46, 47, 48, 49, 50, 51]) (q + 40) Q 67 [some (mR 5), some (mI r.1), none] [] (e_X9_clear (gs r.2 0 10 (f_X7_faultPlace r.2 )) ) from ?_)
      refine w2_vc [8, 11, 31, 39, 45, 48, 53, 60, 67] 400 oo_X11 q_X11_read ?_
      exact h1 r hr (by omega)
    · skip
      refine (show W2 o_X11 M_X11_read (inN [0, 13, 15, 16, 17, 18, 19, 20, 22, 23, 40, 41, 42, 43, 44, 45, 46, 47, 48, 49, 50, 51]) (q + 40) Q 39 [some (mR 5), some (mI r.1), none] [mR (Int.toNat (r.2 0 8))] (gs r.2 0 10 (f_X7_faultPlace r.2 )) from ?_)
      rw [show (r.2 0 8) = 57 from by (try simp (disch := decide) only [gs_ne, gs_at_ne, fr_X9_clear, frp_X9_clear_13]); exact hp]
      refine (show W2 o_X11 M_X11_read (inN [0, 13, 15, 16, 17, 18, 19, 20, 22, 23, 40, 41, 42, 43, 44, 45, 46, 47, 48, 49, 50, 51]) (q + 40) Q 39 [some (mR 5), some (mI r.1), none] [mR 57] (gs r.2 0 10 (f_X7_faultPlace r.2 )) from ?_)
      refine w2_vc [8, 11, 31, 39, 45, 48, 53, 60, 67] 400 oo_X11 q_X11_read ?_
      refine (show W2 o_X11 M_X11_read (inN [0, 13, 15, 16, 17, 18, 19, 20, 22, 23, 40, 41, 42, 43, 44, 45, 46, 47, 48, 49, 50, 51]) (q + 40) Q 45 [some (mR 5), some (mI r.1), some (mR 57)] [mR (Int.toNat (r.2 0 9)), mR 5] (gs r.2 0 10 (f_X7_faultPlace r.2 )) from ?_)
      rw [show (r.2 0 9) = 45 from by (try simp (disch := decide) only [gs_ne, gs_at_ne, fr_X9_clear, frp_X9_clear_13]); exact hq]
      refine (show W2 o_X11 M_X11_read (inN [0, 13, 15, 16, 17, 18, 19, 20, 22, 23, 40, 41, 42, 43, 44, 45, 46, 47, 48, 49, 50, 51]) (q + 40) Q 45 [some (mR 5), some (mI r.1), some (mR 57)] [mR 45, mR 5] (gs r.2 0 10 (f_X7_faultPlace r.2 )) from ?_)
      refine w2_vc [8, 11, 31, 39, 45, 48, 53, 60, 67] 400 oo_X11 q_X11_read ?_
      refine (show W2 o_X11 M_X11_read (inN [0, 13, 15, 16, 17, 18, 19, 20, 22, 23, 40, 41, 42, 43, 44, 45, 46, 47, 48, 49, 50, 51]) (q + 40) Q 48 [some (mR 5), some (mI r.1), some (mR 57)] [] (gs (gs r.2 0 10 (f_X7_faultPlace r.2 )) 0 8 ((45 : Nat) : Int)) from ?_)
      refine w2_vc [8, 11, 31, 39, 45, 48, 53, 60, 67] 400 oo_X11 q_X11_read ?_
      refine (show W2 o_X11 M_X11_read (inN [0, 13, 15, 16, 17, 18, 19, 20, 22, 23, 40, 41, 42, 43, 44, 45, 46, 47, 48, 49, 50, 51]) (q + 40) Q 53 [some (mR 5), some (mI r.1), some (mR 57)] [] (gs (gs (gs r.2 0 10 (f_X7_faultPlace r.2 )) 0 8 ((45 : Nat) : Int)) 0 9 ((57 : Nat) : Int)) from ?_)
      refine w2_vc [8, 11, 31, 39, 45, 48, 53, 60, 67] 400 oo_X11 q_X11_read ?_
      refine sp_X4_clear  (insub (by decide)) ?_
      refine (show W2 o_X11 M_X11_read (inN [0, 13, 15, 16, 17, 18, 19, 20, 22, 23, 40, 41, 42, 43, 44, 45, 46, 47, 48, 49, 50, 51]) (q + 40) Q 60 [some (mR 5), some (mI r.1), some (mR 57)] [] (e_X4_clear (gs (gs (gs r.2 0 10 (f_X7_faultPlace r.2 )) 0 8 ((45 : Nat) : Int)) 0 9 ((57 : Nat) : Int)) ) from ?_)
      refine w2_vc [8, 11, 31, 39, 45, 48, 53, 60, 67] 400 oo_X11 q_X11_read ?_
      refine sp_X9_clear  (insub (by decide)) ?_
      refine (show W2 o_X11 M_X11_read (inN [0, 13, 15, 16, 17, 18, 19, 20, 22, 23, 40, 41, 42, 43, 44, 45, 46, 47, 48, 49, 50, 51]) (q + 40) Q 67 [some (mR 5), some (mI r.1), some (mR 57)] [] (e_X9_clear (e_X4_clear (gs (gs (gs r.2 0 10 (f_X7_faultPlace r.2 )) 0 8 ((45 : Nat) : Int)) 0 9 ((57 : Nat) : Int)) ) ) from ?_)
      refine w2_vc [8, 11, 31, 39, 45, 48, 53, 60, 67] 400 oo_X11 q_X11_read ?_
      exfalso; omega
  · skip
    refine (show W2 o_X11 M_X11_read (inN [0, 13, 15, 16, 17, 18, 19, 20, 22, 23, 40, 41, 42, 43, 44, 45, 46, 47, 48, 49, 50, 51]) (q + 40) Q 31 [some (mR 5), some (mI r.1), none] [] (gs r.2 0 10 (-1)) from ?_)
    refine w2_vc [8, 11, 31, 39, 45, 48, 53, 60, 67] 400 oo_X11 q_X11_read ?_
    refine ⟨fun (c7 : ¬ r.1 = 0) => ?_, fun (c7 : r.1 = 0) => ?_⟩
    · skip
      refine (show W2 o_X11 M_X11_read (inN [0, 13, 15, 16, 17, 18, 19, 20, 22, 23, 40, 41, 42, 43, 44, 45, 46, 47, 48, 49, 50, 51]) (q + 40) Q 60 [some (mR 5), some (mI r.1), none] [] (gs r.2 0 10 (-1)) from ?_)
      refine w2_vc [8, 11, 31, 39, 45, 48, 53, 60, 67] 400 oo_X11 q_X11_read ?_
      refine sp_X9_clear  (insub (by decide)) ?_
      refine (show W2 o_X11 M_X11_read (inN [0, 13, 15, 16, 17, 18, 19, 20, 22, 23, 40, 41, 42, 43, 44, 45, 46, 47, 48, 49, 50, 51]) (q + 40) Q 67 [some (mR 5), some (mI r.1), none] [] (e_X9_clear (gs r.2 0 10 (-1)) ) from ?_)
      refine w2_vc [8, 11, 31, 39, 45, 48, 53, 60, 67] 400 oo_X11 q_X11_read ?_
      exfalso; omega
    · skip
      refine (show W2 o_X11 M_X11_read (inN [0, 13, 15, 16, 17, 18, 19, 20, 22, 23, 40, 41, 42, 43, 44, 45, 46, 47, 48, 49, 50, 51]) (q + 40) Q 39 [some (mR 5), some (mI r.1), none] [mR (Int.toNat (r.2 0 8))] (gs r.2 0 10 (-1)) from ?_)
      rw [show (r.2 0 8) = 57 from by (try simp (disch := decide) only [gs_ne, gs_at_ne, fr_X4_clear, fr_X9_clear, frp_X9_clear_13]); exact hp]
      refine (show W2 o_X11 M_X11_read (inN [0, 13, 15, 16, 17, 18, 19, 20, 22, 23, 40, 41, 42, 43, 44, 45, 46, 47, 48, 49, 50, 51]) (q + 40) Q 39 [some (mR 5), some (mI r.1), none] [mR 57] (gs r.2 0 10 (-1)) from ?_)
      refine w2_vc [8, 11, 31, 39, 45, 48, 53, 60, 67] 400 oo_X11 q_X11_read ?_
      refine (show W2 o_X11 M_X11_read (inN [0, 13, 15, 16, 17, 18, 19, 20, 22, 23, 40, 41, 42, 43, 44, 45, 46, 47, 48, 49, 50, 51]) (q + 40) Q 45 [some (mR 5), some (mI r.1), some (mR 57)] [mR (Int.toNat (r.2 0 9)), mR 5] (gs r.2 0 10 (-1)) from ?_)
      rw [show (r.2 0 9) = 45 from by (try simp (disch := decide) only [gs_ne, gs_at_ne, fr_X4_clear, fr_X9_clear, frp_X9_clear_13]); exact hq]
      refine (show W2 o_X11 M_X11_read (inN [0, 13, 15, 16, 17, 18, 19, 20, 22, 23, 40, 41, 42, 43, 44, 45, 46, 47, 48, 49, 50, 51]) (q + 40) Q 45 [some (mR 5), some (mI r.1), some (mR 57)] [mR 45, mR 5] (gs r.2 0 10 (-1)) from ?_)
      refine w2_vc [8, 11, 31, 39, 45, 48, 53, 60, 67] 400 oo_X11 q_X11_read ?_
      refine (show W2 o_X11 M_X11_read (inN [0, 13, 15, 16, 17, 18, 19, 20, 22, 23, 40, 41, 42, 43, 44, 45, 46, 47, 48, 49, 50, 51]) (q + 40) Q 48 [some (mR 5), some (mI r.1), some (mR 57)] [] (gs (gs r.2 0 10 (-1)) 0 8 ((45 : Nat) : Int)) from ?_)
      refine w2_vc [8, 11, 31, 39, 45, 48, 53, 60, 67] 400 oo_X11 q_X11_read ?_
      refine (show W2 o_X11 M_X11_read (inN [0, 13, 15, 16, 17, 18, 19, 20, 22, 23, 40, 41, 42, 43, 44, 45, 46, 47, 48, 49, 50, 51]) (q + 40) Q 53 [some (mR 5), some (mI r.1), some (mR 57)] [] (gs (gs (gs r.2 0 10 (-1)) 0 8 ((45 : Nat) : Int)) 0 9 ((57 : Nat) : Int)) from ?_)
      refine w2_vc [8, 11, 31, 39, 45, 48, 53, 60, 67] 400 oo_X11 q_X11_read ?_
      refine sp_X4_clear  (insub (by decide)) ?_
      refine (show W2 o_X11 M_X11_read (inN [0, 13, 15, 16, 17, 18, 19, 20, 22, 23, 40, 41, 42, 43, 44, 45, 46, 47, 48, 49, 50, 51]) (q + 40) Q 60 [some (mR 5), some (mI r.1), some (mR 57)] [] (e_X4_clear (gs (gs (gs r.2 0 10 (-1)) 0 8 ((45 : Nat) : Int)) 0 9 ((57 : Nat) : Int)) ) from ?_)
      refine w2_vc [8, 11, 31, 39, 45, 48, 53, 60, 67] 400 oo_X11 q_X11_read ?_
      refine sp_X9_clear  (insub (by decide)) ?_
      refine (show W2 o_X11 M_X11_read (inN [0, 13, 15, 16, 17, 18, 19, 20, 22, 23, 40, 41, 42, 43, 44, 45, 46, 47, 48, 49, 50, 51]) (q + 40) Q 67 [some (mR 5), some (mI r.1), some (mR 57)] [] (e_X9_clear (e_X4_clear (gs (gs (gs r.2 0 10 (-1)) 0 8 ((45 : Nat) : Int)) 0 9 ((57 : Nat) : Int)) ) ) from ?_)
      refine w2_vc [8, 11, 31, 39, 45, 48, 53, 60, 67] 400 oo_X11 q_X11_read ?_
      exact h0 r hr (by omega)
set_option maxHeartbeats 4000000 in
theorem sp_read_52 {D : Nat → Bool} {q : Nat} {G : mG} {Q : Option mV → mG → Prop} (hp : G 0 8 = ((45 : Nat) : Int)) (hq : G 0 9 = ((57 : Nat) : Int)) (hD : ∀ k, D k = false → inN [0, 13, 15, 16, 17, 18, 19, 20, 22, 23, 52, 53, 54, 55, 56, 57, 58, 59, 60, 61, 62, 63] k = false)
    (h1 : ∀ r, r_X7_parse 52 G = r → ¬ r.1 = 0 → Q (some (mI r.1)) (e_X9_clear (gs r.2 0 10 (f_X7_faultPlace r.2))))
    (h0 : ∀ r, r_X7_parse 52 G = r → r.1 = 0 → Q (some (mI r.1)) (e_X9_clear (e_X4_clear (gs (gs (gs r.2 0 10 (-1)) 0 8 ((57 : Nat) : Int)) 0 9 ((45 : Nat) : Int))))) : P2 D (q + 40) M_X11_read [mR 5] G Q := by
  refine MP.to (D2 := inN [0, 13, 15, 16, 17, 18, 19, 20, 22, 23, 52, 53, 54, 55, 56, 57, 58, 59, 60, 61, 62, 63]) (Q2 := Q) ?_ hD (fun v G' q _ => q)
  refine (show P2 (inN [0, 13, 15, 16, 17, 18, 19, 20, 22, 23, 52, 53, 54, 55, 56, 57, 58, 59, 60, 61, 62, 63]) (q + 40) M_X11_read [mR 5] G Q from ?_)
  refine p2_vc [8, 11, 31, 39, 45, 48, 53, 60, 67] 400 oo_X11 q_X11_read (by decide) rfl (Nat.le_of_ble_eq_true rfl) ?_
  refine (show W2 o_X11 M_X11_read (inN [0, 13, 15, 16, 17, 18, 19, 20, 22, 23, 52, 53, 54, 55, 56, 57, 58, 59, 60, 61, 62, 63]) (q + 40) Q 8 [some (mR 5), none, none] [mR (Int.toNat (G 0 9)), mR 20] G from ?_)
  rw [hq]
  refine (show W2 o_X11 M_X11_read (inN [0, 13, 15, 16, 17, 18, 19, 20, 22, 23, 52, 53, 54, 55, 56, 57, 58, 59, 60, 61, 62, 63]) (q + 40) Q 8 [some (mR 5), none, none] [mR 57, mR 20] G from ?_)
  refine w2_vc [8, 11, 31, 39, 45, 48, 53, 60, 67] 400 oo_X11 q_X11_read ?_
  refine sp_parse (c := 52) (d := q + 30) (by decide) (insub (by decide)) ?_
  generalize hr : r_X7_parse 52 G = r
  have hp : r.2 0 8 = ((45 : Nat) : Int) := by rw [← hr, fr_X7_parse (by decide)]; exact hp
  have hq : r.2 0 9 = ((57 : Nat) : Int) := by rw [← hr, fr_X7_parse (by decide)]; exact hq
  refine (show W2 o_X11 M_X11_read (inN [0, 13, 15, 16, 17, 18, 19, 20, 22, 23, 52, 53, 54, 55, 56, 57, 58, 59, 60, 61, 62, 63]) (q + 40) Q 11 [some (mR 5), none, none] [mI r.1] r.2 from ?_)
  refine w2_vc [8, 11, 31, 39, 45, 48, 53, 60, 67] 400 oo_X11 q_X11_read ?_
  refine ⟨fun (c1 : ¬ r.1 = 0) => ?_, fun (c1 : r.1 = 0) => ?_⟩
  · skip
    refine sp_X7_faultPlace  ?_
    refine (show W2 o_X11 M_X11_read (inN [0, 13, 15, 16, 17, 18, 19, 20, 22, 23, 52, 53, 54, 55, 56, 57, 58, 59, 60, 61, 62, 63]) (q + 40) Q 31 [some (mR 5), some (mI r.1), none] [] (gs r.2 0 10 (f_X7_faultPlace r.2 )) from ?_)
    refine w2_vc [8, 11, 31, 39, 45, 48, 53, 60, 67] 400 oo_X11 q_X11_read ?_
    refine ⟨fun (c3 : ¬ r.1 = 0) => ?_, fun (c3 : r.1 = 0) => ?_⟩
    · skip
      refine (show W2 o_X11 M_X11_read (inN [0, 13, 15, 16, 17, 18, 19, 20, 22, 23, 52, 53, 54, 55, 56, 57, 58, 59, 60, 61, 62, 63]) (q + 40) Q 60 [some (mR 5), some (mI r.1), none] [] (gs r.2 0 10 (f_X7_faultPlace r.2 )) from ?_)
      refine w2_vc [8, 11, 31, 39, 45, 48, 53, 60, 67] 400 oo_X11 q_X11_read ?_
      refine sp_X9_clear  (insub (by decide)) ?_
      refine (show W2 o_X11 M_X11_read (inN [0, 13, 15, 16, 17, 18, 19, 20, 22, 23, 52, 53, 54, 55, 56, 57, 58, 59, 60, 61, 62, 63]) (q + 40) Q 67 [some (mR 5), some (mI r.1), none] [] (e_X9_clear (gs r.2 0 10 (f_X7_faultPlace r.2 )) ) from ?_)
      refine w2_vc [8, 11, 31, 39, 45, 48, 53, 60, 67] 400 oo_X11 q_X11_read ?_
      exact h1 r hr (by omega)
    · skip
      refine (show W2 o_X11 M_X11_read (inN [0, 13, 15, 16, 17, 18, 19, 20, 22, 23, 52, 53, 54, 55, 56, 57, 58, 59, 60, 61, 62, 63]) (q + 40) Q 39 [some (mR 5), some (mI r.1), none] [mR (Int.toNat (r.2 0 8))] (gs r.2 0 10 (f_X7_faultPlace r.2 )) from ?_)
      rw [show (r.2 0 8) = 45 from by (try simp (disch := decide) only [gs_ne, gs_at_ne, fr_X9_clear, frp_X9_clear_13]); exact hp]
      refine (show W2 o_X11 M_X11_read (inN [0, 13, 15, 16, 17, 18, 19, 20, 22, 23, 52, 53, 54, 55, 56, 57, 58, 59, 60, 61, 62, 63]) (q + 40) Q 39 [some (mR 5), some (mI r.1), none] [mR 45] (gs r.2 0 10 (f_X7_faultPlace r.2 )) from ?_)
      refine w2_vc [8, 11, 31, 39, 45, 48, 53, 60, 67] 400 oo_X11 q_X11_read ?_
      refine (show W2 o_X11 M_X11_read (inN [0, 13, 15, 16, 17, 18, 19, 20, 22, 23, 52, 53, 54, 55, 56, 57, 58, 59, 60, 61, 62, 63]) (q + 40) Q 45 [some (mR 5), some (mI r.1), some (mR 45)] [mR (Int.toNat (r.2 0 9)), mR 5] (gs r.2 0 10 (f_X7_faultPlace r.2 )) from ?_)
      rw [show (r.2 0 9) = 57 from by (try simp (disch := decide) only [gs_ne, gs_at_ne, fr_X9_clear, frp_X9_clear_13]); exact hq]
      refine (show W2 o_X11 M_X11_read (inN [0, 13, 15, 16, 17, 18, 19, 20, 22, 23, 52, 53, 54, 55, 56, 57, 58, 59, 60, 61, 62, 63]) (q + 40) Q 45 [some (mR 5), some (mI r.1), some (mR 45)] [mR 57, mR 5] (gs r.2 0 10 (f_X7_faultPlace r.2 )) from ?_)
      refine w2_vc [8, 11, 31, 39, 45, 48, 53, 60, 67] 400 oo_X11 q_X11_read ?_
      refine (show W2 o_X11 M_X11_read (inN [0, 13, 15, 16, 17, 18, 19, 20, 22, 23, 52, 53, 54, 55, 56, 57, 58, 59, 60, 61, 62, 63]) (q + 40) Q 48 [some (mR 5), some (mI r.1), some (mR 45)] [] (gs (gs r.2 0 10 (f_X7_faultPlace r.2 )) 0 8 ((57 : Nat) : Int)) from ?_)
      refine w2_vc [8, 11, 31, 39, 45, 48, 53, 60, 67] 400 oo_X11 q_X11_read ?_
      refine (show W2 o_X11 M_X11_read (inN [0, 13, 15, 16, 17, 18, 19, 20, 22, 23, 52, 53, 54, 55, 56, 57, 58, 59, 60, 61, 62, 63]) (q + 40) Q 53 [some (mR 5), some (mI r.1), some (mR 45)] [] (gs (gs (gs r.2 0 10 (f_X7_faultPlace r.2 )) 0 8 ((57 : Nat) : Int)) 0 9 ((45 : Nat) : Int)) from ?_)
      refine w2_vc [8, 11, 31, 39, 45, 48, 53, 60, 67] 400 oo_X11 q_X11_read ?_
      refine sp_X4_clear  (insub (by decide)) ?_
      refine (show W2 o_X11 M_X11_read (inN [0, 13, 15, 16, 17, 18, 19, 20, 22, 23, 52, 53, 54, 55, 56, 57, 58, 59, 60, 61, 62, 63]) (q + 40) Q 60 [some (mR 5), some (mI r.1), some (mR 45)] [] (e_X4_clear (gs (gs (gs r.2 0 10 (f_X7_faultPlace r.2 )) 0 8 ((57 : Nat) : Int)) 0 9 ((45 : Nat) : Int)) ) from ?_)
      refine w2_vc [8, 11, 31, 39, 45, 48, 53, 60, 67] 400 oo_X11 q_X11_read ?_
      refine sp_X9_clear  (insub (by decide)) ?_
      refine (show W2 o_X11 M_X11_read (inN [0, 13, 15, 16, 17, 18, 19, 20, 22, 23, 52, 53, 54, 55, 56, 57, 58, 59, 60, 61, 62, 63]) (q + 40) Q 67 [some (mR 5), some (mI r.1), some (mR 45)] [] (e_X9_clear (e_X4_clear (gs (gs (gs r.2 0 10 (f_X7_faultPlace r.2 )) 0 8 ((57 : Nat) : Int)) 0 9 ((45 : Nat) : Int)) ) ) from ?_)
      refine w2_vc [8, 11, 31, 39, 45, 48, 53, 60, 67] 400 oo_X11 q_X11_read ?_
      exfalso; omega
  · skip
    refine (show W2 o_X11 M_X11_read (inN [0, 13, 15, 16, 17, 18, 19, 20, 22, 23, 52, 53, 54, 55, 56, 57, 58, 59, 60, 61, 62, 63]) (q + 40) Q 31 [some (mR 5), some (mI r.1), none] [] (gs r.2 0 10 (-1)) from ?_)
    refine w2_vc [8, 11, 31, 39, 45, 48, 53, 60, 67] 400 oo_X11 q_X11_read ?_
    refine ⟨fun (c7 : ¬ r.1 = 0) => ?_, fun (c7 : r.1 = 0) => ?_⟩
    · skip
      refine (show W2 o_X11 M_X11_read (inN [0, 13, 15, 16, 17, 18, 19, 20, 22, 23, 52, 53, 54, 55, 56, 57, 58, 59, 60, 61, 62, 63]) (q + 40) Q 60 [some (mR 5), some (mI r.1), none] [] (gs r.2 0 10 (-1)) from ?_)
      refine w2_vc [8, 11, 31, 39, 45, 48, 53, 60, 67] 400 oo_X11 q_X11_read ?_
      refine sp_X9_clear  (insub (by decide)) ?_
      refine (show W2 o_X11 M_X11_read (inN [0, 13, 15, 16, 17, 18, 19, 20, 22, 23, 52, 53, 54, 55, 56, 57, 58, 59, 60, 61, 62, 63]) (q + 40) Q 67 [some (mR 5), some (mI r.1), none] [] (e_X9_clear (gs r.2 0 10 (-1)) ) from ?_)
      refine w2_vc [8, 11, 31, 39, 45, 48, 53, 60, 67] 400 oo_X11 q_X11_read ?_
      exfalso; omega
    · skip
      refine (show W2 o_X11 M_X11_read (inN [0, 13, 15, 16, 17, 18, 19, 20, 22, 23, 52, 53, 54, 55, 56, 57, 58, 59, 60, 61, 62, 63]) (q + 40) Q 39 [some (mR 5), some (mI r.1), none] [mR (Int.toNat (r.2 0 8))] (gs r.2 0 10 (-1)) from ?_)
      rw [show (r.2 0 8) = 45 from by (try simp (disch := decide) only [gs_ne, gs_at_ne, fr_X4_clear, fr_X9_clear, frp_X9_clear_13]); exact hp]
      refine (show W2 o_X11 M_X11_read (inN [0, 13, 15, 16, 17, 18, 19, 20, 22, 23, 52, 53, 54, 55, 56, 57, 58, 59, 60, 61, 62, 63]) (q + 40) Q 39 [some (mR 5), some (mI r.1), none] [mR 45] (gs r.2 0 10 (-1)) from ?_)
      refine w2_vc [8, 11, 31, 39, 45, 48, 53, 60, 67] 400 oo_X11 q_X11_read ?_
      refine (show W2 o_X11 M_X11_read (inN [0, 13, 15, 16, 17, 18, 19, 20, 22, 23, 52, 53, 54, 55, 56, 57, 58, 59, 60, 61, 62, 63]) (q + 40) Q 45 [some (mR 5), some (mI r.1), some (mR 45)] [mR (Int.toNat (r.2 0 9)), mR 5] (gs r.2 0 10 (-1)) from ?_)
      rw [show (r.2 0 9) = 57 from by (try simp (disch := decide) only [gs_ne, gs_at_ne, fr_X4_clear, fr_X9_clear, frp_X9_clear_13]); exact hq]
      refine (show W2 o_X11 M_X11_read (inN [0, 13, 15, 16, 17, 18, 19, 20, 22, 23, 52, 53, 54, 55, 56, 57, 58, 59, 60, 61, 62, 63]) (q + 40) Q 45 [some (mR 5), some (mI r.1), some (mR 45)] [mR 57, mR 5] (gs r.2 0 10 (-1)) from ?_)
      refine w2_vc [8, 11, 31, 39, 45, 48, 53, 60, 67] 400 oo_X11 q_X11_read ?_
      refine (show W2 o_X11 M_X11_read (inN [0, 13, 15, 16, 17, 18, 19, 20, 22, 23, 52, 53, 54, 55, 56, 57, 58, 59, 60, 61, 62, 63]) (q + 40) Q 48 [some (mR 5), some (mI r.1), some (mR 45)] [] (gs (gs r.2 0 10 (-1)) 0 8 ((57 : Nat) : Int)) from ?_)
      refine w2_vc [8, 11, 31, 39, 45, 48, 53, 60, 67] 400 oo_X11 q_X11_read ?_
      refine (show W2 o_X11 M_X11_read (inN [0, 13, 15, 16, 17, 18, 19, 20, 22, 23, 52, 53, 54, 55, 56, 57, 58, 59, 60, 61, 62, 63]) (q + 40) Q 53 [some (mR 5), some (mI r.1), some (mR 45)] [] (gs (gs (gs r.2 0 10 (-1)) 0 8 ((57 : Nat) : Int)) 0 9 ((45 : Nat) : Int)) from ?_)
      refine w2_vc [8, 11, 31, 39, 45, 48, 53, 60, 67] 400 oo_X11 q_X11_read ?_
      refine sp_X4_clear  (insub (by decide)) ?_
      refine (show W2 o_X11 M_X11_read (inN [0, 13, 15, 16, 17, 18, 19, 20, 22, 23, 52, 53, 54, 55, 56, 57, 58, 59, 60, 61, 62, 63]) (q + 40) Q 60 [some (mR 5), some (mI r.1), some (mR 45)] [] (e_X4_clear (gs (gs (gs r.2 0 10 (-1)) 0 8 ((57 : Nat) : Int)) 0 9 ((45 : Nat) : Int)) ) from ?_)
      refine w2_vc [8, 11, 31, 39, 45, 48, 53, 60, 67] 400 oo_X11 q_X11_read ?_
      refine sp_X9_clear  (insub (by decide)) ?_
      refine (show W2 o_X11 M_X11_read (inN [0, 13, 15, 16, 17, 18, 19, 20, 22, 23, 52, 53, 54, 55, 56, 57, 58, 59, 60, 61, 62, 63]) (q + 40) Q 67 [some (mR 5), some (mI r.1), some (mR 45)] [] (e_X9_clear (e_X4_clear (gs (gs (gs r.2 0 10 (-1)) 0 8 ((57 : Nat) : Int)) 0 9 ((45 : Nat) : Int)) ) ) from ?_)
      refine w2_vc [8, 11, 31, 39, 45, 48, 53, 60, 67] 400 oo_X11 q_X11_read ?_
      exact h0 r hr (by omega)
