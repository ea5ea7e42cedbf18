/-! ===== printed by wip/whole/gen39.py: the reference finds: one turn of its loop, piece by piece ===== -/
def f_X12_mayTake (G : mG) (b : Int) (x : Int) : Int := (if ¬ (G 114 (Int.toNat x)) = (G 79 (Int.toNat (w32 ((w32 (40 * (G 64 18))) + x)))) then (if (G 98 (Int.toNat b)) = 0 then 1 else (if ¬ (G 112 (Int.toNat (w32 (b - 1)))) = (-1) then (if ¬ (G 110 (Int.toNat (w32 ((w32 (8 * (G 78 (Int.toNat (w32 ((w32 (40 * (G 64 18))) + (G 112 (Int.toNat (w32 (b - 1)))))))))) + (G 78 (Int.toNat (w32 ((w32 (40 * (G 64 18))) + x)))))))) = 0 then 0 else 1) else 1)) else 0)
set_option maxHeartbeats 8000000 in
theorem sp_X12_mayTake {D : Nat → Bool} {d : Nat} {G : mG} {b : Int} {x : Int} {Q : Option mV → mG → Prop} (hl : 0 ≤ G 64 18 ∧ G 64 18 ≤ 1) (hb : 0 ≤ b ∧ b < 9) (hx : 0 ≤ x ∧ x < 40) (h98 : G 98 (Int.toNat b) = 0 ∨ (1 ≤ b ∧ ((G 112 (Int.toNat (w32 (b - 1)))) = -1 ∨ (0 ≤ (G 112 (Int.toNat (w32 (b - 1)))) ∧ (G 112 (Int.toNat (w32 (b - 1)))) < 40 ∧ 0 ≤ (w32 ((w32 (8 * (G 78 (Int.toNat (w32 ((w32 (40 * (G 64 18))) + (G 112 (Int.toNat (w32 (b - 1)))))))))) + (G 78 (Int.toNat (w32 ((w32 (40 * (G 64 18))) + x)))))) ∧ (w32 ((w32 (8 * (G 78 (Int.toNat (w32 ((w32 (40 * (G 64 18))) + (G 112 (Int.toNat (w32 (b - 1)))))))))) + (G 78 (Int.toNat (w32 ((w32 (40 * (G 64 18))) + x)))))) < 64)))) (h : Q (some (mI (f_X12_mayTake G b x))) G) : P2 D (d + 1) M_X12_mayTake [mR 69, mI b, mI x] G Q := by
  unfold f_X12_mayTake at h
  refine p2_vc [20, 73, 75, 90, 92] 400 oo_X12 q_X12_mayTake (by decide) rfl (Nat.le_of_ble_eq_true rfl) ?_
  refine ⟨(show 0 ≤ x ∧ x < ((40 : Nat) : Int) from by first | omega | (simp (disch := omega) only [w32_i]; omega)), ?_⟩
  refine ⟨(show 0 ≤ (w32 ((w32 (40 * (G 64 18))) + x)) ∧ (w32 ((w32 (40 * (G 64 18))) + x)) < ((80 : Nat) : Int) from by first | omega | (rw [show (w32 ((w32 (40 * (G 64 18))) + x)) = (40 * (G 64 18)) + x from by rw [w32_i (x := (40 * (G 64 18))) (by omega) (by omega), w32_i (x := (40 * (G 64 18)) + x) (by omega) (by omega)]]; omega) | (simp (disch := omega) only [w32_i]; omega)), ?_⟩
  refine (show W2 o_X12 M_X12_mayTake D (d + 1) Q 20 [some (mR 69), some (mI b), some (mI x)] [mI (G 79 (Int.toNat (w32 ((w32 (40 * (G 64 18))) + x)))), mI (G 114 (Int.toNat x))] G from ?_)
  refine w2_vc [20, 73, 75, 90, 92] 400 oo_X12 q_X12_mayTake ?_
  refine ⟨fun (c1 : ¬ (G 114 (Int.toNat x)) = (G 79 (Int.toNat (w32 ((w32 (40 * (G 64 18))) + x))))) => ?_, fun (c1 : (G 114 (Int.toNat x)) = (G 79 (Int.toNat (w32 ((w32 (40 * (G 64 18))) + x))))) => ?_⟩
  · rw [if_pos c1] at h
    refine ⟨(show 0 ≤ b ∧ b < ((9 : Nat) : Int) from by first | omega | (simp (disch := omega) only [w32_i]; omega)), ?_⟩
    refine ⟨fun (c2 : (G 98 (Int.toNat b)) = 0) => ?_, fun (c2 : ¬ (G 98 (Int.toNat b)) = 0) => ?_⟩
    · rw [if_pos c2] at h
      exact ⟨by omega, h⟩
    · rw [if_neg (c2)] at h
      refine ⟨(show 0 ≤ (w32 (b - 1)) ∧ (w32 (b - 1)) < ((9 : Nat) : Int) from by first | omega | (simp (disch := omega) only [w32_i]; omega)), ?_⟩
      refine ⟨fun (c3 : ¬ (G 112 (Int.toNat (w32 (b - 1)))) = (-1)) => ?_, fun (c3 : (G 112 (Int.toNat (w32 (b - 1)))) = (-1)) => ?_⟩
      · rw [if_pos c3] at h
        refine ⟨(show 0 ≤ (w32 (b - 1)) ∧ (w32 (b - 1)) < ((9 : Nat) : Int) from by first | omega | (simp (disch := omega) only [w32_i]; omega)), ?_⟩
        refine (show W2 o_X12 M_X12_mayTake D (d + 1) Q 73 [some (mR 69), some (mI b), some (mI x)] [mI (G 112 (Int.toNat (w32 (b - 1)))), mI (w32 (40 * (G 64 18))), mR 83, mI 8, mR 115] G from ?_)
        refine w2_vc [20, 73, 75, 90, 92] 400 oo_X12 q_X12_mayTake ?_
        refine ⟨(show 0 ≤ (w32 ((w32 (40 * (G 64 18))) + (G 112 (Int.toNat (w32 (b - 1)))))) ∧ (w32 ((w32 (40 * (G 64 18))) + (G 112 (Int.toNat (w32 (b - 1)))))) < ((80 : Nat) : Int) from by first | omega | (rw [show (w32 ((w32 (40 * (G 64 18))) + (G 112 (Int.toNat (w32 (b - 1)))))) = (40 * (G 64 18)) + (G 112 (Int.toNat (w32 (b - 1)))) from by rw [w32_i (x := (40 * (G 64 18))) (by omega) (by omega), w32_i (x := (40 * (G 64 18)) + (G 112 (Int.toNat (w32 (b - 1))))) (by omega) (by omega)]]; omega) | (simp (disch := omega) only [w32_i]; omega)), ?_⟩
        refine (show W2 o_X12 M_X12_mayTake D (d + 1) Q 75 [some (mR 69), some (mI b), some (mI x)] [mI (G 78 (Int.toNat (w32 ((w32 (40 * (G 64 18))) + (G 112 (Int.toNat (w32 (b - 1)))))))), mI 8, mR 115] G from ?_)
        refine w2_vc [20, 73, 75, 90, 92] 400 oo_X12 q_X12_mayTake ?_
        refine ⟨(show 0 ≤ (w32 ((w32 (40 * (G 64 18))) + x)) ∧ (w32 ((w32 (40 * (G 64 18))) + x)) < ((80 : Nat) : Int) from by first | omega | (rw [show (w32 ((w32 (40 * (G 64 18))) + x)) = (40 * (G 64 18)) + x from by rw [w32_i (x := (40 * (G 64 18))) (by omega) (by omega), w32_i (x := (40 * (G 64 18)) + x) (by omega) (by omega)]]; omega) | (simp (disch := omega) only [w32_i]; omega)), ?_⟩
        refine (show W2 o_X12 M_X12_mayTake D (d + 1) Q 90 [some (mR 69), some (mI b), some (mI x)] [mI (G 78 (Int.toNat (w32 ((w32 (40 * (G 64 18))) + x)))), mI (w32 (8 * (G 78 (Int.toNat (w32 ((w32 (40 * (G 64 18))) + (G 112 (Int.toNat (w32 (b - 1)))))))))), mR 115] G from ?_)
        refine w2_vc [20, 73, 75, 90, 92] 400 oo_X12 q_X12_mayTake ?_
        refine ⟨(show 0 ≤ (w32 ((w32 (8 * (G 78 (Int.toNat (w32 ((w32 (40 * (G 64 18))) + (G 112 (Int.toNat (w32 (b - 1)))))))))) + (G 78 (Int.toNat (w32 ((w32 (40 * (G 64 18))) + x)))))) ∧ (w32 ((w32 (8 * (G 78 (Int.toNat (w32 ((w32 (40 * (G 64 18))) + (G 112 (Int.toNat (w32 (b - 1)))))))))) + (G 78 (Int.toNat (w32 ((w32 (40 * (G 64 18))) + x)))))) < ((64 : Nat) : Int) from by first | omega | (rw [show (w32 ((w32 (8 * (G 78 (Int.toNat (w32 ((w32 (40 * (G 64 18))) + (G 112 (Int.toNat (w32 (b - 1)))))))))) + (G 78 (Int.toNat (w32 ((w32 (40 * (G 64 18))) + x)))))) = (8 * (G 78 (Int.toNat (w32 ((w32 (40 * (G 64 18))) + (G 112 (Int.toNat (w32 (b - 1))))))))) + (G 78 (Int.toNat (w32 ((w32 (40 * (G 64 18))) + x)))) from by rw [w32_i (x := (8 * (G 78 (Int.toNat (w32 ((w32 (40 * (G 64 18))) + (G 112 (Int.toNat (w32 (b - 1)))))))))) (by omega) (by omega), w32_i (x := (8 * (G 78 (Int.toNat (w32 ((w32 (40 * (G 64 18))) + (G 112 (Int.toNat (w32 (b - 1))))))))) + (G 78 (Int.toNat (w32 ((w32 (40 * (G 64 18))) + x))))) (by omega) (by omega)]]; omega) | (simp (disch := omega) only [w32_i]; omega)), ?_⟩
        refine (show W2 o_X12 M_X12_mayTake D (d + 1) Q 92 [some (mR 69), some (mI b), some (mI x)] [mI (G 110 (Int.toNat (w32 ((w32 (8 * (G 78 (Int.toNat (w32 ((w32 (40 * (G 64 18))) + (G 112 (Int.toNat (w32 (b - 1)))))))))) + (G 78 (Int.toNat (w32 ((w32 (40 * (G 64 18))) + x))))))))] G from ?_)
        refine w2_vc [20, 73, 75, 90, 92] 400 oo_X12 q_X12_mayTake ?_
        refine ⟨fun (c4 : ¬ (G 110 (Int.toNat (w32 ((w32 (8 * (G 78 (Int.toNat (w32 ((w32 (40 * (G 64 18))) + (G 112 (Int.toNat (w32 (b - 1)))))))))) + (G 78 (Int.toNat (w32 ((w32 (40 * (G 64 18))) + x)))))))) = 0) => ?_, fun (c4 : (G 110 (Int.toNat (w32 ((w32 (8 * (G 78 (Int.toNat (w32 ((w32 (40 * (G 64 18))) + (G 112 (Int.toNat (w32 (b - 1)))))))))) + (G 78 (Int.toNat (w32 ((w32 (40 * (G 64 18))) + x)))))))) = 0) => ?_⟩
        · rw [if_pos c4] at h
          exact ⟨by omega, h⟩
        · rw [if_neg (fun q => q c4)] at h
          exact ⟨by omega, h⟩
      · rw [if_neg (fun q => q c3)] at h
        exact ⟨by omega, h⟩
  · rw [if_neg (fun q => q c1)] at h
    exact ⟨by omega, h⟩
set_option maxHeartbeats 8000000 in
theorem fi_441 {q n b : Nat} {H : mG} {f nn mm : Int} {Q : Option mV → mG → Prop} (hn9 : n ≤ 9) (h44 : H 64 44 = (n : Int)) {mo : Int} (hb : b < n) (hb1 : w32 (((b : Nat) : Int) + 1) = ((b + 1 : Nat) : Int)) (hmo : (w32 ((H 116 (Int.toNat (w32 (((b : Nat) : Int) + 1)))) + (H 115 (Int.toNat (w32 (((b : Nat) : Int) + 1)))))) = mo) (h1 : (mo < H 64 70 ∨ (mo = H 64 70 ∧ H 64 71 ≤ H 117 (Int.toNat (w32 (((b : Nat) : Int) + 1))))) → W2 o_X12 M_X12_finds (inN [64, 104, 105, 106, 107, 108, 109, 110, 111, 112, 113, 114, 115, 116, 117]) (q + 30) Q 64 [some (mR 69), some (mI f), some (mI nn), some (mI mm), some (mI ((b : Nat) : Int)), none] [] H) (h2 : ¬ (mo < H 64 70 ∨ (mo = H 64 70 ∧ H 64 71 ≤ H 117 (Int.toNat (w32 (((b : Nat) : Int) + 1))))) → W2 o_X12 M_X12_finds (inN [64, 104, 105, 106, 107, 108, 109, 110, 111, 112, 113, 114, 115, 116, 117]) (q + 30) Q 64 [some (mR 69), some (mI f), some (mI nn), some (mI mm), some (mI (w32 (((b : Nat) : Int) + 1))), none] [] (gs H 111 (Int.toNat (w32 (((b : Nat) : Int) + 1))) (-1))) : W2 o_X12 M_X12_finds (inN [64, 104, 105, 106, 107, 108, 109, 110, 111, 112, 113, 114, 115, 116, 117]) (q + 30) Q 441 [some (mR 69), some (mI f), some (mI nn), some (mI mm), some (mI ((b : Nat) : Int)), none] [] H := by
  refine w2_vc [64, 462, 510] 400 oo_X12 q_X12_finds ?_
  refine ⟨(show 0 ≤ (w32 (((b : Nat) : Int) + 1)) ∧ (w32 (((b : Nat) : Int) + 1)) < ((10 : Nat) : Int) from by first | omega | (simp (disch := omega) only [w32_i]; omega)), ?_⟩
  refine ⟨(show 0 ≤ (w32 (((b : Nat) : Int) + 1)) ∧ (w32 (((b : Nat) : Int) + 1)) < ((10 : Nat) : Int) from by first | omega | (simp (disch := omega) only [w32_i]; omega)), ?_⟩
  refine (show W2 o_X12 M_X12_finds (inN [64, 104, 105, 106, 107, 108, 109, 110, 111, 112, 113, 114, 115, 116, 117]) (q + 30) Q 462 [some (mR 69), some (mI f), some (mI nn), some (mI mm), some (mI ((b : Nat) : Int)), some (mI (w32 ((H 116 (Int.toNat (w32 (((b : Nat) : Int) + 1)))) + (H 115 (Int.toNat (w32 (((b : Nat) : Int) + 1)))))))] [] H from ?_)
  rw [hmo]
  refine (show W2 o_X12 M_X12_finds (inN [64, 104, 105, 106, 107, 108, 109, 110, 111, 112, 113, 114, 115, 116, 117]) (q + 30) Q 462 [some (mR 69), some (mI f), some (mI nn), some (mI mm), some (mI ((b : Nat) : Int)), some (mI mo)] [] H from ?_)
  refine w2_vc [64, 462, 510] 400 oo_X12 q_X12_finds ?_
  refine ⟨fun (c1 : mo < (H 64 70)) => ?_, fun (c1 : (H 64 70) ≤ mo) => ?_⟩
  · skip
    refine (show W2 o_X12 M_X12_finds (inN [64, 104, 105, 106, 107, 108, 109, 110, 111, 112, 113, 114, 115, 116, 117]) (q + 30) Q 64 [some (mR 69), some (mI f), some (mI nn), some (mI mm), some (mI ((b : Nat) : Int)), some (mI mo)] [] H from ?_)
    refine WP.fg (L' := [some (mR 69), some (mI f), some (mI nn), some (mI mm), some (mI ((b : Nat) : Int)), none]) ⟨rfl, rfl, rfl, rfl, rfl, trivial⟩ ?_
    exact h1 (by omega)
  · skip
    refine ⟨fun (c2 : ¬ mo = (H 64 70)) => ?_, fun (c2 : mo = (H 64 70)) => ?_⟩
    · skip
      refine ⟨(show 0 ≤ (w32 (((b : Nat) : Int) + 1)) ∧ (w32 (((b : Nat) : Int) + 1)) < ((10 : Nat) : Int) from by first | omega | (simp (disch := omega) only [w32_i]; omega)), ?_⟩
      refine (show W2 o_X12 M_X12_finds (inN [64, 104, 105, 106, 107, 108, 109, 110, 111, 112, 113, 114, 115, 116, 117]) (q + 30) Q 510 [some (mR 69), some (mI f), some (mI nn), some (mI mm), some (mI (w32 (((b : Nat) : Int) + 1))), some (mI mo)] [] (gs H 111 (Int.toNat (w32 (((b : Nat) : Int) + 1))) (-1)) from ?_)
      refine w2_vc [64, 462, 510] 400 oo_X12 q_X12_finds ?_
      refine (show W2 o_X12 M_X12_finds (inN [64, 104, 105, 106, 107, 108, 109, 110, 111, 112, 113, 114, 115, 116, 117]) (q + 30) Q 64 [some (mR 69), some (mI f), some (mI nn), some (mI mm), some (mI (w32 (((b : Nat) : Int) + 1))), some (mI mo)] [] (gs H 111 (Int.toNat (w32 (((b : Nat) : Int) + 1))) (-1)) from ?_)
      refine WP.fg (L' := [some (mR 69), some (mI f), some (mI nn), some (mI mm), some (mI (w32 (((b : Nat) : Int) + 1))), none]) ⟨rfl, rfl, rfl, rfl, rfl, trivial⟩ ?_
      exact h2 (by omega)
    · skip
      refine ⟨(show 0 ≤ (w32 (((b : Nat) : Int) + 1)) ∧ (w32 (((b : Nat) : Int) + 1)) < ((10 : Nat) : Int) from by first | omega | (simp (disch := omega) only [w32_i]; omega)), ?_⟩
      refine ⟨fun (c3 : (H 117 (Int.toNat (w32 (((b : Nat) : Int) + 1)))) < (H 64 71)) => ?_, fun (c3 : (H 64 71) ≤ (H 117 (Int.toNat (w32 (((b : Nat) : Int) + 1))))) => ?_⟩
      · skip
        refine ⟨(show 0 ≤ (w32 (((b : Nat) : Int) + 1)) ∧ (w32 (((b : Nat) : Int) + 1)) < ((10 : Nat) : Int) from by first | omega | (simp (disch := omega) only [w32_i]; omega)), ?_⟩
        refine (show W2 o_X12 M_X12_finds (inN [64, 104, 105, 106, 107, 108, 109, 110, 111, 112, 113, 114, 115, 116, 117]) (q + 30) Q 510 [some (mR 69), some (mI f), some (mI nn), some (mI mm), some (mI (w32 (((b : Nat) : Int) + 1))), some (mI mo)] [] (gs H 111 (Int.toNat (w32 (((b : Nat) : Int) + 1))) (-1)) from ?_)
        refine w2_vc [64, 462, 510] 400 oo_X12 q_X12_finds ?_
        refine (show W2 o_X12 M_X12_finds (inN [64, 104, 105, 106, 107, 108, 109, 110, 111, 112, 113, 114, 115, 116, 117]) (q + 30) Q 64 [some (mR 69), some (mI f), some (mI nn), some (mI mm), some (mI (w32 (((b : Nat) : Int) + 1))), some (mI mo)] [] (gs H 111 (Int.toNat (w32 (((b : Nat) : Int) + 1))) (-1)) from ?_)
        refine WP.fg (L' := [some (mR 69), some (mI f), some (mI nn), some (mI mm), some (mI (w32 (((b : Nat) : Int) + 1))), none]) ⟨rfl, rfl, rfl, rfl, rfl, trivial⟩ ?_
        exact h2 (by omega)
      · skip
        refine (show W2 o_X12 M_X12_finds (inN [64, 104, 105, 106, 107, 108, 109, 110, 111, 112, 113, 114, 115, 116, 117]) (q + 30) Q 64 [some (mR 69), some (mI f), some (mI nn), some (mI mm), some (mI ((b : Nat) : Int)), some (mI mo)] [] H from ?_)
        refine WP.fg (L' := [some (mR 69), some (mI f), some (mI nn), some (mI mm), some (mI ((b : Nat) : Int)), none]) ⟨rfl, rfl, rfl, rfl, rfl, trivial⟩ ?_
        exact h1 (by omega)
set_option maxHeartbeats 8000000 in
theorem fi_383 {q n b : Nat} {H : mG} {f nn mm : Int} {Q : Option mV → mG → Prop} (hn9 : n ≤ 9) (h44 : H 64 44 = (n : Int)) (hb : b < n) (hb1 : w32 (((b : Nat) : Int) + 1) = ((b + 1 : Nat) : Int)) (hox : 0 ≤ (w32 ((w32 (9 * f)) + ((b : Nat) : Int))) ∧ (w32 ((w32 (9 * f)) + ((b : Nat) : Int))) < 234) (h0 : (mm = 0 ∨ ¬ H 118 (Int.toNat ((b : Nat) : Int)) = 0 ∨ H 112 (Int.toNat ((b : Nat) : Int)) = H 105 (Int.toNat (w32 ((w32 (9 * f)) + ((b : Nat) : Int))))) → W2 o_X12 M_X12_finds (inN [64, 104, 105, 106, 107, 108, 109, 110, 111, 112, 113, 114, 115, 116, 117]) (q + 30) Q 441 [some (mR 69), some (mI f), some (mI nn), some (mI mm), some (mI ((b : Nat) : Int)), none] [] (gs H 117 (Int.toNat (w32 (((b : Nat) : Int) + 1))) (w32 ((H 117 (Int.toNat ((b : Nat) : Int))) + 0)))) (h1 : ¬ mm = 0 → H 118 (Int.toNat ((b : Nat) : Int)) = 0 → ¬ H 112 (Int.toNat ((b : Nat) : Int)) = H 105 (Int.toNat (w32 ((w32 (9 * f)) + ((b : Nat) : Int)))) → W2 o_X12 M_X12_finds (inN [64, 104, 105, 106, 107, 108, 109, 110, 111, 112, 113, 114, 115, 116, 117]) (q + 30) Q 441 [some (mR 69), some (mI f), some (mI nn), some (mI mm), some (mI ((b : Nat) : Int)), none] [] (gs H 117 (Int.toNat (w32 (((b : Nat) : Int) + 1))) (w32 ((H 117 (Int.toNat ((b : Nat) : Int))) + 1)))) : W2 o_X12 M_X12_finds (inN [64, 104, 105, 106, 107, 108, 109, 110, 111, 112, 113, 114, 115, 116, 117]) (q + 30) Q 383 [some (mR 69), some (mI f), some (mI nn), some (mI mm), some (mI ((b : Nat) : Int)), none] [] H := by
  refine w2_vc [441] 400 oo_X12 q_X12_finds ?_
  refine ⟨(show 0 ≤ ((b : Nat) : Int) ∧ ((b : Nat) : Int) < ((10 : Nat) : Int) from by first | omega | (simp (disch := omega) only [w32_i]; omega)), ?_⟩
  refine ⟨fun (c1 : mm = 0) => ?_, fun (c1 : ¬ mm = 0) => ?_⟩
  · skip
    refine ⟨(show 0 ≤ (w32 (((b : Nat) : Int) + 1)) ∧ (w32 (((b : Nat) : Int) + 1)) < ((10 : Nat) : Int) from by first | omega | (simp (disch := omega) only [w32_i]; omega)), ?_⟩
    refine (show W2 o_X12 M_X12_finds (inN [64, 104, 105, 106, 107, 108, 109, 110, 111, 112, 113, 114, 115, 116, 117]) (q + 30) Q 441 [some (mR 69), some (mI f), some (mI nn), some (mI mm), some (mI ((b : Nat) : Int)), none] [] (gs H 117 (Int.toNat (w32 (((b : Nat) : Int) + 1))) (w32 ((H 117 (Int.toNat ((b : Nat) : Int))) + 0))) from ?_)
    exact h0 (Or.inl c1)
  · skip
    refine ⟨(show 0 ≤ ((b : Nat) : Int) ∧ ((b : Nat) : Int) < ((9 : Nat) : Int) from by first | omega | (simp (disch := omega) only [w32_i]; omega)), ?_⟩
    refine ⟨fun (c2 : ¬ (H 118 (Int.toNat ((b : Nat) : Int))) = 0) => ?_, fun (c2 : (H 118 (Int.toNat ((b : Nat) : Int))) = 0) => ?_⟩
    · skip
      refine ⟨(show 0 ≤ (w32 (((b : Nat) : Int) + 1)) ∧ (w32 (((b : Nat) : Int) + 1)) < ((10 : Nat) : Int) from by first | omega | (simp (disch := omega) only [w32_i]; omega)), ?_⟩
      refine (show W2 o_X12 M_X12_finds (inN [64, 104, 105, 106, 107, 108, 109, 110, 111, 112, 113, 114, 115, 116, 117]) (q + 30) Q 441 [some (mR 69), some (mI f), some (mI nn), some (mI mm), some (mI ((b : Nat) : Int)), none] [] (gs H 117 (Int.toNat (w32 (((b : Nat) : Int) + 1))) (w32 ((H 117 (Int.toNat ((b : Nat) : Int))) + 0))) from ?_)
      exact h0 (Or.inr (Or.inl c2))
    · skip
      refine ⟨(show 0 ≤ ((b : Nat) : Int) ∧ ((b : Nat) : Int) < ((9 : Nat) : Int) from by first | omega | (simp (disch := omega) only [w32_i]; omega)), ?_⟩
      refine ⟨(show 0 ≤ (w32 ((w32 (9 * f)) + ((b : Nat) : Int))) ∧ (w32 ((w32 (9 * f)) + ((b : Nat) : Int))) < ((234 : Nat) : Int) from by first | omega | (rw [show (w32 ((w32 (9 * f)) + ((b : Nat) : Int))) = (9 * f) + ((b : Nat) : Int) from by rw [w32_i (x := (9 * f)) (by omega) (by omega), w32_i (x := (9 * f) + ((b : Nat) : Int)) (by omega) (by omega)]]; omega) | (simp (disch := omega) only [w32_i]; omega)), ?_⟩
      refine ⟨fun (c3 : (H 112 (Int.toNat ((b : Nat) : Int))) = (H 105 (Int.toNat (w32 ((w32 (9 * f)) + ((b : Nat) : Int)))))) => ?_, fun (c3 : ¬ (H 112 (Int.toNat ((b : Nat) : Int))) = (H 105 (Int.toNat (w32 ((w32 (9 * f)) + ((b : Nat) : Int)))))) => ?_⟩
      · skip
        refine ⟨(show 0 ≤ (w32 (((b : Nat) : Int) + 1)) ∧ (w32 (((b : Nat) : Int) + 1)) < ((10 : Nat) : Int) from by first | omega | (simp (disch := omega) only [w32_i]; omega)), ?_⟩
        refine (show W2 o_X12 M_X12_finds (inN [64, 104, 105, 106, 107, 108, 109, 110, 111, 112, 113, 114, 115, 116, 117]) (q + 30) Q 441 [some (mR 69), some (mI f), some (mI nn), some (mI mm), some (mI ((b : Nat) : Int)), none] [] (gs H 117 (Int.toNat (w32 (((b : Nat) : Int) + 1))) (w32 ((H 117 (Int.toNat ((b : Nat) : Int))) + 0))) from ?_)
        exact h0 (Or.inr (Or.inr c3))
      · skip
        refine ⟨(show 0 ≤ (w32 (((b : Nat) : Int) + 1)) ∧ (w32 (((b : Nat) : Int) + 1)) < ((10 : Nat) : Int) from by first | omega | (simp (disch := omega) only [w32_i]; omega)), ?_⟩
        refine (show W2 o_X12 M_X12_finds (inN [64, 104, 105, 106, 107, 108, 109, 110, 111, 112, 113, 114, 115, 116, 117]) (q + 30) Q 441 [some (mR 69), some (mI f), some (mI nn), some (mI mm), some (mI ((b : Nat) : Int)), none] [] (gs H 117 (Int.toNat (w32 (((b : Nat) : Int) + 1))) (w32 ((H 117 (Int.toNat ((b : Nat) : Int))) + 1))) from ?_)
        exact h1 c1 c2 c3
set_option maxHeartbeats 8000000 in
theorem fi_331 {q n b : Nat} {H : mG} {f nn mm : Int} {Q : Option mV → mG → Prop} (hn9 : n ≤ 9) (h44 : H 64 44 = (n : Int)) (hb : b < n) (hb1 : w32 (((b : Nat) : Int) + 1) = ((b + 1 : Nat) : Int)) (hwx : H 112 (Int.toNat ((b : Nat) : Int)) = -1 ∨ (0 ≤ (w32 ((w32 (40 * (H 64 18))) + (H 112 (Int.toNat ((b : Nat) : Int))))) ∧ (w32 ((w32 (40 * (H 64 18))) + (H 112 (Int.toNat ((b : Nat) : Int))))) < 80)) (h0 : H 112 (Int.toNat ((b : Nat) : Int)) = -1 → W2 o_X12 M_X12_finds (inN [64, 104, 105, 106, 107, 108, 109, 110, 111, 112, 113, 114, 115, 116, 117]) (q + 30) Q 383 [some (mR 69), some (mI f), some (mI nn), some (mI mm), some (mI ((b : Nat) : Int)), none] [] (gs H 116 (Int.toNat (w32 (((b : Nat) : Int) + 1))) (w32 ((H 116 (Int.toNat ((b : Nat) : Int))) + 0)))) (h1 : ¬ H 112 (Int.toNat ((b : Nat) : Int)) = -1 → W2 o_X12 M_X12_finds (inN [64, 104, 105, 106, 107, 108, 109, 110, 111, 112, 113, 114, 115, 116, 117]) (q + 30) Q 383 [some (mR 69), some (mI f), some (mI nn), some (mI mm), some (mI ((b : Nat) : Int)), none] [] (gs H 116 (Int.toNat (w32 (((b : Nat) : Int) + 1))) (w32 ((H 116 (Int.toNat ((b : Nat) : Int))) + (H 81 (Int.toNat (w32 ((w32 (40 * (H 64 18))) + (H 112 (Int.toNat ((b : Nat) : Int))))))))))) : W2 o_X12 M_X12_finds (inN [64, 104, 105, 106, 107, 108, 109, 110, 111, 112, 113, 114, 115, 116, 117]) (q + 30) Q 331 [some (mR 69), some (mI f), some (mI nn), some (mI mm), some (mI ((b : Nat) : Int)), none] [] H := by
  refine w2_vc [353, 383] 400 oo_X12 q_X12_finds ?_
  refine ⟨(show 0 ≤ ((b : Nat) : Int) ∧ ((b : Nat) : Int) < ((10 : Nat) : Int) from by first | omega | (simp (disch := omega) only [w32_i]; omega)), ?_⟩
  refine ⟨(show 0 ≤ ((b : Nat) : Int) ∧ ((b : Nat) : Int) < ((9 : Nat) : Int) from by first | omega | (simp (disch := omega) only [w32_i]; omega)), ?_⟩
  refine (show W2 o_X12 M_X12_finds (inN [64, 104, 105, 106, 107, 108, 109, 110, 111, 112, 113, 114, 115, 116, 117]) (q + 30) Q 353 [some (mR 69), some (mI f), some (mI nn), some (mI mm), some (mI ((b : Nat) : Int)), none] [mI (H 112 (Int.toNat ((b : Nat) : Int))), mI (H 116 (Int.toNat ((b : Nat) : Int))), mI (w32 (((b : Nat) : Int) + 1)), mR 121] H from ?_)
  refine w2_vc [353, 383] 400 oo_X12 q_X12_finds ?_
  refine ⟨fun (c1 : ¬ (H 112 (Int.toNat ((b : Nat) : Int))) = (-1)) => ?_, fun (c1 : (H 112 (Int.toNat ((b : Nat) : Int))) = (-1)) => ?_⟩
  · skip
    refine ⟨(show 0 ≤ ((b : Nat) : Int) ∧ ((b : Nat) : Int) < ((9 : Nat) : Int) from by first | omega | (simp (disch := omega) only [w32_i]; omega)), ?_⟩
    refine ⟨(show 0 ≤ (w32 ((w32 (40 * (H 64 18))) + (H 112 (Int.toNat ((b : Nat) : Int))))) ∧ (w32 ((w32 (40 * (H 64 18))) + (H 112 (Int.toNat ((b : Nat) : Int))))) < ((80 : Nat) : Int) from by first | omega | (rw [show (w32 ((w32 (40 * (H 64 18))) + (H 112 (Int.toNat ((b : Nat) : Int))))) = (40 * (H 64 18)) + (H 112 (Int.toNat ((b : Nat) : Int))) from by rw [w32_i (x := (40 * (H 64 18))) (by omega) (by omega), w32_i (x := (40 * (H 64 18)) + (H 112 (Int.toNat ((b : Nat) : Int)))) (by omega) (by omega)]]; omega) | (simp (disch := omega) only [w32_i]; omega)), ?_⟩
    refine ⟨(show 0 ≤ (w32 (((b : Nat) : Int) + 1)) ∧ (w32 (((b : Nat) : Int) + 1)) < ((10 : Nat) : Int) from by first | omega | (simp (disch := omega) only [w32_i]; omega)), ?_⟩
    refine (show W2 o_X12 M_X12_finds (inN [64, 104, 105, 106, 107, 108, 109, 110, 111, 112, 113, 114, 115, 116, 117]) (q + 30) Q 383 [some (mR 69), some (mI f), some (mI nn), some (mI mm), some (mI ((b : Nat) : Int)), none] [] (gs H 116 (Int.toNat (w32 (((b : Nat) : Int) + 1))) (w32 ((H 116 (Int.toNat ((b : Nat) : Int))) + (H 81 (Int.toNat (w32 ((w32 (40 * (H 64 18))) + (H 112 (Int.toNat ((b : Nat) : Int)))))))))) from ?_)
    exact h1 c1
  · skip
    refine ⟨(show 0 ≤ (w32 (((b : Nat) : Int) + 1)) ∧ (w32 (((b : Nat) : Int) + 1)) < ((10 : Nat) : Int) from by first | omega | (simp (disch := omega) only [w32_i]; omega)), ?_⟩
    refine (show W2 o_X12 M_X12_finds (inN [64, 104, 105, 106, 107, 108, 109, 110, 111, 112, 113, 114, 115, 116, 117]) (q + 30) Q 383 [some (mR 69), some (mI f), some (mI nn), some (mI mm), some (mI ((b : Nat) : Int)), none] [] (gs H 116 (Int.toNat (w32 (((b : Nat) : Int) + 1))) (w32 ((H 116 (Int.toNat ((b : Nat) : Int))) + 0))) from ?_)
    exact h0 c1
set_option maxHeartbeats 8000000 in
theorem fi_218a {q n b : Nat} {H : mG} {f nn mm : Int} {Q : Option mV → mG → Prop} (hn9 : n ≤ 9) (h44 : H 64 44 = (n : Int)) (hb : b < n) (h : W2 o_X12 M_X12_finds (inN [64, 104, 105, 106, 107, 108, 109, 110, 111, 112, 113, 114, 115, 116, 117]) (q + 30) Q 229 [some (mR 69), some (mI f), some (mI nn), some (mI mm), some (mI ((b : Nat) : Int)), none] [] (gs H 111 (Int.toNat ((b : Nat) : Int)) (w32 ((H 111 (Int.toNat ((b : Nat) : Int))) + 1)))) : W2 o_X12 M_X12_finds (inN [64, 104, 105, 106, 107, 108, 109, 110, 111, 112, 113, 114, 115, 116, 117]) (q + 30) Q 218 [some (mR 69), some (mI f), some (mI nn), some (mI mm), some (mI ((b : Nat) : Int)), none] [] H := by
  refine w2_vc [229] 400 oo_X12 q_X12_finds ?_
  refine ⟨(show 0 ≤ ((b : Nat) : Int) ∧ ((b : Nat) : Int) < ((10 : Nat) : Int) from by first | omega | (simp (disch := omega) only [w32_i]; omega)), ?_⟩
  refine ⟨(show 0 ≤ ((b : Nat) : Int) ∧ ((b : Nat) : Int) < ((10 : Nat) : Int) from by first | omega | (simp (disch := omega) only [w32_i]; omega)), ?_⟩
  refine (show W2 o_X12 M_X12_finds (inN [64, 104, 105, 106, 107, 108, 109, 110, 111, 112, 113, 114, 115, 116, 117]) (q + 30) Q 229 [some (mR 69), some (mI f), some (mI nn), some (mI mm), some (mI ((b : Nat) : Int)), none] [] (gs H 111 (Int.toNat ((b : Nat) : Int)) (w32 ((H 111 (Int.toNat ((b : Nat) : Int))) + 1))) from ?_)
  exact h
set_option maxHeartbeats 8000000 in
theorem fi_229 {q n b : Nat} {H : mG} {f nn mm : Int} {Q : Option mV → mG → Prop} (hn9 : n ≤ 9) (h44 : H 64 44 = (n : Int)) {j : Nat} (hb : b < n) (h111 : H 111 (Int.toNat ((b : Nat) : Int)) = (j : Int)) (h1 : H 108 (Int.toNat ((b : Nat) : Int)) < (j : Int) → W2 o_X12 M_X12_finds (inN [64, 104, 105, 106, 107, 108, 109, 110, 111, 112, 113, 114, 115, 116, 117]) (q + 30) Q 64 [some (mR 69), some (mI f), some (mI nn), some (mI mm), some (mI (w32 (((b : Nat) : Int) + (-1)))), none] [] H) (h2 : (j : Int) ≤ H 108 (Int.toNat ((b : Nat) : Int)) → W2 o_X12 M_X12_finds (inN [64, 104, 105, 106, 107, 108, 109, 110, 111, 112, 113, 114, 115, 116, 117]) (q + 30) Q 260 [some (mR 69), some (mI f), some (mI nn), some (mI mm), some (mI ((b : Nat) : Int)), none] [] (gs H 112 (Int.toNat ((b : Nat) : Int)) (-1))) : W2 o_X12 M_X12_finds (inN [64, 104, 105, 106, 107, 108, 109, 110, 111, 112, 113, 114, 115, 116, 117]) (q + 30) Q 229 [some (mR 69), some (mI f), some (mI nn), some (mI mm), some (mI ((b : Nat) : Int)), none] [] H := by
  refine w2_vc [64, 260] 400 oo_X12 q_X12_finds ?_
  refine ⟨(show 0 ≤ ((b : Nat) : Int) ∧ ((b : Nat) : Int) < ((10 : Nat) : Int) from by first | omega | (simp (disch := omega) only [w32_i]; omega)), ?_⟩
  refine ⟨(show 0 ≤ ((b : Nat) : Int) ∧ ((b : Nat) : Int) < ((9 : Nat) : Int) from by first | omega | (simp (disch := omega) only [w32_i]; omega)), ?_⟩
  refine ⟨fun (c1 : (H 111 (Int.toNat ((b : Nat) : Int))) ≤ (H 108 (Int.toNat ((b : Nat) : Int)))) => ?_, fun (c1 : (H 108 (Int.toNat ((b : Nat) : Int))) < (H 111 (Int.toNat ((b : Nat) : Int)))) => ?_⟩
  · skip
    refine ⟨(show 0 ≤ ((b : Nat) : Int) ∧ ((b : Nat) : Int) < ((9 : Nat) : Int) from by first | omega | (simp (disch := omega) only [w32_i]; omega)), ?_⟩
    refine (show W2 o_X12 M_X12_finds (inN [64, 104, 105, 106, 107, 108, 109, 110, 111, 112, 113, 114, 115, 116, 117]) (q + 30) Q 260 [some (mR 69), some (mI f), some (mI nn), some (mI mm), some (mI ((b : Nat) : Int)), none] [] (gs H 112 (Int.toNat ((b : Nat) : Int)) (-1)) from ?_)
    exact h2 (by omega)
  · skip
    refine (show W2 o_X12 M_X12_finds (inN [64, 104, 105, 106, 107, 108, 109, 110, 111, 112, 113, 114, 115, 116, 117]) (q + 30) Q 64 [some (mR 69), some (mI f), some (mI nn), some (mI mm), some (mI (w32 (((b : Nat) : Int) + (-1)))), none] [] H from ?_)
    exact h1 (by omega)
set_option maxHeartbeats 8000000 in
theorem fi_260 {q n b : Nat} {H : mG} {f nn mm : Int} {Q : Option mV → mG → Prop} (hn9 : n ≤ 9) (h44 : H 64 44 = (n : Int)) {j : Nat} {cw : Int} {ok : Bool} (hb : b < n) (h111 : H 111 (Int.toNat ((b : Nat) : Int)) = (j : Int)) (hj : j ≤ 40) (hcx : (w32 ((w32 (40 * ((b : Nat) : Int))) + (H 111 (Int.toNat ((b : Nat) : Int))))) = ((40 * b + j : Nat) : Int)) (hcw : (j : Int) < H 108 (Int.toNat ((b : Nat) : Int)) → H 109 (Int.toNat (w32 ((w32 (40 * ((b : Nat) : Int))) + (H 111 (Int.toNat ((b : Nat) : Int)))))) = cw) (hmt : (j : Int) < H 108 (Int.toNat ((b : Nat) : Int)) → (0 ≤ H 64 18 ∧ H 64 18 ≤ 1) ∧ (0 ≤ ((b : Nat) : Int) ∧ ((b : Nat) : Int) < 9) ∧ (0 ≤ cw ∧ cw < 40) ∧ (H 98 (Int.toNat ((b : Nat) : Int)) = 0 ∨ (1 ≤ ((b : Nat) : Int) ∧ ((H 112 (Int.toNat (w32 (((b : Nat) : Int) - 1)))) = -1 ∨ (0 ≤ (H 112 (Int.toNat (w32 (((b : Nat) : Int) - 1)))) ∧ (H 112 (Int.toNat (w32 (((b : Nat) : Int) - 1)))) < 40 ∧ 0 ≤ (w32 ((w32 (8 * (H 78 (Int.toNat (w32 ((w32 (40 * (H 64 18))) + (H 112 (Int.toNat (w32 (((b : Nat) : Int) - 1)))))))))) + (H 78 (Int.toNat (w32 ((w32 (40 * (H 64 18))) + cw)))))) ∧ (w32 ((w32 (8 * (H 78 (Int.toNat (w32 ((w32 (40 * (H 64 18))) + (H 112 (Int.toNat (w32 (((b : Nat) : Int) - 1)))))))))) + (H 78 (Int.toNat (w32 ((w32 (40 * (H 64 18))) + cw)))))) < 64)))) ∧ f_X12_mayTake H ((b : Nat) : Int) cw = b01 ok) (hch : H 108 (Int.toNat ((b : Nat) : Int)) ≤ 40) (h2 : (j : Int) < H 108 (Int.toNat ((b : Nat) : Int)) → ok = false → W2 o_X12 M_X12_finds (inN [64, 104, 105, 106, 107, 108, 109, 110, 111, 112, 113, 114, 115, 116, 117]) (q + 30) Q 64 [some (mR 69), some (mI f), some (mI nn), some (mI mm), some (mI ((b : Nat) : Int)), none] [] H) (h3 : (j : Int) < H 108 (Int.toNat ((b : Nat) : Int)) → ok = true → W2 o_X12 M_X12_finds (inN [64, 104, 105, 106, 107, 108, 109, 110, 111, 112, 113, 114, 115, 116, 117]) (q + 30) Q 331 [some (mR 69), some (mI f), some (mI nn), some (mI mm), some (mI ((b : Nat) : Int)), none] [] (gs (gs H 112 (Int.toNat ((b : Nat) : Int)) cw) 114 (Int.toNat cw) (w32 ((H 114 (Int.toNat cw)) + 1)))) (h4 : H 108 (Int.toNat ((b : Nat) : Int)) ≤ (j : Int) → W2 o_X12 M_X12_finds (inN [64, 104, 105, 106, 107, 108, 109, 110, 111, 112, 113, 114, 115, 116, 117]) (q + 30) Q 331 [some (mR 69), some (mI f), some (mI nn), some (mI mm), some (mI ((b : Nat) : Int)), none] [] H) : W2 o_X12 M_X12_finds (inN [64, 104, 105, 106, 107, 108, 109, 110, 111, 112, 113, 114, 115, 116, 117]) (q + 30) Q 260 [some (mR 69), some (mI f), some (mI nn), some (mI mm), some (mI ((b : Nat) : Int)), none] [] H := by
  refine w2_vc [64, 297, 305, 320, 331] 400 oo_X12 q_X12_finds ?_
  refine ⟨(show 0 ≤ ((b : Nat) : Int) ∧ ((b : Nat) : Int) < ((10 : Nat) : Int) from by first | omega | (simp (disch := omega) only [w32_i]; omega)), ?_⟩
  refine ⟨(show 0 ≤ ((b : Nat) : Int) ∧ ((b : Nat) : Int) < ((9 : Nat) : Int) from by first | omega | (simp (disch := omega) only [w32_i]; omega)), ?_⟩
  refine ⟨fun (c1 : (H 108 (Int.toNat ((b : Nat) : Int))) ≤ (H 111 (Int.toNat ((b : Nat) : Int)))) => ?_, fun (c1 : (H 111 (Int.toNat ((b : Nat) : Int))) < (H 108 (Int.toNat ((b : Nat) : Int)))) => ?_⟩
  · skip
    refine (show W2 o_X12 M_X12_finds (inN [64, 104, 105, 106, 107, 108, 109, 110, 111, 112, 113, 114, 115, 116, 117]) (q + 30) Q 331 [some (mR 69), some (mI f), some (mI nn), some (mI mm), some (mI ((b : Nat) : Int)), none] [] H from ?_)
    exact h4 (by omega)
  · skip
    refine ⟨(show 0 ≤ ((b : Nat) : Int) ∧ ((b : Nat) : Int) < ((10 : Nat) : Int) from by first | omega | (simp (disch := omega) only [w32_i]; omega)), ?_⟩
    refine ⟨(show 0 ≤ (w32 ((w32 (40 * ((b : Nat) : Int))) + (H 111 (Int.toNat ((b : Nat) : Int))))) ∧ (w32 ((w32 (40 * ((b : Nat) : Int))) + (H 111 (Int.toNat ((b : Nat) : Int))))) < ((360 : Nat) : Int) from by first | omega | (rw [show (w32 ((w32 (40 * ((b : Nat) : Int))) + (H 111 (Int.toNat ((b : Nat) : Int))))) = (40 * ((b : Nat) : Int)) + (H 111 (Int.toNat ((b : Nat) : Int))) from by rw [w32_i (x := (40 * ((b : Nat) : Int))) (by omega) (by omega), w32_i (x := (40 * ((b : Nat) : Int)) + (H 111 (Int.toNat ((b : Nat) : Int)))) (by omega) (by omega)]]; omega) | (simp (disch := omega) only [w32_i]; omega)), ?_⟩
    refine (show W2 o_X12 M_X12_finds (inN [64, 104, 105, 106, 107, 108, 109, 110, 111, 112, 113, 114, 115, 116, 117]) (q + 30) Q 297 [some (mR 69), some (mI f), some (mI nn), some (mI mm), some (mI ((b : Nat) : Int)), some (mI (H 109 (Int.toNat (w32 ((w32 (40 * ((b : Nat) : Int))) + (H 111 (Int.toNat ((b : Nat) : Int))))))))] [] H from ?_)
    rw [hcw (by omega)]
    refine (show W2 o_X12 M_X12_finds (inN [64, 104, 105, 106, 107, 108, 109, 110, 111, 112, 113, 114, 115, 116, 117]) (q + 30) Q 297 [some (mR 69), some (mI f), some (mI nn), some (mI mm), some (mI ((b : Nat) : Int)), some (mI cw)] [] H from ?_)
    refine w2_vc [64, 297, 305, 320, 331] 400 oo_X12 q_X12_finds ?_
    have hmt := hmt (by omega)
    have hcw2 := hmt.2.2.1
    refine sp_X12_mayTake hmt.1 hmt.2.1 hmt.2.2.1 hmt.2.2.2.1 ?_
    rw [hmt.2.2.2.2]
    refine (show W2 o_X12 M_X12_finds (inN [64, 104, 105, 106, 107, 108, 109, 110, 111, 112, 113, 114, 115, 116, 117]) (q + 30) Q 305 [some (mR 69), some (mI f), some (mI nn), some (mI mm), some (mI ((b : Nat) : Int)), some (mI cw)] [mI (b01 ok)] H from ?_)
    refine w2_vc [64, 297, 305, 320, 331] 400 oo_X12 q_X12_finds ?_
    refine ⟨fun (c2 : ¬ (b01 ok) = 0) => ?_, fun (c2 : (b01 ok) = 0) => ?_⟩
    · skip
      refine ⟨(show 0 ≤ ((b : Nat) : Int) ∧ ((b : Nat) : Int) < ((9 : Nat) : Int) from by first | omega | (simp (disch := omega) only [w32_i]; omega)), ?_⟩
      refine (show W2 o_X12 M_X12_finds (inN [64, 104, 105, 106, 107, 108, 109, 110, 111, 112, 113, 114, 115, 116, 117]) (q + 30) Q 320 [some (mR 69), some (mI f), some (mI nn), some (mI mm), some (mI ((b : Nat) : Int)), some (mI cw)] [] (gs H 112 (Int.toNat ((b : Nat) : Int)) cw) from ?_)
      refine w2_vc [64, 297, 305, 320, 331] 400 oo_X12 q_X12_finds ?_
      refine ⟨(show 0 ≤ cw ∧ cw < ((40 : Nat) : Int) from by first | omega | (simp (disch := omega) only [w32_i]; omega)), ?_⟩
      refine ⟨(show 0 ≤ cw ∧ cw < ((40 : Nat) : Int) from by first | omega | (simp (disch := omega) only [w32_i]; omega)), ?_⟩
      refine (show W2 o_X12 M_X12_finds (inN [64, 104, 105, 106, 107, 108, 109, 110, 111, 112, 113, 114, 115, 116, 117]) (q + 30) Q 331 [some (mR 69), some (mI f), some (mI nn), some (mI mm), some (mI ((b : Nat) : Int)), some (mI cw)] [] (gs (gs H 112 (Int.toNat ((b : Nat) : Int)) cw) 114 (Int.toNat cw) (w32 ((H 114 (Int.toNat cw)) + 1))) from ?_)
      refine WP.fg (L' := [some (mR 69), some (mI f), some (mI nn), some (mI mm), some (mI ((b : Nat) : Int)), none]) ⟨rfl, rfl, rfl, rfl, rfl, trivial⟩ ?_
      exact h3 (by omega) (b01_n' rfl c2)
    · skip
      refine (show W2 o_X12 M_X12_finds (inN [64, 104, 105, 106, 107, 108, 109, 110, 111, 112, 113, 114, 115, 116, 117]) (q + 30) Q 64 [some (mR 69), some (mI f), some (mI nn), some (mI mm), some (mI ((b : Nat) : Int)), some (mI cw)] [] H from ?_)
      refine WP.fg (L' := [some (mR 69), some (mI f), some (mI nn), some (mI mm), some (mI ((b : Nat) : Int)), none]) ⟨rfl, rfl, rfl, rfl, rfl, trivial⟩ ?_
      exact h2 (by omega) (b01_z' rfl c2)
theorem fi_218 {q n b : Nat} {H : mG} {f nn mm : Int} {Q : Option mV → mG → Prop} (hn9 : n ≤ 9) (h44 : H 64 44 = (n : Int)) {j : Nat} {cw : Int} {ok : Bool} (hb : b < n) (hch : 0 ≤ H 108 (Int.toNat ((b : Nat) : Int)) ∧ H 108 (Int.toNat ((b : Nat) : Int)) ≤ 40) (ha : (w32 ((H 111 (Int.toNat ((b : Nat) : Int))) + 1)) = (j : Int)) (hj : j ≤ 41) (hcx : (w32 ((w32 (40 * ((b : Nat) : Int))) + (w32 ((H 111 (Int.toNat ((b : Nat) : Int))) + 1)))) = ((40 * b + j : Nat) : Int)) (hcw : H 109 (Int.toNat (w32 ((w32 (40 * ((b : Nat) : Int))) + (w32 ((H 111 (Int.toNat ((b : Nat) : Int))) + 1))))) = cw) (hmt : (j : Int) < H 108 (Int.toNat ((b : Nat) : Int)) → (0 ≤ (gs (gs H 111 (Int.toNat ((b : Nat) : Int)) (w32 ((H 111 (Int.toNat ((b : Nat) : Int))) + 1))) 112 (Int.toNat ((b : Nat) : Int)) (-1)) 64 18 ∧ (gs (gs H 111 (Int.toNat ((b : Nat) : Int)) (w32 ((H 111 (Int.toNat ((b : Nat) : Int))) + 1))) 112 (Int.toNat ((b : Nat) : Int)) (-1)) 64 18 ≤ 1) ∧ (0 ≤ ((b : Nat) : Int) ∧ ((b : Nat) : Int) < 9) ∧ (0 ≤ cw ∧ cw < 40) ∧ ((gs (gs H 111 (Int.toNat ((b : Nat) : Int)) (w32 ((H 111 (Int.toNat ((b : Nat) : Int))) + 1))) 112 (Int.toNat ((b : Nat) : Int)) (-1)) 98 (Int.toNat ((b : Nat) : Int)) = 0 ∨ (1 ≤ ((b : Nat) : Int) ∧ (((gs (gs H 111 (Int.toNat ((b : Nat) : Int)) (w32 ((H 111 (Int.toNat ((b : Nat) : Int))) + 1))) 112 (Int.toNat ((b : Nat) : Int)) (-1)) 112 (Int.toNat (w32 (((b : Nat) : Int) - 1)))) = -1 ∨ (0 ≤ ((gs (gs H 111 (Int.toNat ((b : Nat) : Int)) (w32 ((H 111 (Int.toNat ((b : Nat) : Int))) + 1))) 112 (Int.toNat ((b : Nat) : Int)) (-1)) 112 (Int.toNat (w32 (((b : Nat) : Int) - 1)))) ∧ ((gs (gs H 111 (Int.toNat ((b : Nat) : Int)) (w32 ((H 111 (Int.toNat ((b : Nat) : Int))) + 1))) 112 (Int.toNat ((b : Nat) : Int)) (-1)) 112 (Int.toNat (w32 (((b : Nat) : Int) - 1)))) < 40 ∧ 0 ≤ (w32 ((w32 (8 * ((gs (gs H 111 (Int.toNat ((b : Nat) : Int)) (w32 ((H 111 (Int.toNat ((b : Nat) : Int))) + 1))) 112 (Int.toNat ((b : Nat) : Int)) (-1)) 78 (Int.toNat (w32 ((w32 (40 * ((gs (gs H 111 (Int.toNat ((b : Nat) : Int)) (w32 ((H 111 (Int.toNat ((b : Nat) : Int))) + 1))) 112 (Int.toNat ((b : Nat) : Int)) (-1)) 64 18))) + ((gs (gs H 111 (Int.toNat ((b : Nat) : Int)) (w32 ((H 111 (Int.toNat ((b : Nat) : Int))) + 1))) 112 (Int.toNat ((b : Nat) : Int)) (-1)) 112 (Int.toNat (w32 (((b : Nat) : Int) - 1)))))))))) + ((gs (gs H 111 (Int.toNat ((b : Nat) : Int)) (w32 ((H 111 (Int.toNat ((b : Nat) : Int))) + 1))) 112 (Int.toNat ((b : Nat) : Int)) (-1)) 78 (Int.toNat (w32 ((w32 (40 * ((gs (gs H 111 (Int.toNat ((b : Nat) : Int)) (w32 ((H 111 (Int.toNat ((b : Nat) : Int))) + 1))) 112 (Int.toNat ((b : Nat) : Int)) (-1)) 64 18))) + cw)))))) ∧ (w32 ((w32 (8 * ((gs (gs H 111 (Int.toNat ((b : Nat) : Int)) (w32 ((H 111 (Int.toNat ((b : Nat) : Int))) + 1))) 112 (Int.toNat ((b : Nat) : Int)) (-1)) 78 (Int.toNat (w32 ((w32 (40 * ((gs (gs H 111 (Int.toNat ((b : Nat) : Int)) (w32 ((H 111 (Int.toNat ((b : Nat) : Int))) + 1))) 112 (Int.toNat ((b : Nat) : Int)) (-1)) 64 18))) + ((gs (gs H 111 (Int.toNat ((b : Nat) : Int)) (w32 ((H 111 (Int.toNat ((b : Nat) : Int))) + 1))) 112 (Int.toNat ((b : Nat) : Int)) (-1)) 112 (Int.toNat (w32 (((b : Nat) : Int) - 1)))))))))) + ((gs (gs H 111 (Int.toNat ((b : Nat) : Int)) (w32 ((H 111 (Int.toNat ((b : Nat) : Int))) + 1))) 112 (Int.toNat ((b : Nat) : Int)) (-1)) 78 (Int.toNat (w32 ((w32 (40 * ((gs (gs H 111 (Int.toNat ((b : Nat) : Int)) (w32 ((H 111 (Int.toNat ((b : Nat) : Int))) + 1))) 112 (Int.toNat ((b : Nat) : Int)) (-1)) 64 18))) + cw)))))) < 64)))) ∧ f_X12_mayTake (gs (gs H 111 (Int.toNat ((b : Nat) : Int)) (w32 ((H 111 (Int.toNat ((b : Nat) : Int))) + 1))) 112 (Int.toNat ((b : Nat) : Int)) (-1)) ((b : Nat) : Int) cw = b01 ok) (h1 : H 108 (Int.toNat ((b : Nat) : Int)) < (j : Int) → W2 o_X12 M_X12_finds (inN [64, 104, 105, 106, 107, 108, 109, 110, 111, 112, 113, 114, 115, 116, 117]) (q + 30) Q 64 [some (mR 69), some (mI f), some (mI nn), some (mI mm), some (mI (w32 (((b : Nat) : Int) + (-1)))), none] [] (gs H 111 (Int.toNat ((b : Nat) : Int)) (w32 ((H 111 (Int.toNat ((b : Nat) : Int))) + 1)))) (h2 : (j : Int) < H 108 (Int.toNat ((b : Nat) : Int)) → ok = false → W2 o_X12 M_X12_finds (inN [64, 104, 105, 106, 107, 108, 109, 110, 111, 112, 113, 114, 115, 116, 117]) (q + 30) Q 64 [some (mR 69), some (mI f), some (mI nn), some (mI mm), some (mI ((b : Nat) : Int)), none] [] (gs (gs H 111 (Int.toNat ((b : Nat) : Int)) (w32 ((H 111 (Int.toNat ((b : Nat) : Int))) + 1))) 112 (Int.toNat ((b : Nat) : Int)) (-1))) (h3 : (j : Int) < H 108 (Int.toNat ((b : Nat) : Int)) → ok = true → W2 o_X12 M_X12_finds (inN [64, 104, 105, 106, 107, 108, 109, 110, 111, 112, 113, 114, 115, 116, 117]) (q + 30) Q 331 [some (mR 69), some (mI f), some (mI nn), some (mI mm), some (mI ((b : Nat) : Int)), none] [] (gs (gs (gs (gs H 111 (Int.toNat ((b : Nat) : Int)) (w32 ((H 111 (Int.toNat ((b : Nat) : Int))) + 1))) 112 (Int.toNat ((b : Nat) : Int)) (-1)) 112 (Int.toNat ((b : Nat) : Int)) cw) 114 (Int.toNat cw) (w32 ((H 114 (Int.toNat cw)) + 1)))) (h4 : (j : Int) = H 108 (Int.toNat ((b : Nat) : Int)) → W2 o_X12 M_X12_finds (inN [64, 104, 105, 106, 107, 108, 109, 110, 111, 112, 113, 114, 115, 116, 117]) (q + 30) Q 331 [some (mR 69), some (mI f), some (mI nn), some (mI mm), some (mI ((b : Nat) : Int)), none] [] (gs (gs H 111 (Int.toNat ((b : Nat) : Int)) (w32 ((H 111 (Int.toNat ((b : Nat) : Int))) + 1))) 112 (Int.toNat ((b : Nat) : Int)) (-1))) : W2 o_X12 M_X12_finds (inN [64, 104, 105, 106, 107, 108, 109, 110, 111, 112, 113, 114, 115, 116, 117]) (q + 30) Q 218 [some (mR 69), some (mI f), some (mI nn), some (mI mm), some (mI ((b : Nat) : Int)), none] [] H := by
  refine fi_218a hn9 h44 hb ?_
  have e108 : (gs H 111 (Int.toNat ((b : Nat) : Int)) (w32 ((H 111 (Int.toNat ((b : Nat) : Int))) + 1))) 108 = H 108 := gs_ne (by decide)
  have m108 : (gs (gs H 111 (Int.toNat ((b : Nat) : Int)) (w32 ((H 111 (Int.toNat ((b : Nat) : Int))) + 1))) 112 (Int.toNat ((b : Nat) : Int)) (-1)) 108 = H 108 := by rw [gs_ne (by decide), gs_ne (by decide)]
  have m111 : (gs (gs H 111 (Int.toNat ((b : Nat) : Int)) (w32 ((H 111 (Int.toNat ((b : Nat) : Int))) + 1))) 112 (Int.toNat ((b : Nat) : Int)) (-1)) 111 (Int.toNat ((b : Nat) : Int)) = (j : Int) := by rw [gs_ne (by decide), gs_at]; exact ha
  refine fi_229 (j := j) hn9 (by rw [gs_ne (by decide)]; exact h44) hb (by rw [gs_at]; exact ha) (fun c => h1 (by rw [e108] at c; exact c)) (fun c => ?_)
  rw [e108] at c
  refine fi_260 (j := j) (cw := cw) (ok := ok) hn9 (by rw [gs_ne (by decide), gs_ne (by decide)]; exact h44) hb m111 (by omega) (by rw [m111]; rw [ha] at hcx; exact hcx) (fun _ => by rw [m111, gs_ne (by decide), gs_ne (by decide)]; rw [ha] at hcw; exact hcw) (fun c2 => hmt (by rw [m108] at c2; exact c2)) (by rw [m108]; exact hch.2) (fun c2 => h2 (by rw [m108] at c2; exact c2)) (fun c2 c3 => ?_) (fun c2 => h4 (by rw [m108] at c2; omega))
  rw [m108] at c2
  rw [show (gs (gs H 111 (Int.toNat ((b : Nat) : Int)) (w32 ((H 111 (Int.toNat ((b : Nat) : Int))) + 1))) 112 (Int.toNat ((b : Nat) : Int)) (-1)) 114 = H 114 from by rw [gs_ne (by decide), gs_ne (by decide)]]
  exact h3 c2 c3
set_option maxHeartbeats 8000000 in
theorem fi_64 {q n b : Nat} {H : mG} {f nn mm : Int} {Q : Option mV → mG → Prop} (hn9 : n ≤ 9) (h44 : H 64 44 = (n : Int)) (hb : b < n) (hr : H 111 (Int.toNat ((b : Nat) : Int)) = -1 ∨ H 112 (Int.toNat ((b : Nat) : Int)) = -1 ∨ (0 ≤ H 112 (Int.toNat ((b : Nat) : Int)) ∧ H 112 (Int.toNat ((b : Nat) : Int)) < 40)) (h1 : (H 111 (Int.toNat ((b : Nat) : Int)) = -1 ∨ H 112 (Int.toNat ((b : Nat) : Int)) = -1) → W2 o_X12 M_X12_finds (inN [64, 104, 105, 106, 107, 108, 109, 110, 111, 112, 113, 114, 115, 116, 117]) (q + 30) Q 218 [some (mR 69), some (mI f), some (mI nn), some (mI mm), some (mI ((b : Nat) : Int)), none] [] H) (h2 : ¬ H 111 (Int.toNat ((b : Nat) : Int)) = -1 → ¬ H 112 (Int.toNat ((b : Nat) : Int)) = -1 → W2 o_X12 M_X12_finds (inN [64, 104, 105, 106, 107, 108, 109, 110, 111, 112, 113, 114, 115, 116, 117]) (q + 30) Q 218 [some (mR 69), some (mI f), some (mI nn), some (mI mm), some (mI ((b : Nat) : Int)), none] [] (gs H 114 (Int.toNat (H 112 (Int.toNat ((b : Nat) : Int)))) (w32 ((H 114 (Int.toNat (H 112 (Int.toNat ((b : Nat) : Int))))) - 1)))) : W2 o_X12 M_X12_finds (inN [64, 104, 105, 106, 107, 108, 109, 110, 111, 112, 113, 114, 115, 116, 117]) (q + 30) Q 64 [some (mR 69), some (mI f), some (mI nn), some (mI mm), some (mI ((b : Nat) : Int)), none] [] H := by
  refine w2_vc [218] 400 oo_X12 q_X12_finds ?_
  refine ⟨fun (c1 : ((b : Nat) : Int) < 0) => ?_, fun (c1 : 0 ≤ ((b : Nat) : Int)) => ?_⟩
  · skip
    exfalso; first | omega | (rw [w32_i (by omega) (by omega)] at c1; omega) | (simp (disch := omega) only [w32_i] at *; omega)
  · skip
    refine ⟨fun (c2 : ¬ ((b : Nat) : Int) = (H 64 44)) => ?_, fun (c2 : ((b : Nat) : Int) = (H 64 44)) => ?_⟩
    · skip
      refine ⟨(show 0 ≤ ((b : Nat) : Int) ∧ ((b : Nat) : Int) < ((10 : Nat) : Int) from by first | omega | (simp (disch := omega) only [w32_i]; omega)), ?_⟩
      refine ⟨fun (c3 : (H 111 (Int.toNat ((b : Nat) : Int))) = (-1)) => ?_, fun (c3 : ¬ (H 111 (Int.toNat ((b : Nat) : Int))) = (-1)) => ?_⟩
      · skip
        refine (show W2 o_X12 M_X12_finds (inN [64, 104, 105, 106, 107, 108, 109, 110, 111, 112, 113, 114, 115, 116, 117]) (q + 30) Q 218 [some (mR 69), some (mI f), some (mI nn), some (mI mm), some (mI ((b : Nat) : Int)), none] [] H from ?_)
        exact h1 (Or.inl c3)
      · skip
        refine ⟨(show 0 ≤ ((b : Nat) : Int) ∧ ((b : Nat) : Int) < ((9 : Nat) : Int) from by first | omega | (simp (disch := omega) only [w32_i]; omega)), ?_⟩
        refine ⟨fun (c4 : (H 112 (Int.toNat ((b : Nat) : Int))) = (-1)) => ?_, fun (c4 : ¬ (H 112 (Int.toNat ((b : Nat) : Int))) = (-1)) => ?_⟩
        · skip
          refine (show W2 o_X12 M_X12_finds (inN [64, 104, 105, 106, 107, 108, 109, 110, 111, 112, 113, 114, 115, 116, 117]) (q + 30) Q 218 [some (mR 69), some (mI f), some (mI nn), some (mI mm), some (mI ((b : Nat) : Int)), none] [] H from ?_)
          exact h1 (Or.inr c4)
        · skip
          refine ⟨(show 0 ≤ ((b : Nat) : Int) ∧ ((b : Nat) : Int) < ((9 : Nat) : Int) from by first | omega | (simp (disch := omega) only [w32_i]; omega)), ?_⟩
          refine ⟨(show 0 ≤ (H 112 (Int.toNat ((b : Nat) : Int))) ∧ (H 112 (Int.toNat ((b : Nat) : Int))) < ((40 : Nat) : Int) from by first | omega | (simp (disch := omega) only [w32_i]; omega)), ?_⟩
          refine ⟨(show 0 ≤ (H 112 (Int.toNat ((b : Nat) : Int))) ∧ (H 112 (Int.toNat ((b : Nat) : Int))) < ((40 : Nat) : Int) from by first | omega | (simp (disch := omega) only [w32_i]; omega)), ?_⟩
          refine (show W2 o_X12 M_X12_finds (inN [64, 104, 105, 106, 107, 108, 109, 110, 111, 112, 113, 114, 115, 116, 117]) (q + 30) Q 218 [some (mR 69), some (mI f), some (mI nn), some (mI mm), some (mI ((b : Nat) : Int)), none] [] (gs H 114 (Int.toNat (H 112 (Int.toNat ((b : Nat) : Int)))) (w32 ((H 114 (Int.toNat (H 112 (Int.toNat ((b : Nat) : Int))))) - 1))) from ?_)
          exact h2 c3 c4
    · skip
      exfalso; first | omega | (rw [w32_i (by omega) (by omega)] at c4; omega) | (simp (disch := omega) only [w32_i] at *; omega)
set_option maxHeartbeats 8000000 in
theorem fi_leaf {q n b : Nat} {H : mG} {f nn mm : Int} {Q : Option mV → mG → Prop} (hn9 : n ≤ 9) (h44 : H 64 44 = (n : Int)) (h1 : ¬ (H 64 70 < H 116 (Int.toNat ((n : Nat) : Int)) ∨ (H 116 (Int.toNat ((n : Nat) : Int)) = H 64 70 ∧ H 117 (Int.toNat ((n : Nat) : Int)) < H 64 71)) → W2 o_X12 M_X12_finds (inN [64, 104, 105, 106, 107, 108, 109, 110, 111, 112, 113, 114, 115, 116, 117]) (q + 30) Q 64 [some (mR 69), some (mI f), some (mI nn), some (mI mm), some (mI (w32 (((n : Nat) : Int) + (-1)))), none] [] H) (h2 : (H 64 70 < H 116 (Int.toNat ((n : Nat) : Int)) ∨ (H 116 (Int.toNat ((n : Nat) : Int)) = H 64 70 ∧ H 117 (Int.toNat ((n : Nat) : Int)) < H 64 71)) → W2 o_X12 M_X12_finds (inN [64, 104, 105, 106, 107, 108, 109, 110, 111, 112, 113, 114, 115, 116, 117]) (q + 30) Q 145 [some (mR 69), some (mI f), some (mI nn), some (mI mm), some (mI ((n : Nat) : Int)), some (mI 0)] [] (gs (gs H 64 70 (H 116 (Int.toNat ((n : Nat) : Int)))) 64 71 (H 117 (Int.toNat ((n : Nat) : Int))))) : W2 o_X12 M_X12_finds (inN [64, 104, 105, 106, 107, 108, 109, 110, 111, 112, 113, 114, 115, 116, 117]) (q + 30) Q 64 [some (mR 69), some (mI f), some (mI nn), some (mI mm), some (mI ((n : Nat) : Int)), none] [] H := by
  refine w2_vc [64, 131, 142, 145] 400 oo_X12 q_X12_finds ?_
  refine ⟨fun (c1 : ((n : Nat) : Int) < 0) => ?_, fun (c1 : 0 ≤ ((n : Nat) : Int)) => ?_⟩
  · skip
    exfalso; first | omega | (rw [w32_i (by omega) (by omega)] at c1; omega) | (simp (disch := omega) only [w32_i] at *; omega)
  · skip
    refine ⟨fun (c2 : ¬ ((n : Nat) : Int) = (H 64 44)) => ?_, fun (c2 : ((n : Nat) : Int) = (H 64 44)) => ?_⟩
    · skip
      exfalso; first | omega | (rw [w32_i (by omega) (by omega)] at c2; omega) | (simp (disch := omega) only [w32_i] at *; omega)
    · skip
      refine ⟨(show 0 ≤ ((n : Nat) : Int) ∧ ((n : Nat) : Int) < ((10 : Nat) : Int) from by first | omega | (simp (disch := omega) only [w32_i]; omega)), ?_⟩
      refine ⟨fun (c3 : (H 64 70) < (H 116 (Int.toNat ((n : Nat) : Int)))) => ?_, fun (c3 : (H 116 (Int.toNat ((n : Nat) : Int))) ≤ (H 64 70)) => ?_⟩
      · skip
        refine ⟨(show 0 ≤ ((n : Nat) : Int) ∧ ((n : Nat) : Int) < ((10 : Nat) : Int) from by first | omega | (simp (disch := omega) only [w32_i]; omega)), ?_⟩
        refine (show W2 o_X12 M_X12_finds (inN [64, 104, 105, 106, 107, 108, 109, 110, 111, 112, 113, 114, 115, 116, 117]) (q + 30) Q 131 [some (mR 69), some (mI f), some (mI nn), some (mI mm), some (mI ((n : Nat) : Int)), none] [] (gs H 64 70 (H 116 (Int.toNat ((n : Nat) : Int)))) from ?_)
        refine w2_vc [64, 131, 142, 145] 400 oo_X12 q_X12_finds ?_
        refine ⟨(show 0 ≤ ((n : Nat) : Int) ∧ ((n : Nat) : Int) < ((10 : Nat) : Int) from by first | omega | (simp (disch := omega) only [w32_i]; omega)), ?_⟩
        refine (show W2 o_X12 M_X12_finds (inN [64, 104, 105, 106, 107, 108, 109, 110, 111, 112, 113, 114, 115, 116, 117]) (q + 30) Q 142 [some (mR 69), some (mI f), some (mI nn), some (mI mm), some (mI ((n : Nat) : Int)), none] [] (gs (gs H 64 70 (H 116 (Int.toNat ((n : Nat) : Int)))) 64 71 (H 117 (Int.toNat ((n : Nat) : Int)))) from ?_)
        refine w2_vc [64, 131, 142, 145] 400 oo_X12 q_X12_finds ?_
        refine (show W2 o_X12 M_X12_finds (inN [64, 104, 105, 106, 107, 108, 109, 110, 111, 112, 113, 114, 115, 116, 117]) (q + 30) Q 145 [some (mR 69), some (mI f), some (mI nn), some (mI mm), some (mI ((n : Nat) : Int)), some (mI 0)] [] (gs (gs H 64 70 (H 116 (Int.toNat ((n : Nat) : Int)))) 64 71 (H 117 (Int.toNat ((n : Nat) : Int)))) from ?_)
        exact h2 (by omega)
      · skip
        refine ⟨(show 0 ≤ ((n : Nat) : Int) ∧ ((n : Nat) : Int) < ((10 : Nat) : Int) from by first | omega | (simp (disch := omega) only [w32_i]; omega)), ?_⟩
        refine ⟨fun (c4 : ¬ (H 116 (Int.toNat ((n : Nat) : Int))) = (H 64 70)) => ?_, fun (c4 : (H 116 (Int.toNat ((n : Nat) : Int))) = (H 64 70)) => ?_⟩
        · skip
          refine (show W2 o_X12 M_X12_finds (inN [64, 104, 105, 106, 107, 108, 109, 110, 111, 112, 113, 114, 115, 116, 117]) (q + 30) Q 64 [some (mR 69), some (mI f), some (mI nn), some (mI mm), some (mI (w32 (((n : Nat) : Int) + (-1)))), none] [] H from ?_)
          exact h1 (by omega)
        · skip
          refine ⟨(show 0 ≤ ((n : Nat) : Int) ∧ ((n : Nat) : Int) < ((10 : Nat) : Int) from by first | omega | (simp (disch := omega) only [w32_i]; omega)), ?_⟩
          refine ⟨fun (c5 : (H 64 71) ≤ (H 117 (Int.toNat ((n : Nat) : Int)))) => ?_, fun (c5 : (H 117 (Int.toNat ((n : Nat) : Int))) < (H 64 71)) => ?_⟩
          · skip
            refine (show W2 o_X12 M_X12_finds (inN [64, 104, 105, 106, 107, 108, 109, 110, 111, 112, 113, 114, 115, 116, 117]) (q + 30) Q 64 [some (mR 69), some (mI f), some (mI nn), some (mI mm), some (mI (w32 (((n : Nat) : Int) + (-1)))), none] [] H from ?_)
            exact h1 (by omega)
          · skip
            refine ⟨(show 0 ≤ ((n : Nat) : Int) ∧ ((n : Nat) : Int) < ((10 : Nat) : Int) from by first | omega | (simp (disch := omega) only [w32_i]; omega)), ?_⟩
            refine (show W2 o_X12 M_X12_finds (inN [64, 104, 105, 106, 107, 108, 109, 110, 111, 112, 113, 114, 115, 116, 117]) (q + 30) Q 131 [some (mR 69), some (mI f), some (mI nn), some (mI mm), some (mI ((n : Nat) : Int)), none] [] (gs H 64 70 (H 116 (Int.toNat ((n : Nat) : Int)))) from ?_)
            refine w2_vc [64, 131, 142, 145] 400 oo_X12 q_X12_finds ?_
            refine ⟨(show 0 ≤ ((n : Nat) : Int) ∧ ((n : Nat) : Int) < ((10 : Nat) : Int) from by first | omega | (simp (disch := omega) only [w32_i]; omega)), ?_⟩
            refine (show W2 o_X12 M_X12_finds (inN [64, 104, 105, 106, 107, 108, 109, 110, 111, 112, 113, 114, 115, 116, 117]) (q + 30) Q 142 [some (mR 69), some (mI f), some (mI nn), some (mI mm), some (mI ((n : Nat) : Int)), none] [] (gs (gs H 64 70 (H 116 (Int.toNat ((n : Nat) : Int)))) 64 71 (H 117 (Int.toNat ((n : Nat) : Int)))) from ?_)
            refine w2_vc [64, 131, 142, 145] 400 oo_X12 q_X12_finds ?_
            refine (show W2 o_X12 M_X12_finds (inN [64, 104, 105, 106, 107, 108, 109, 110, 111, 112, 113, 114, 115, 116, 117]) (q + 30) Q 145 [some (mR 69), some (mI f), some (mI nn), some (mI mm), some (mI ((n : Nat) : Int)), some (mI 0)] [] (gs (gs H 64 70 (H 116 (Int.toNat ((n : Nat) : Int)))) 64 71 (H 117 (Int.toNat ((n : Nat) : Int)))) from ?_)
            exact h2 (by omega)
set_option maxHeartbeats 8000000 in
theorem fi_145 {q n b : Nat} {H : mG} {f nn mm : Int} {Q : Option mV → mG → Prop} (hn9 : n ≤ 9) (h44 : H 64 44 = (n : Int)) {j : Nat} (hj : j ≤ n) (h1 : n ≤ j → W2 o_X12 M_X12_finds (inN [64, 104, 105, 106, 107, 108, 109, 110, 111, 112, 113, 114, 115, 116, 117]) (q + 30) Q 64 [some (mR 69), some (mI f), some (mI nn), some (mI mm), some (mI (w32 (((n : Nat) : Int) + (-1)))), none] [] H) (h2 : j < n → W2 o_X12 M_X12_finds (inN [64, 104, 105, 106, 107, 108, 109, 110, 111, 112, 113, 114, 115, 116, 117]) (q + 30) Q 145 [some (mR 69), some (mI f), some (mI nn), some (mI mm), some (mI ((n : Nat) : Int)), some (mI ((j + 1 : Nat) : Int))] [] (gs H 113 (Int.toNat ((j : Nat) : Int)) (H 112 (Int.toNat ((j : Nat) : Int))))) : W2 o_X12 M_X12_finds (inN [64, 104, 105, 106, 107, 108, 109, 110, 111, 112, 113, 114, 115, 116, 117]) (q + 30) Q 145 [some (mR 69), some (mI f), some (mI nn), some (mI mm), some (mI ((n : Nat) : Int)), some (mI ((j : Nat) : Int))] [] H := by
  refine w2_vc [64, 145, 168] 400 oo_X12 q_X12_finds ?_
  refine ⟨fun (c1 : (H 64 44) ≤ ((j : Nat) : Int)) => ?_, fun (c1 : ((j : Nat) : Int) < (H 64 44)) => ?_⟩
  · skip
    refine (show W2 o_X12 M_X12_finds (inN [64, 104, 105, 106, 107, 108, 109, 110, 111, 112, 113, 114, 115, 116, 117]) (q + 30) Q 64 [some (mR 69), some (mI f), some (mI nn), some (mI mm), some (mI (w32 (((n : Nat) : Int) + (-1)))), some (mI ((j : Nat) : Int))] [] H from ?_)
    refine WP.fg (L' := [some (mR 69), some (mI f), some (mI nn), some (mI mm), some (mI (w32 (((n : Nat) : Int) + (-1)))), none]) ⟨rfl, rfl, rfl, rfl, rfl, trivial⟩ ?_
    exact h1 (by omega)
  · skip
    refine ⟨(show 0 ≤ ((j : Nat) : Int) ∧ ((j : Nat) : Int) < ((9 : Nat) : Int) from by first | omega | (simp (disch := omega) only [w32_i]; omega)), ?_⟩
    refine ⟨(show 0 ≤ ((j : Nat) : Int) ∧ ((j : Nat) : Int) < ((9 : Nat) : Int) from by first | omega | (simp (disch := omega) only [w32_i]; omega)), ?_⟩
    refine (show W2 o_X12 M_X12_finds (inN [64, 104, 105, 106, 107, 108, 109, 110, 111, 112, 113, 114, 115, 116, 117]) (q + 30) Q 168 [some (mR 69), some (mI f), some (mI nn), some (mI mm), some (mI ((n : Nat) : Int)), some (mI ((j : Nat) : Int))] [] (gs H 113 (Int.toNat ((j : Nat) : Int)) (H 112 (Int.toNat ((j : Nat) : Int)))) from ?_)
    refine w2_vc [64, 145, 168] 400 oo_X12 q_X12_finds ?_
    refine (show W2 o_X12 M_X12_finds (inN [64, 104, 105, 106, 107, 108, 109, 110, 111, 112, 113, 114, 115, 116, 117]) (q + 30) Q 145 [some (mR 69), some (mI f), some (mI nn), some (mI mm), some (mI ((n : Nat) : Int)), some (mI (w32 (((j : Nat) : Int) + 1)))] [] (gs H 113 (Int.toNat ((j : Nat) : Int)) (H 112 (Int.toNat ((j : Nat) : Int)))) from ?_)
    rw [w32_nat (by omega)]
    exact h2 (by omega)
