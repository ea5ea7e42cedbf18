/-! ===== printed by wip/whole/gen43.py: the reference lists: one turn of each of its loops ===== -/
set_option maxHeartbeats 8000000 in
theorem li_2 {q : Nat} {H : mG} {f nf : Int} {Q : Option mV → mG → Prop} {j : Nat} (hj : j ≤ 64) (h1 : 64 ≤ j → W2 o_X12 M_X12_lists (inN [106, 107, 108, 109, 110, 115]) (q + 25) Q 29 [some (mR 69), some (mI f), some (mI nf), some (mI (w32 (40 * (H 64 18)))), none, none] [] H) (h2 : j < 64 → W2 o_X12 M_X12_lists (inN [106, 107, 108, 109, 110, 115]) (q + 25) Q 2 [some (mR 69), some (mI f), some (mI nf), some (mI ((j + 1 : Nat) : Int)), none, none] [] (gs H 110 (Int.toNat ((j : Nat) : Int)) 0)) : W2 o_X12 M_X12_lists (inN [106, 107, 108, 109, 110, 115]) (q + 25) Q 2 [some (mR 69), some (mI f), some (mI nf), some (mI ((j : Nat) : Int)), none, none] [] H := by
  refine w2_vc [2, 15, 29] 400 oo_X12 q_X12_lists ?_
  refine ⟨fun (c1 : 64 ≤ ((j : Nat) : Int)) => ?_, fun (c1 : ((j : Nat) : Int) < 64) => ?_⟩
  · skip
    refine (show W2 o_X12 M_X12_lists (inN [106, 107, 108, 109, 110, 115]) (q + 25) Q 29 [some (mR 69), some (mI f), some (mI nf), some (mI (w32 (40 * (H 64 18)))), none, none] [] H from ?_)
    exact h1 (by omega)
  · skip
    refine ⟨(show 0 ≤ ((j : Nat) : Int) ∧ ((j : Nat) : Int) < ((64 : Nat) : Int) from by first | omega | (simp (disch := omega) only [w32_i]; omega)), by omega, ?_⟩
    refine (show W2 o_X12 M_X12_lists (inN [106, 107, 108, 109, 110, 115]) (q + 25) Q 15 [some (mR 69), some (mI f), some (mI nf), some (mI ((j : Nat) : Int)), none, none] [] (gs H 110 (Int.toNat ((j : Nat) : Int)) 0) from ?_)
    refine w2_vc [2, 15, 29] 400 oo_X12 q_X12_lists ?_
    refine (show W2 o_X12 M_X12_lists (inN [106, 107, 108, 109, 110, 115]) (q + 25) Q 2 [some (mR 69), some (mI f), some (mI nf), some (mI (w32 (((j : Nat) : Int) + 1))), none, none] [] (gs H 110 (Int.toNat ((j : Nat) : Int)) 0) from ?_)
    rw [w32_nat (by omega)]
    exact h2 (by omega)
set_option maxHeartbeats 8000000 in
theorem li_29 {q : Nat} {H : mG} {f nf : Int} {Q : Option mV → mG → Prop} {j e : Nat} (hlv : 0 ≤ H 64 18 ∧ H 64 18 ≤ 1) (he : (w32 ((w32 (40 * (H 64 18))) + (H 76 (Int.toNat (H 64 18))))) = (e : Int)) (he80 : e ≤ 80) (hx : ¬ H 77 (Int.toNat ((j : Nat) : Int)) = 2 ∨ (0 ≤ (w32 ((w32 (8 * (H 78 (Int.toNat ((j : Nat) : Int))))) + (H 79 (Int.toNat ((j : Nat) : Int))))) ∧ (w32 ((w32 (8 * (H 78 (Int.toNat ((j : Nat) : Int))))) + (H 79 (Int.toNat ((j : Nat) : Int))))) < 64 ∧ 0 ≤ (w32 ((w32 (8 * (H 79 (Int.toNat ((j : Nat) : Int))))) + (H 78 (Int.toNat ((j : Nat) : Int))))) ∧ (w32 ((w32 (8 * (H 79 (Int.toNat ((j : Nat) : Int))))) + (H 78 (Int.toNat ((j : Nat) : Int))))) < 64)) (h1 : e ≤ j → W2 o_X12 M_X12_lists (inN [106, 107, 108, 109, 110, 115]) (q + 25) Q 115 [some (mR 69), some (mI f), some (mI nf), some (mI 0), none, none] [] H) (h2 : j < e → ¬ H 77 (Int.toNat ((j : Nat) : Int)) = 2 → W2 o_X12 M_X12_lists (inN [106, 107, 108, 109, 110, 115]) (q + 25) Q 29 [some (mR 69), some (mI f), some (mI nf), some (mI ((j + 1 : Nat) : Int)), none, none] [] H) (h3 : j < e → H 77 (Int.toNat ((j : Nat) : Int)) = 2 → W2 o_X12 M_X12_lists (inN [106, 107, 108, 109, 110, 115]) (q + 25) Q 29 [some (mR 69), some (mI f), some (mI nf), some (mI ((j + 1 : Nat) : Int)), none, none] [] (gs (gs H 110 (Int.toNat (w32 ((w32 (8 * (H 78 (Int.toNat ((j : Nat) : Int))))) + (H 79 (Int.toNat ((j : Nat) : Int)))))) 1) 110 (Int.toNat (w32 ((w32 (8 * (H 79 (Int.toNat ((j : Nat) : Int))))) + (H 78 (Int.toNat ((j : Nat) : Int)))))) 1)) : W2 o_X12 M_X12_lists (inN [106, 107, 108, 109, 110, 115]) (q + 25) Q 29 [some (mR 69), some (mI f), some (mI nf), some (mI ((j : Nat) : Int)), none, none] [] H := by
  refine w2_vc [29, 85, 97, 104, 107, 115] 400 oo_X12 q_X12_lists ?_
  refine ⟨(show 0 ≤ (H 64 18) ∧ (H 64 18) < ((2 : Nat) : Int) from by first | omega | (simp (disch := omega) only [w32_i]; omega)), ?_⟩
  refine ⟨fun (c1 : (w32 ((w32 (40 * (H 64 18))) + (H 76 (Int.toNat (H 64 18))))) ≤ ((j : Nat) : Int)) => ?_, fun (c1 : ((j : Nat) : Int) < (w32 ((w32 (40 * (H 64 18))) + (H 76 (Int.toNat (H 64 18)))))) => ?_⟩
  · skip
    refine (show W2 o_X12 M_X12_lists (inN [106, 107, 108, 109, 110, 115]) (q + 25) Q 115 [some (mR 69), some (mI f), some (mI nf), some (mI 0), none, none] [] H from ?_)
    exact h1 (by omega)
  · skip
    refine ⟨(show 0 ≤ ((j : Nat) : Int) ∧ ((j : Nat) : Int) < ((80 : Nat) : Int) from by first | omega | (simp (disch := omega) only [w32_i]; omega)), ?_⟩
    refine ⟨fun (c2 : (H 77 (Int.toNat ((j : Nat) : Int))) = 2) => ?_, fun (c2 : ¬ (H 77 (Int.toNat ((j : Nat) : Int))) = 2) => ?_⟩
    · skip
      refine ⟨(show 0 ≤ ((j : Nat) : Int) ∧ ((j : Nat) : Int) < ((80 : Nat) : Int) from by first | omega | (simp (disch := omega) only [w32_i]; omega)), ?_⟩
      refine ⟨(show 0 ≤ ((j : Nat) : Int) ∧ ((j : Nat) : Int) < ((80 : Nat) : Int) from by first | omega | (simp (disch := omega) only [w32_i]; omega)), ?_⟩
      refine ⟨(show 0 ≤ (w32 ((w32 (8 * (H 78 (Int.toNat ((j : Nat) : Int))))) + (H 79 (Int.toNat ((j : Nat) : Int))))) ∧ (w32 ((w32 (8 * (H 78 (Int.toNat ((j : Nat) : Int))))) + (H 79 (Int.toNat ((j : Nat) : Int))))) < ((64 : Nat) : Int) from by first | omega | (rw [show (w32 ((w32 (8 * (H 78 (Int.toNat ((j : Nat) : Int))))) + (H 79 (Int.toNat ((j : Nat) : Int))))) = (8 * (H 78 (Int.toNat ((j : Nat) : Int)))) + (H 79 (Int.toNat ((j : Nat) : Int))) from by rw [w32_i (x := (8 * (H 78 (Int.toNat ((j : Nat) : Int))))) (by omega) (by omega), w32_i (x := (8 * (H 78 (Int.toNat ((j : Nat) : Int)))) + (H 79 (Int.toNat ((j : Nat) : Int)))) (by omega) (by omega)]]; omega) | (simp (disch := omega) only [w32_i]; omega)), by omega, ?_⟩
      refine (show W2 o_X12 M_X12_lists (inN [106, 107, 108, 109, 110, 115]) (q + 25) Q 85 [some (mR 69), some (mI f), some (mI nf), some (mI ((j : Nat) : Int)), none, none] [] (gs H 110 (Int.toNat (w32 ((w32 (8 * (H 78 (Int.toNat ((j : Nat) : Int))))) + (H 79 (Int.toNat ((j : Nat) : Int)))))) 1) from ?_)
      refine w2_vc [29, 85, 97, 104, 107, 115] 400 oo_X12 q_X12_lists ?_
      refine ⟨(show 0 ≤ ((j : Nat) : Int) ∧ ((j : Nat) : Int) < ((80 : Nat) : Int) from by first | omega | (simp (disch := omega) only [w32_i]; omega)), ?_⟩
      refine (show W2 o_X12 M_X12_lists (inN [106, 107, 108, 109, 110, 115]) (q + 25) Q 97 [some (mR 69), some (mI f), some (mI nf), some (mI ((j : Nat) : Int)), none, none] [mI (H 79 (Int.toNat ((j : Nat) : Int))), mI 8, mR 115] (gs H 110 (Int.toNat (w32 ((w32 (8 * (H 78 (Int.toNat ((j : Nat) : Int))))) + (H 79 (Int.toNat ((j : Nat) : Int)))))) 1) from ?_)
      refine w2_vc [29, 85, 97, 104, 107, 115] 400 oo_X12 q_X12_lists ?_
      refine ⟨(show 0 ≤ ((j : Nat) : Int) ∧ ((j : Nat) : Int) < ((80 : Nat) : Int) from by first | omega | (simp (disch := omega) only [w32_i]; omega)), ?_⟩
      refine (show W2 o_X12 M_X12_lists (inN [106, 107, 108, 109, 110, 115]) (q + 25) Q 104 [some (mR 69), some (mI f), some (mI nf), some (mI ((j : Nat) : Int)), none, none] [mI (H 78 (Int.toNat ((j : Nat) : Int))), mI (w32 (8 * (H 79 (Int.toNat ((j : Nat) : Int))))), mR 115] (gs H 110 (Int.toNat (w32 ((w32 (8 * (H 78 (Int.toNat ((j : Nat) : Int))))) + (H 79 (Int.toNat ((j : Nat) : Int)))))) 1) from ?_)
      refine w2_vc [29, 85, 97, 104, 107, 115] 400 oo_X12 q_X12_lists ?_
      refine ⟨(show 0 ≤ (w32 ((w32 (8 * (H 79 (Int.toNat ((j : Nat) : Int))))) + (H 78 (Int.toNat ((j : Nat) : Int))))) ∧ (w32 ((w32 (8 * (H 79 (Int.toNat ((j : Nat) : Int))))) + (H 78 (Int.toNat ((j : Nat) : Int))))) < ((64 : Nat) : Int) from by first | omega | (rw [show (w32 ((w32 (8 * (H 79 (Int.toNat ((j : Nat) : Int))))) + (H 78 (Int.toNat ((j : Nat) : Int))))) = (8 * (H 79 (Int.toNat ((j : Nat) : Int)))) + (H 78 (Int.toNat ((j : Nat) : Int))) from by rw [w32_i (x := (8 * (H 79 (Int.toNat ((j : Nat) : Int))))) (by omega) (by omega), w32_i (x := (8 * (H 79 (Int.toNat ((j : Nat) : Int)))) + (H 78 (Int.toNat ((j : Nat) : Int)))) (by omega) (by omega)]]; omega) | (simp (disch := omega) only [w32_i]; omega)), by omega, ?_⟩
      refine (show W2 o_X12 M_X12_lists (inN [106, 107, 108, 109, 110, 115]) (q + 25) Q 107 [some (mR 69), some (mI f), some (mI nf), some (mI ((j : Nat) : Int)), none, none] [] (gs (gs H 110 (Int.toNat (w32 ((w32 (8 * (H 78 (Int.toNat ((j : Nat) : Int))))) + (H 79 (Int.toNat ((j : Nat) : Int)))))) 1) 110 (Int.toNat (w32 ((w32 (8 * (H 79 (Int.toNat ((j : Nat) : Int))))) + (H 78 (Int.toNat ((j : Nat) : Int)))))) 1) from ?_)
      refine w2_vc [29, 85, 97, 104, 107, 115] 400 oo_X12 q_X12_lists ?_
      refine (show W2 o_X12 M_X12_lists (inN [106, 107, 108, 109, 110, 115]) (q + 25) Q 29 [some (mR 69), some (mI f), some (mI nf), some (mI (w32 (((j : Nat) : Int) + 1))), none, none] [] (gs (gs H 110 (Int.toNat (w32 ((w32 (8 * (H 78 (Int.toNat ((j : Nat) : Int))))) + (H 79 (Int.toNat ((j : Nat) : Int)))))) 1) 110 (Int.toNat (w32 ((w32 (8 * (H 79 (Int.toNat ((j : Nat) : Int))))) + (H 78 (Int.toNat ((j : Nat) : Int)))))) 1) from ?_)
      rw [w32_nat (by omega)]
      exact h3 (by omega) c2
    · skip
      refine (show W2 o_X12 M_X12_lists (inN [106, 107, 108, 109, 110, 115]) (q + 25) Q 107 [some (mR 69), some (mI f), some (mI nf), some (mI ((j : Nat) : Int)), none, none] [] H from ?_)
      refine w2_vc [29, 85, 97, 104, 107, 115] 400 oo_X12 q_X12_lists ?_
      refine (show W2 o_X12 M_X12_lists (inN [106, 107, 108, 109, 110, 115]) (q + 25) Q 29 [some (mR 69), some (mI f), some (mI nf), some (mI (w32 (((j : Nat) : Int) + 1))), none, none] [] H from ?_)
      rw [w32_nat (by omega)]
      exact h2 (by omega) c2
set_option maxHeartbeats 8000000 in
theorem li_29x {q : Nat} {H : mG} {f nf : Int} {Q : Option mV → mG → Prop} {j e : Nat} (hlv : 0 ≤ H 64 18 ∧ H 64 18 ≤ 1) (he : (w32 ((w32 (40 * (H 64 18))) + (H 76 (Int.toNat (H 64 18))))) = (e : Int)) (he80 : e ≤ 80) (hj : e ≤ j) (h : W2 o_X12 M_X12_lists (inN [106, 107, 108, 109, 110, 115]) (q + 25) Q 115 [some (mR 69), some (mI f), some (mI nf), some (mI 0), none, none] [] H) : W2 o_X12 M_X12_lists (inN [106, 107, 108, 109, 110, 115]) (q + 25) Q 29 [some (mR 69), some (mI f), some (mI nf), some (mI ((j : Nat) : Int)), none, none] [] H := by
  refine w2_vc [115] 400 oo_X12 q_X12_lists ?_
  refine ⟨(show 0 ≤ (H 64 18) ∧ (H 64 18) < ((2 : Nat) : Int) from by first | omega | (simp (disch := omega) only [w32_i]; omega)), ?_⟩
  refine ⟨fun (c1 : (w32 ((w32 (40 * (H 64 18))) + (H 76 (Int.toNat (H 64 18))))) ≤ ((j : Nat) : Int)) => ?_, fun (c1 : ((j : Nat) : Int) < (w32 ((w32 (40 * (H 64 18))) + (H 76 (Int.toNat (H 64 18)))))) => ?_⟩
  · skip
    refine (show W2 o_X12 M_X12_lists (inN [106, 107, 108, 109, 110, 115]) (q + 25) Q 115 [some (mR 69), some (mI f), some (mI nf), some (mI 0), none, none] [] H from ?_)
    exact h
  · skip
    exfalso; first | omega | (rw [w32_i (by omega) (by omega)] at c1; omega) | (simp (disch := omega) only [w32_i] at *; omega)
set_option maxHeartbeats 8000000 in
theorem li_115 {q : Nat} {H : mG} {f nf : Int} {Q : Option mV → mG → Prop} {b n : Nat} (hn9 : n ≤ 9) (h44 : H 64 44 = (n : Int)) (hk : 0 ≤ nf ∧ nf ≤ 300) (h1 : n ≤ b → W2 o_X12 M_X12_lists (inN [106, 107, 108, 109, 110, 115]) (q + 25) Q 289 [some (mR 69), some (mI f), some (mI nf), some (mI (w32 ((H 64 44) - 1))), none, none] [] (gs H 115 (Int.toNat (H 64 44)) 0)) (h2 : b < n → f_X12_isLost (gs H 108 (Int.toNat ((b : Nat) : Int)) 0) ((b : Nat) : Int) f nf = 0 → W2 o_X12 M_X12_lists (inN [106, 107, 108, 109, 110, 115]) (q + 25) Q 146 [some (mR 69), some (mI f), some (mI nf), some (mI ((b : Nat) : Int)), some (mI 0), none] [] (gs H 108 (Int.toNat ((b : Nat) : Int)) 0)) (h3 : b < n → ¬ f_X12_isLost (gs H 108 (Int.toNat ((b : Nat) : Int)) 0) ((b : Nat) : Int) f nf = 0 → W2 o_X12 M_X12_lists (inN [106, 107, 108, 109, 110, 115]) (q + 25) Q 115 [some (mR 69), some (mI f), some (mI nf), some (mI ((b + 1 : Nat) : Int)), none, none] [] (gs H 108 (Int.toNat ((b : Nat) : Int)) 0)) : W2 o_X12 M_X12_lists (inN [106, 107, 108, 109, 110, 115]) (q + 25) Q 115 [some (mR 69), some (mI f), some (mI nf), some (mI ((b : Nat) : Int)), none, none] [] H := by
  refine w2_vc [115, 130, 146, 282, 289] 400 oo_X12 q_X12_lists ?_
  refine ⟨fun (c1 : (H 64 44) ≤ ((b : Nat) : Int)) => ?_, fun (c1 : ((b : Nat) : Int) < (H 64 44)) => ?_⟩
  · skip
    refine ⟨(show 0 ≤ (H 64 44) ∧ (H 64 44) < ((10 : Nat) : Int) from by first | omega | (simp (disch := omega) only [w32_i]; omega)), ?_⟩
    refine (show W2 o_X12 M_X12_lists (inN [106, 107, 108, 109, 110, 115]) (q + 25) Q 282 [some (mR 69), some (mI f), some (mI nf), some (mI ((b : Nat) : Int)), none, none] [] (gs H 115 (Int.toNat (H 64 44)) 0) from ?_)
    refine w2_vc [115, 130, 146, 282, 289] 400 oo_X12 q_X12_lists ?_
    refine (show W2 o_X12 M_X12_lists (inN [106, 107, 108, 109, 110, 115]) (q + 25) Q 289 [some (mR 69), some (mI f), some (mI nf), some (mI (w32 ((H 64 44) - 1))), none, none] [] (gs H 115 (Int.toNat (H 64 44)) 0) from ?_)
    exact h1 (by omega)
  · skip
    refine ⟨(show 0 ≤ ((b : Nat) : Int) ∧ ((b : Nat) : Int) < ((9 : Nat) : Int) from by first | omega | (simp (disch := omega) only [w32_i]; omega)), ?_⟩
    refine (show W2 o_X12 M_X12_lists (inN [106, 107, 108, 109, 110, 115]) (q + 25) Q 130 [some (mR 69), some (mI f), some (mI nf), some (mI ((b : Nat) : Int)), none, none] [] (gs H 108 (Int.toNat ((b : Nat) : Int)) 0) from ?_)
    refine w2_vc [115, 130, 146, 282, 289] 400 oo_X12 q_X12_lists ?_
    refine sp_X12_isLost (hk) ?_
    refine ⟨fun (c3 : (f_X12_isLost (gs H 108 (Int.toNat ((b : Nat) : Int)) 0) ((b : Nat) : Int) f nf) = 0) => ?_, fun (c3 : ¬ (f_X12_isLost (gs H 108 (Int.toNat ((b : Nat) : Int)) 0) ((b : Nat) : Int) f nf) = 0) => ?_⟩
    · skip
      refine (show W2 o_X12 M_X12_lists (inN [106, 107, 108, 109, 110, 115]) (q + 25) Q 146 [some (mR 69), some (mI f), some (mI nf), some (mI ((b : Nat) : Int)), some (mI 0), none] [] (gs H 108 (Int.toNat ((b : Nat) : Int)) 0) from ?_)
      exact h2 (by omega) c3
    · skip
      refine (show W2 o_X12 M_X12_lists (inN [106, 107, 108, 109, 110, 115]) (q + 25) Q 115 [some (mR 69), some (mI f), some (mI nf), some (mI (w32 (((b : Nat) : Int) + 1))), none, none] [] (gs H 108 (Int.toNat ((b : Nat) : Int)) 0) from ?_)
      rw [w32_nat (by omega)]
      exact h3 (by omega) c3
set_option maxHeartbeats 8000000 in
theorem li_146 {q : Nat} {H : mG} {f nf : Int} {Q : Option mV → mG → Prop} {b c kk n nk : Nat} {bv : Int} (hn9 : n ≤ 9) (hb : b < n) (hlv : 0 ≤ H 64 18 ∧ H 64 18 ≤ 1) (hn : (nk : Int) = H 76 (H 64 18).toNat) (h40 : nk ≤ 40) (hRW : rW H) (hc : c ≤ nk) (hkk : (w32 ((w32 (40 * (H 64 18))) + ((c : Nat) : Int))) = ((kk : Nat) : Int)) (hk80 : kk < 80) (h78 : 0 ≤ H 78 (Int.toNat ((kk : Nat) : Int)) ∧ H 78 (Int.toNat ((kk : Nat) : Int)) < 8) (h108 : 0 ≤ H 108 (Int.toNat ((b : Nat) : Int)) ∧ H 108 (Int.toNat ((b : Nat) : Int)) < 40) (hbv : fs (pR (e_X12_asksBoard H ((b : Nat) : Int)) 1 ((b : Nat) : Int) (H 78 (Int.toNat ((kk : Nat) : Int)))) nk = bv) (h1 : nk ≤ c → W2 o_X12 M_X12_lists (inN [106, 107, 108, 109, 110, 115]) (q + 25) Q 115 [some (mR 69), some (mI f), some (mI nf), some (mI ((b + 1 : Nat) : Int)), none, none] [] H) (h2 : c < nk → (¬ H 77 (Int.toNat ((kk : Nat) : Int)) = 0 ∨ f_X12_isForce H (H 78 (Int.toNat ((kk : Nat) : Int))) f = 0 ∨ ¬ H 80 (Int.toNat ((kk : Nat) : Int)) = H 94 (Int.toNat ((b : Nat) : Int))) → W2 o_X12 M_X12_lists (inN [106, 107, 108, 109, 110, 115]) (q + 25) Q 146 [some (mR 69), some (mI f), some (mI nf), some (mI ((b : Nat) : Int)), some (mI ((c + 1 : Nat) : Int)), none] [] H) (h3 : c < nk → H 77 (Int.toNat ((kk : Nat) : Int)) = 0 → ¬ f_X12_isForce H (H 78 (Int.toNat ((kk : Nat) : Int))) f = 0 → H 80 (Int.toNat ((kk : Nat) : Int)) = H 94 (Int.toNat ((b : Nat) : Int)) → ¬ bv = -1 → ∀ H2 : mG, (∀ k, k ≠ 106 → k ≠ 107 → H2 k = H k) → W2 o_X12 M_X12_lists (inN [106, 107, 108, 109, 110, 115]) (q + 25) Q 146 [some (mR 69), some (mI f), some (mI nf), some (mI ((b : Nat) : Int)), some (mI ((c + 1 : Nat) : Int)), none] [] H2) (h4 : c < nk → H 77 (Int.toNat ((kk : Nat) : Int)) = 0 → ¬ f_X12_isForce H (H 78 (Int.toNat ((kk : Nat) : Int))) f = 0 → H 80 (Int.toNat ((kk : Nat) : Int)) = H 94 (Int.toNat ((b : Nat) : Int)) → bv = -1 → ∀ H2 : mG, (∀ k, k ≠ 106 → k ≠ 107 → H2 k = H k) → W2 o_X12 M_X12_lists (inN [106, 107, 108, 109, 110, 115]) (q + 25) Q 146 [some (mR 69), some (mI f), some (mI nf), some (mI ((b : Nat) : Int)), some (mI ((c + 1 : Nat) : Int)), none] [] (gs (gs H2 109 (Int.toNat (w32 ((w32 (40 * ((b : Nat) : Int))) + (H2 108 (Int.toNat ((b : Nat) : Int)))))) ((c : Nat) : Int)) 108 (Int.toNat ((b : Nat) : Int)) (w32 ((H2 108 (Int.toNat ((b : Nat) : Int))) + 1)))) : W2 o_X12 M_X12_lists (inN [106, 107, 108, 109, 110, 115]) (q + 25) Q 146 [some (mR 69), some (mI f), some (mI nf), some (mI ((b : Nat) : Int)), some (mI ((c : Nat) : Int)), none] [] H := by
  refine w2_vc [115, 146, 172, 225, 250, 257, 260] 400 oo_X12 q_X12_lists ?_
  refine ⟨(show 0 ≤ (H 64 18) ∧ (H 64 18) < ((2 : Nat) : Int) from by first | omega | (simp (disch := omega) only [w32_i]; omega)), ?_⟩
  refine ⟨fun (c1 : (H 76 (Int.toNat (H 64 18))) ≤ ((c : Nat) : Int)) => ?_, fun (c1 : ((c : Nat) : Int) < (H 76 (Int.toNat (H 64 18)))) => ?_⟩
  · skip
    refine (show W2 o_X12 M_X12_lists (inN [106, 107, 108, 109, 110, 115]) (q + 25) Q 115 [some (mR 69), some (mI f), some (mI nf), some (mI (w32 (((b : Nat) : Int) + 1))), some (mI ((c : Nat) : Int)), none] [] H from ?_)
    refine WP.fg (L' := [some (mR 69), some (mI f), some (mI nf), some (mI (w32 (((b : Nat) : Int) + 1))), none, none]) ⟨rfl, rfl, rfl, rfl, trivial⟩ ?_
    rw [w32_nat (by omega)]
    exact h1 (by omega)
  · skip
    refine (show W2 o_X12 M_X12_lists (inN [106, 107, 108, 109, 110, 115]) (q + 25) Q 172 [some (mR 69), some (mI f), some (mI nf), some (mI ((b : Nat) : Int)), some (mI ((c : Nat) : Int)), some (mI (w32 ((w32 (40 * (H 64 18))) + ((c : Nat) : Int))))] [] H from ?_)
    rw [hkk]
    refine (show W2 o_X12 M_X12_lists (inN [106, 107, 108, 109, 110, 115]) (q + 25) Q 172 [some (mR 69), some (mI f), some (mI nf), some (mI ((b : Nat) : Int)), some (mI ((c : Nat) : Int)), some (mI ((kk : Nat) : Int))] [] H from ?_)
    refine w2_vc [115, 146, 172, 225, 250, 257, 260] 400 oo_X12 q_X12_lists ?_
    refine ⟨(show 0 ≤ ((kk : Nat) : Int) ∧ ((kk : Nat) : Int) < ((80 : Nat) : Int) from by first | omega | (simp (disch := omega) only [w32_i]; omega)), ?_⟩
    refine ⟨fun (c2 : ¬ (H 77 (Int.toNat ((kk : Nat) : Int))) = 0) => ?_, fun (c2 : (H 77 (Int.toNat ((kk : Nat) : Int))) = 0) => ?_⟩
    · skip
      refine (show W2 o_X12 M_X12_lists (inN [106, 107, 108, 109, 110, 115]) (q + 25) Q 260 [some (mR 69), some (mI f), some (mI nf), some (mI ((b : Nat) : Int)), some (mI ((c : Nat) : Int)), some (mI ((kk : Nat) : Int))] [] H from ?_)
      refine w2_vc [115, 146, 172, 225, 250, 257, 260] 400 oo_X12 q_X12_lists ?_
      refine (show W2 o_X12 M_X12_lists (inN [106, 107, 108, 109, 110, 115]) (q + 25) Q 146 [some (mR 69), some (mI f), some (mI nf), some (mI ((b : Nat) : Int)), some (mI (w32 (((c : Nat) : Int) + 1))), some (mI ((kk : Nat) : Int))] [] H from ?_)
      refine WP.fg (L' := [some (mR 69), some (mI f), some (mI nf), some (mI ((b : Nat) : Int)), some (mI (w32 (((c : Nat) : Int) + 1))), none]) ⟨rfl, rfl, rfl, rfl, rfl, trivial⟩ ?_
      rw [w32_nat (by omega)]
      exact h2 (by omega) (Or.inl c2)
    · skip
      refine ⟨(show 0 ≤ ((kk : Nat) : Int) ∧ ((kk : Nat) : Int) < ((80 : Nat) : Int) from by first | omega | (simp (disch := omega) only [w32_i]; omega)), ?_⟩
      have c3 := h78
      refine sp_X12_isForce (x := (H 78 (Int.toNat ((kk : Nat) : Int)))) (hlv) (by omega) ?_
      refine ⟨fun (c5 : (f_X12_isForce H (H 78 (Int.toNat ((kk : Nat) : Int))) f) = 0) => ?_, fun (c5 : ¬ (f_X12_isForce H (H 78 (Int.toNat ((kk : Nat) : Int))) f) = 0) => ?_⟩
      · skip
        refine (show W2 o_X12 M_X12_lists (inN [106, 107, 108, 109, 110, 115]) (q + 25) Q 260 [some (mR 69), some (mI f), some (mI nf), some (mI ((b : Nat) : Int)), some (mI ((c : Nat) : Int)), some (mI ((kk : Nat) : Int))] [] H from ?_)
        refine w2_vc [115, 146, 172, 225, 250, 257, 260] 400 oo_X12 q_X12_lists ?_
        refine (show W2 o_X12 M_X12_lists (inN [106, 107, 108, 109, 110, 115]) (q + 25) Q 146 [some (mR 69), some (mI f), some (mI nf), some (mI ((b : Nat) : Int)), some (mI (w32 (((c : Nat) : Int) + 1))), some (mI ((kk : Nat) : Int))] [] H from ?_)
        refine WP.fg (L' := [some (mR 69), some (mI f), some (mI nf), some (mI ((b : Nat) : Int)), some (mI (w32 (((c : Nat) : Int) + 1))), none]) ⟨rfl, rfl, rfl, rfl, rfl, trivial⟩ ?_
        rw [w32_nat (by omega)]
        exact h2 (by omega) (Or.inr (Or.inl c5))
      · skip
        refine ⟨(show 0 ≤ ((kk : Nat) : Int) ∧ ((kk : Nat) : Int) < ((80 : Nat) : Int) from by first | omega | (simp (disch := omega) only [w32_i]; omega)), ?_⟩
        refine ⟨(show 0 ≤ ((b : Nat) : Int) ∧ ((b : Nat) : Int) < ((9 : Nat) : Int) from by first | omega | (simp (disch := omega) only [w32_i]; omega)), ?_⟩
        refine ⟨fun (c6 : ¬ (H 80 (Int.toNat ((kk : Nat) : Int))) = (H 94 (Int.toNat ((b : Nat) : Int)))) => ?_, fun (c6 : (H 80 (Int.toNat ((kk : Nat) : Int))) = (H 94 (Int.toNat ((b : Nat) : Int)))) => ?_⟩
        · skip
          refine (show W2 o_X12 M_X12_lists (inN [106, 107, 108, 109, 110, 115]) (q + 25) Q 260 [some (mR 69), some (mI f), some (mI nf), some (mI ((b : Nat) : Int)), some (mI ((c : Nat) : Int)), some (mI ((kk : Nat) : Int))] [] H from ?_)
          refine w2_vc [115, 146, 172, 225, 250, 257, 260] 400 oo_X12 q_X12_lists ?_
          refine (show W2 o_X12 M_X12_lists (inN [106, 107, 108, 109, 110, 115]) (q + 25) Q 146 [some (mR 69), some (mI f), some (mI nf), some (mI ((b : Nat) : Int)), some (mI (w32 (((c : Nat) : Int) + 1))), some (mI ((kk : Nat) : Int))] [] H from ?_)
          refine WP.fg (L' := [some (mR 69), some (mI f), some (mI nf), some (mI ((b : Nat) : Int)), some (mI (w32 (((c : Nat) : Int) + 1))), none]) ⟨rfl, rfl, rfl, rfl, rfl, trivial⟩ ?_
          rw [w32_nat (by omega)]
          exact h2 (by omega) (Or.inr (Or.inr c6))
        · skip
          refine ⟨(show 0 ≤ ((kk : Nat) : Int) ∧ ((kk : Nat) : Int) < ((80 : Nat) : Int) from by first | omega | (simp (disch := omega) only [w32_i]; omega)), ?_⟩
          have c7 := h78
          refine sp_X12_barOf (b := ((b : Nat) : Int)) (x := (H 78 (Int.toNat ((kk : Nat) : Int)))) (q := q + 4) (n := nk) hlv (by omega) hn h40 hRW (insub (by decide)) (fun H2 hH2 => ?_)
          rw [hbv]
          have e108 : H2 108 (Int.toNat ((b : Nat) : Int)) = H 108 (Int.toNat ((b : Nat) : Int)) := by rw [hH2 108 (by decide) (by decide)]
          refine (show W2 o_X12 M_X12_lists (inN [106, 107, 108, 109, 110, 115]) (q + 25) Q 225 [some (mR 69), some (mI f), some (mI nf), some (mI ((b : Nat) : Int)), some (mI ((c : Nat) : Int)), some (mI ((kk : Nat) : Int))] [mI bv] H2 from ?_)
          refine w2_vc [115, 146, 172, 225, 250, 257, 260] 400 oo_X12 q_X12_lists ?_
          refine ⟨fun (c8 : bv = (-1)) => ?_, fun (c8 : ¬ bv = (-1)) => ?_⟩
          · skip
            refine ⟨(show 0 ≤ ((b : Nat) : Int) ∧ ((b : Nat) : Int) < ((9 : Nat) : Int) from by first | omega | (simp (disch := omega) only [w32_i]; omega)), ?_⟩
            refine ⟨(show 0 ≤ (w32 ((w32 (40 * ((b : Nat) : Int))) + (H2 108 (Int.toNat ((b : Nat) : Int))))) ∧ (w32 ((w32 (40 * ((b : Nat) : Int))) + (H2 108 (Int.toNat ((b : Nat) : Int))))) < ((360 : Nat) : Int) from by first | omega | (rw [show (w32 ((w32 (40 * ((b : Nat) : Int))) + (H2 108 (Int.toNat ((b : Nat) : Int))))) = (40 * ((b : Nat) : Int)) + (H2 108 (Int.toNat ((b : Nat) : Int))) from by rw [w32_i (x := (40 * ((b : Nat) : Int))) (by omega) (by omega), w32_i (x := (40 * ((b : Nat) : Int)) + (H2 108 (Int.toNat ((b : Nat) : Int)))) (by omega) (by omega)]]; omega) | (simp (disch := omega) only [w32_i]; omega)), ?_⟩
            refine (show W2 o_X12 M_X12_lists (inN [106, 107, 108, 109, 110, 115]) (q + 25) Q 250 [some (mR 69), some (mI f), some (mI nf), some (mI ((b : Nat) : Int)), some (mI ((c : Nat) : Int)), some (mI ((kk : Nat) : Int))] [] (gs H2 109 (Int.toNat (w32 ((w32 (40 * ((b : Nat) : Int))) + (H2 108 (Int.toNat ((b : Nat) : Int)))))) ((c : Nat) : Int)) from ?_)
            refine w2_vc [115, 146, 172, 225, 250, 257, 260] 400 oo_X12 q_X12_lists ?_
            refine ⟨(show 0 ≤ ((b : Nat) : Int) ∧ ((b : Nat) : Int) < ((9 : Nat) : Int) from by first | omega | (simp (disch := omega) only [w32_i]; omega)), ?_⟩
            refine (show W2 o_X12 M_X12_lists (inN [106, 107, 108, 109, 110, 115]) (q + 25) Q 257 [some (mR 69), some (mI f), some (mI nf), some (mI ((b : Nat) : Int)), some (mI ((c : Nat) : Int)), some (mI ((kk : Nat) : Int))] [mI (H2 108 (Int.toNat ((b : Nat) : Int))), mI ((b : Nat) : Int), mR 113] (gs H2 109 (Int.toNat (w32 ((w32 (40 * ((b : Nat) : Int))) + (H2 108 (Int.toNat ((b : Nat) : Int)))))) ((c : Nat) : Int)) from ?_)
            refine w2_vc [115, 146, 172, 225, 250, 257, 260] 400 oo_X12 q_X12_lists ?_
            refine ⟨(show 0 ≤ ((b : Nat) : Int) ∧ ((b : Nat) : Int) < ((9 : Nat) : Int) from by first | omega | (simp (disch := omega) only [w32_i]; omega)), ?_⟩
            refine (show W2 o_X12 M_X12_lists (inN [106, 107, 108, 109, 110, 115]) (q + 25) Q 260 [some (mR 69), some (mI f), some (mI nf), some (mI ((b : Nat) : Int)), some (mI ((c : Nat) : Int)), some (mI ((kk : Nat) : Int))] [] (gs (gs H2 109 (Int.toNat (w32 ((w32 (40 * ((b : Nat) : Int))) + (H2 108 (Int.toNat ((b : Nat) : Int)))))) ((c : Nat) : Int)) 108 (Int.toNat ((b : Nat) : Int)) (w32 ((H2 108 (Int.toNat ((b : Nat) : Int))) + 1))) from ?_)
            refine w2_vc [115, 146, 172, 225, 250, 257, 260] 400 oo_X12 q_X12_lists ?_
            refine (show W2 o_X12 M_X12_lists (inN [106, 107, 108, 109, 110, 115]) (q + 25) Q 146 [some (mR 69), some (mI f), some (mI nf), some (mI ((b : Nat) : Int)), some (mI (w32 (((c : Nat) : Int) + 1))), some (mI ((kk : Nat) : Int))] [] (gs (gs H2 109 (Int.toNat (w32 ((w32 (40 * ((b : Nat) : Int))) + (H2 108 (Int.toNat ((b : Nat) : Int)))))) ((c : Nat) : Int)) 108 (Int.toNat ((b : Nat) : Int)) (w32 ((H2 108 (Int.toNat ((b : Nat) : Int))) + 1))) from ?_)
            refine WP.fg (L' := [some (mR 69), some (mI f), some (mI nf), some (mI ((b : Nat) : Int)), some (mI (w32 (((c : Nat) : Int) + 1))), none]) ⟨rfl, rfl, rfl, rfl, rfl, trivial⟩ ?_
            rw [w32_nat (by omega)]
            exact h4 (by omega) c2 c5 c6 c8 H2 hH2
          · skip
            refine (show W2 o_X12 M_X12_lists (inN [106, 107, 108, 109, 110, 115]) (q + 25) Q 260 [some (mR 69), some (mI f), some (mI nf), some (mI ((b : Nat) : Int)), some (mI ((c : Nat) : Int)), some (mI ((kk : Nat) : Int))] [] H2 from ?_)
            refine w2_vc [115, 146, 172, 225, 250, 257, 260] 400 oo_X12 q_X12_lists ?_
            refine (show W2 o_X12 M_X12_lists (inN [106, 107, 108, 109, 110, 115]) (q + 25) Q 146 [some (mR 69), some (mI f), some (mI nf), some (mI ((b : Nat) : Int)), some (mI (w32 (((c : Nat) : Int) + 1))), some (mI ((kk : Nat) : Int))] [] H2 from ?_)
            refine WP.fg (L' := [some (mR 69), some (mI f), some (mI nf), some (mI ((b : Nat) : Int)), some (mI (w32 (((c : Nat) : Int) + 1))), none]) ⟨rfl, rfl, rfl, rfl, rfl, trivial⟩ ?_
            rw [w32_nat (by omega)]
            exact h3 (by omega) c2 c5 c6 c8 H2 hH2
set_option maxHeartbeats 8000000 in
theorem li_146x {q : Nat} {H : mG} {f nf : Int} {Q : Option mV → mG → Prop} {b c : Nat} (hb : b < 9) (hc : H 76 (Int.toNat (H 64 18)) ≤ ((c : Nat) : Int)) (hlv : 0 ≤ H 64 18 ∧ H 64 18 ≤ 1) (h : W2 o_X12 M_X12_lists (inN [106, 107, 108, 109, 110, 115]) (q + 25) Q 115 [some (mR 69), some (mI f), some (mI nf), some (mI ((b + 1 : Nat) : Int)), none, none] [] H) : W2 o_X12 M_X12_lists (inN [106, 107, 108, 109, 110, 115]) (q + 25) Q 146 [some (mR 69), some (mI f), some (mI nf), some (mI ((b : Nat) : Int)), some (mI ((c : Nat) : Int)), none] [] H := by
  refine w2_vc [115] 400 oo_X12 q_X12_lists ?_
  refine ⟨(show 0 ≤ (H 64 18) ∧ (H 64 18) < ((2 : Nat) : Int) from by first | omega | (simp (disch := omega) only [w32_i]; omega)), ?_⟩
  refine ⟨fun (c1 : (H 76 (Int.toNat (H 64 18))) ≤ ((c : Nat) : Int)) => ?_, fun (c1 : ((c : Nat) : Int) < (H 76 (Int.toNat (H 64 18)))) => ?_⟩
  · skip
    refine (show W2 o_X12 M_X12_lists (inN [106, 107, 108, 109, 110, 115]) (q + 25) Q 115 [some (mR 69), some (mI f), some (mI nf), some (mI (w32 (((b : Nat) : Int) + 1))), some (mI ((c : Nat) : Int)), none] [] H from ?_)
    refine WP.fg (L' := [some (mR 69), some (mI f), some (mI nf), some (mI (w32 (((b : Nat) : Int) + 1))), none, none]) ⟨rfl, rfl, rfl, rfl, trivial⟩ ?_
    rw [w32_nat (by omega)]
    exact h
  · skip
    exfalso; first | omega | (rw [w32_i (by omega) (by omega)] at c1; omega) | (simp (disch := omega) only [w32_i] at *; omega)
theorem li_0 {D : Nat → Bool} {q : Nat} {G : mG} {f nf : Int} {Q : Option mV → mG → Prop} (hD : ∀ k, D k = false → inN [106, 107, 108, 109, 110, 115] k = false) (h : W2 o_X12 M_X12_lists (inN [106, 107, 108, 109, 110, 115]) (q + 25) Q 2 [some (mR 69), some (mI f), some (mI nf), some (mI 0), none, none] [] G) : P2 D (q + 25) M_X12_lists [mR 69, mI f, mI nf] G Q := by
  refine MP.to (D2 := inN [106, 107, 108, 109, 110, 115]) (Q2 := Q) ?_ hD (fun v G' q _ => q)
  refine p2_vc [2] 400 oo_X12 q_X12_lists (by decide) rfl (Nat.le_of_ble_eq_true rfl) ?_
  refine (show W2 o_X12 M_X12_lists (inN [106, 107, 108, 109, 110, 115]) (q + 25) Q 2 [some (mR 69), some (mI f), some (mI nf), some (mI 0), none, none] [] G from ?_)
  exact h
set_option maxHeartbeats 8000000 in
theorem li_end {q : Nat} {H : mG} {f nf : Int} {Q : Option mV → mG → Prop} (h : Q none H) : W2 o_X12 M_X12_lists (inN [106, 107, 108, 109, 110, 115]) (q + 25) Q 289 [some (mR 69), some (mI f), some (mI nf), some (mI (-1)), none, none] [] H := by
  refine w2_vc [289, 299] 400 oo_X12 q_X12_lists ?_
  refine ⟨fun _ => ?_, fun (c : 0 ≤ ((-1) : Int)) => absurd c (by decide)⟩
  exact h
set_option maxHeartbeats 8000000 in
theorem li_289 {q : Nat} {H : mG} {f nf : Int} {Q : Option mV → mG → Prop} {b : Nat} (h : W2 o_X12 M_X12_lists (inN [106, 107, 108, 109, 110, 115]) (q + 25) Q 299 [some (mR 69), some (mI f), some (mI nf), some (mI ((b : Nat) : Int)), some (mI 0), some (mI 0)] [] H) : W2 o_X12 M_X12_lists (inN [106, 107, 108, 109, 110, 115]) (q + 25) Q 289 [some (mR 69), some (mI f), some (mI nf), some (mI ((b : Nat) : Int)), none, none] [] H := by
  refine w2_vc [299] 400 oo_X12 q_X12_lists ?_
  refine ⟨fun (c1 : ((b : Nat) : Int) < 0) => ?_, fun (c1 : 0 ≤ ((b : Nat) : Int)) => ?_⟩
  · skip
    exfalso; first | omega | (rw [w32_i (by omega) (by omega)] at c1; omega) | (simp (disch := omega) only [w32_i] at *; omega)
  · skip
    refine (show W2 o_X12 M_X12_lists (inN [106, 107, 108, 109, 110, 115]) (q + 25) Q 299 [some (mR 69), some (mI f), some (mI nf), some (mI ((b : Nat) : Int)), some (mI 0), some (mI 0)] [] H from ?_)
    exact h
set_option maxHeartbeats 8000000 in
theorem li_299 {q : Nat} {H : mG} {f nf : Int} {Q : Option mV → mG → Prop} {b i n : Nat} {mo : Int} (hn9 : n ≤ 9) (hb : b < n) (hb1 : w32 (((b : Nat) : Int) + 1) = ((b + 1 : Nat) : Int)) (h108 : H 108 (Int.toNat ((b : Nat) : Int)) ≤ 40) (hi1 : (w32 ((w32 (40 * ((b : Nat) : Int))) + ((i : Nat) : Int))) = ((40 * b + i : Nat) : Int)) (hi2 : H 108 (Int.toNat ((b : Nat) : Int)) ≤ (i : Int) ∨ (0 ≤ (w32 ((w32 (40 * (H 64 18))) + (H 109 (Int.toNat (w32 ((w32 (40 * ((b : Nat) : Int))) + ((i : Nat) : Int))))))) ∧ (w32 ((w32 (40 * (H 64 18))) + (H 109 (Int.toNat (w32 ((w32 (40 * ((b : Nat) : Int))) + ((i : Nat) : Int))))))) < 80)) (h1 : H 108 (Int.toNat ((b : Nat) : Int)) ≤ (i : Int) → W2 o_X12 M_X12_lists (inN [106, 107, 108, 109, 110, 115]) (q + 25) Q 289 [some (mR 69), some (mI f), some (mI nf), some (mI (w32 (((b : Nat) : Int) + (-1)))), none, none] [] (gs H 115 (Int.toNat ((b : Nat) : Int)) (w32 ((H 115 (Int.toNat (w32 (((b : Nat) : Int) + 1)))) + mo)))) (h2 : (i : Int) < H 108 (Int.toNat ((b : Nat) : Int)) → (H 81 (Int.toNat (w32 ((w32 (40 * (H 64 18))) + (H 109 (Int.toNat (w32 ((w32 (40 * ((b : Nat) : Int))) + ((i : Nat) : Int))))))))) ≤ mo → W2 o_X12 M_X12_lists (inN [106, 107, 108, 109, 110, 115]) (q + 25) Q 299 [some (mR 69), some (mI f), some (mI nf), some (mI ((b : Nat) : Int)), some (mI mo), some (mI ((i + 1 : Nat) : Int))] [] H) (h3 : (i : Int) < H 108 (Int.toNat ((b : Nat) : Int)) → ¬ (H 81 (Int.toNat (w32 ((w32 (40 * (H 64 18))) + (H 109 (Int.toNat (w32 ((w32 (40 * ((b : Nat) : Int))) + ((i : Nat) : Int))))))))) ≤ mo → W2 o_X12 M_X12_lists (inN [106, 107, 108, 109, 110, 115]) (q + 25) Q 299 [some (mR 69), some (mI f), some (mI nf), some (mI ((b : Nat) : Int)), some (mI (H 81 (Int.toNat (w32 ((w32 (40 * (H 64 18))) + (H 109 (Int.toNat (w32 ((w32 (40 * ((b : Nat) : Int))) + ((i : Nat) : Int)))))))))), some (mI ((i + 1 : Nat) : Int))] [] H) : W2 o_X12 M_X12_lists (inN [106, 107, 108, 109, 110, 115]) (q + 25) Q 299 [some (mR 69), some (mI f), some (mI nf), some (mI ((b : Nat) : Int)), some (mI mo), some (mI ((i : Nat) : Int))] [] H := by
  refine w2_vc [289, 299, 333, 335, 363, 365, 367, 390] 400 oo_X12 q_X12_lists ?_
  refine ⟨(show 0 ≤ ((b : Nat) : Int) ∧ ((b : Nat) : Int) < ((9 : Nat) : Int) from by first | omega | (simp (disch := omega) only [w32_i]; omega)), ?_⟩
  refine ⟨fun (c1 : (H 108 (Int.toNat ((b : Nat) : Int))) ≤ ((i : Nat) : Int)) => ?_, fun (c1 : ((i : Nat) : Int) < (H 108 (Int.toNat ((b : Nat) : Int)))) => ?_⟩
  · skip
    refine ⟨(show 0 ≤ (w32 (((b : Nat) : Int) + 1)) ∧ (w32 (((b : Nat) : Int) + 1)) < ((10 : Nat) : Int) from by first | omega | (simp (disch := omega) only [w32_i]; omega)), ?_⟩
    refine ⟨(show 0 ≤ ((b : Nat) : Int) ∧ ((b : Nat) : Int) < ((10 : Nat) : Int) from by first | omega | (simp (disch := omega) only [w32_i]; omega)), ?_⟩
    refine (show W2 o_X12 M_X12_lists (inN [106, 107, 108, 109, 110, 115]) (q + 25) Q 390 [some (mR 69), some (mI f), some (mI nf), some (mI ((b : Nat) : Int)), some (mI mo), some (mI ((i : Nat) : Int))] [] (gs H 115 (Int.toNat ((b : Nat) : Int)) (w32 ((H 115 (Int.toNat (w32 (((b : Nat) : Int) + 1)))) + mo))) from ?_)
    refine w2_vc [289, 299, 333, 335, 363, 365, 367, 390] 400 oo_X12 q_X12_lists ?_
    refine (show W2 o_X12 M_X12_lists (inN [106, 107, 108, 109, 110, 115]) (q + 25) Q 289 [some (mR 69), some (mI f), some (mI nf), some (mI (w32 (((b : Nat) : Int) + (-1)))), some (mI mo), some (mI ((i : Nat) : Int))] [] (gs H 115 (Int.toNat ((b : Nat) : Int)) (w32 ((H 115 (Int.toNat (w32 (((b : Nat) : Int) + 1)))) + mo))) from ?_)
    refine WP.fg (L' := [some (mR 69), some (mI f), some (mI nf), some (mI (w32 (((b : Nat) : Int) + (-1)))), none, none]) ⟨rfl, rfl, rfl, rfl, trivial⟩ ?_
    exact h1 (by omega)
  · skip
    refine ⟨(show 0 ≤ (w32 ((w32 (40 * ((b : Nat) : Int))) + ((i : Nat) : Int))) ∧ (w32 ((w32 (40 * ((b : Nat) : Int))) + ((i : Nat) : Int))) < ((360 : Nat) : Int) from by first | omega | (rw [show (w32 ((w32 (40 * ((b : Nat) : Int))) + ((i : Nat) : Int))) = (40 * ((b : Nat) : Int)) + ((i : Nat) : Int) from by rw [w32_i (x := (40 * ((b : Nat) : Int))) (by omega) (by omega), w32_i (x := (40 * ((b : Nat) : Int)) + ((i : Nat) : Int)) (by omega) (by omega)]]; omega) | (simp (disch := omega) only [w32_i]; omega)), ?_⟩
    refine (show W2 o_X12 M_X12_lists (inN [106, 107, 108, 109, 110, 115]) (q + 25) Q 333 [some (mR 69), some (mI f), some (mI nf), some (mI ((b : Nat) : Int)), some (mI mo), some (mI ((i : Nat) : Int))] [mI (H 109 (Int.toNat (w32 ((w32 (40 * ((b : Nat) : Int))) + ((i : Nat) : Int))))), mI (w32 (40 * (H 64 18))), mR 86] H from ?_)
    refine w2_vc [289, 299, 333, 335, 363, 365, 367, 390] 400 oo_X12 q_X12_lists ?_
    refine ⟨(show 0 ≤ (w32 ((w32 (40 * (H 64 18))) + (H 109 (Int.toNat (w32 ((w32 (40 * ((b : Nat) : Int))) + ((i : Nat) : Int))))))) ∧ (w32 ((w32 (40 * (H 64 18))) + (H 109 (Int.toNat (w32 ((w32 (40 * ((b : Nat) : Int))) + ((i : Nat) : Int))))))) < ((80 : Nat) : Int) from by first | omega | (rw [show (w32 ((w32 (40 * (H 64 18))) + (H 109 (Int.toNat (w32 ((w32 (40 * ((b : Nat) : Int))) + ((i : Nat) : Int))))))) = (40 * (H 64 18)) + (H 109 (Int.toNat (w32 ((w32 (40 * ((b : Nat) : Int))) + ((i : Nat) : Int))))) from by rw [w32_i (x := (40 * (H 64 18))) (by omega) (by omega), w32_i (x := (40 * (H 64 18)) + (H 109 (Int.toNat (w32 ((w32 (40 * ((b : Nat) : Int))) + ((i : Nat) : Int)))))) (by omega) (by omega)]]; omega) | (simp (disch := omega) only [w32_i]; omega)), ?_⟩
    refine (show W2 o_X12 M_X12_lists (inN [106, 107, 108, 109, 110, 115]) (q + 25) Q 335 [some (mR 69), some (mI f), some (mI nf), some (mI ((b : Nat) : Int)), some (mI mo), some (mI ((i : Nat) : Int))] [mI (H 81 (Int.toNat (w32 ((w32 (40 * (H 64 18))) + (H 109 (Int.toNat (w32 ((w32 (40 * ((b : Nat) : Int))) + ((i : Nat) : Int)))))))))] H from ?_)
    refine w2_vc [289, 299, 333, 335, 363, 365, 367, 390] 400 oo_X12 q_X12_lists ?_
    refine ⟨fun (c2 : (H 81 (Int.toNat (w32 ((w32 (40 * (H 64 18))) + (H 109 (Int.toNat (w32 ((w32 (40 * ((b : Nat) : Int))) + ((i : Nat) : Int))))))))) ≤ mo) => ?_, fun (c2 : mo < (H 81 (Int.toNat (w32 ((w32 (40 * (H 64 18))) + (H 109 (Int.toNat (w32 ((w32 (40 * ((b : Nat) : Int))) + ((i : Nat) : Int)))))))))) => ?_⟩
    · skip
      refine (show W2 o_X12 M_X12_lists (inN [106, 107, 108, 109, 110, 115]) (q + 25) Q 367 [some (mR 69), some (mI f), some (mI nf), some (mI ((b : Nat) : Int)), some (mI mo), some (mI ((i : Nat) : Int))] [] H from ?_)
      refine w2_vc [289, 299, 333, 335, 363, 365, 367, 390] 400 oo_X12 q_X12_lists ?_
      refine (show W2 o_X12 M_X12_lists (inN [106, 107, 108, 109, 110, 115]) (q + 25) Q 299 [some (mR 69), some (mI f), some (mI nf), some (mI ((b : Nat) : Int)), some (mI mo), some (mI (w32 (((i : Nat) : Int) + 1)))] [] H from ?_)
      rw [w32_nat (by omega)]
      exact h2 (by omega) c2
    · skip
      refine ⟨(show 0 ≤ (w32 ((w32 (40 * ((b : Nat) : Int))) + ((i : Nat) : Int))) ∧ (w32 ((w32 (40 * ((b : Nat) : Int))) + ((i : Nat) : Int))) < ((360 : Nat) : Int) from by first | omega | (rw [show (w32 ((w32 (40 * ((b : Nat) : Int))) + ((i : Nat) : Int))) = (40 * ((b : Nat) : Int)) + ((i : Nat) : Int) from by rw [w32_i (x := (40 * ((b : Nat) : Int))) (by omega) (by omega), w32_i (x := (40 * ((b : Nat) : Int)) + ((i : Nat) : Int)) (by omega) (by omega)]]; omega) | (simp (disch := omega) only [w32_i]; omega)), ?_⟩
      refine (show W2 o_X12 M_X12_lists (inN [106, 107, 108, 109, 110, 115]) (q + 25) Q 363 [some (mR 69), some (mI f), some (mI nf), some (mI ((b : Nat) : Int)), some (mI mo), some (mI ((i : Nat) : Int))] [mI (H 109 (Int.toNat (w32 ((w32 (40 * ((b : Nat) : Int))) + ((i : Nat) : Int))))), mI (w32 (40 * (H 64 18))), mR 86] H from ?_)
      refine w2_vc [289, 299, 333, 335, 363, 365, 367, 390] 400 oo_X12 q_X12_lists ?_
      refine ⟨(show 0 ≤ (w32 ((w32 (40 * (H 64 18))) + (H 109 (Int.toNat (w32 ((w32 (40 * ((b : Nat) : Int))) + ((i : Nat) : Int))))))) ∧ (w32 ((w32 (40 * (H 64 18))) + (H 109 (Int.toNat (w32 ((w32 (40 * ((b : Nat) : Int))) + ((i : Nat) : Int))))))) < ((80 : Nat) : Int) from by first | omega | (rw [show (w32 ((w32 (40 * (H 64 18))) + (H 109 (Int.toNat (w32 ((w32 (40 * ((b : Nat) : Int))) + ((i : Nat) : Int))))))) = (40 * (H 64 18)) + (H 109 (Int.toNat (w32 ((w32 (40 * ((b : Nat) : Int))) + ((i : Nat) : Int))))) from by rw [w32_i (x := (40 * (H 64 18))) (by omega) (by omega), w32_i (x := (40 * (H 64 18)) + (H 109 (Int.toNat (w32 ((w32 (40 * ((b : Nat) : Int))) + ((i : Nat) : Int)))))) (by omega) (by omega)]]; omega) | (simp (disch := omega) only [w32_i]; omega)), ?_⟩
      refine (show W2 o_X12 M_X12_lists (inN [106, 107, 108, 109, 110, 115]) (q + 25) Q 365 [some (mR 69), some (mI f), some (mI nf), some (mI ((b : Nat) : Int)), some (mI mo), some (mI ((i : Nat) : Int))] [mI (H 81 (Int.toNat (w32 ((w32 (40 * (H 64 18))) + (H 109 (Int.toNat (w32 ((w32 (40 * ((b : Nat) : Int))) + ((i : Nat) : Int)))))))))] H from ?_)
      refine w2_vc [289, 299, 333, 335, 363, 365, 367, 390] 400 oo_X12 q_X12_lists ?_
      refine (show W2 o_X12 M_X12_lists (inN [106, 107, 108, 109, 110, 115]) (q + 25) Q 367 [some (mR 69), some (mI f), some (mI nf), some (mI ((b : Nat) : Int)), some (mI (H 81 (Int.toNat (w32 ((w32 (40 * (H 64 18))) + (H 109 (Int.toNat (w32 ((w32 (40 * ((b : Nat) : Int))) + ((i : Nat) : Int)))))))))), some (mI ((i : Nat) : Int))] [] H from ?_)
      refine w2_vc [289, 299, 333, 335, 363, 365, 367, 390] 400 oo_X12 q_X12_lists ?_
      refine (show W2 o_X12 M_X12_lists (inN [106, 107, 108, 109, 110, 115]) (q + 25) Q 299 [some (mR 69), some (mI f), some (mI nf), some (mI ((b : Nat) : Int)), some (mI (H 81 (Int.toNat (w32 ((w32 (40 * (H 64 18))) + (H 109 (Int.toNat (w32 ((w32 (40 * ((b : Nat) : Int))) + ((i : Nat) : Int)))))))))), some (mI (w32 (((i : Nat) : Int) + 1)))] [] H from ?_)
      rw [w32_nat (by omega)]
      exact h3 (by omega) (Int.not_le.mpr c2)
