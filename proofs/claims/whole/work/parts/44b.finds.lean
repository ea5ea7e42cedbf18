/-! ===== printed by wip/whole/gen44b.py: the reference finds, gives, mends ===== -/
theorem fi_0 {D : Nat → Bool} {q n nk : Nat} {G : mG} {f nf mm : Int} {bv : Nat → Nat → Int} {Q : Option mV → mG → Prop} (hG : lsH G nf n nk) (hbv : ∀ b c, b < n → c < nk → G 77 (rfL G + c) = 0 → ∀ Hj : mG, lsX G Hj → fs (pR (e_X12_asksBoard Hj ((b : Nat) : Int)) 1 ((b : Nat) : Int) (G 78 (rfL G + c))) nk = bv b c) (hD : ∀ k, D k = false → inN [64, 104, 105, 106, 107, 108, 109, 110, 111, 112, 113, 114, 115, 116, 117] k = false) (h : ∀ H1, lsP G f nf n nk bv H1 → W2 o_X12 M_X12_finds (inN [64, 104, 105, 106, 107, 108, 109, 110, 111, 112, 113, 114, 115, 116, 117]) (q + 30) Q 9 [some (mR 69), some (mI f), some (mI nf), some (mI mm), some (mI 0), none] [] H1) : P2 D (q + 30) M_X12_finds [mR 69, mI f, mI nf, mI mm] G Q := by
  refine MP.to (D2 := inN [64, 104, 105, 106, 107, 108, 109, 110, 111, 112, 113, 114, 115, 116, 117]) (Q2 := Q) ?_ hD (fun v G' q _ => q)
  refine p2_vc [6, 9] 400 oo_X12 q_X12_finds (by decide) rfl (Nat.le_of_ble_eq_true rfl) ?_
  refine sp_X12_lists (q := q + 4) (n := n) (nk := nk) (bv := bv) hG hbv (insub (by decide)) (fun H1 hP1 => ?_)
  refine (show W2 o_X12 M_X12_finds (inN [64, 104, 105, 106, 107, 108, 109, 110, 111, 112, 113, 114, 115, 116, 117]) (q + 30) Q 6 [some (mR 69), some (mI f), some (mI nf), some (mI mm), none, none] [] H1 from ?_)
  refine w2_vc [6, 9] 400 oo_X12 q_X12_finds ?_
  refine (show W2 o_X12 M_X12_finds (inN [64, 104, 105, 106, 107, 108, 109, 110, 111, 112, 113, 114, 115, 116, 117]) (q + 30) Q 9 [some (mR 69), some (mI f), some (mI nf), some (mI mm), some (mI 0), none] [] H1 from ?_)
  exact h H1 hP1
set_option maxHeartbeats 8000000 in
theorem fi_9 {q : Nat} {H : mG} {f nf mm : Int} {Q : Option mV → mG → Prop} {j : Nat} (hj : j ≤ 40) (h1 : 40 ≤ j → W2 o_X12 M_X12_finds (inN [64, 104, 105, 106, 107, 108, 109, 110, 111, 112, 113, 114, 115, 116, 117]) (q + 30) Q 64 [some (mR 69), some (mI f), some (mI nf), some (mI mm), some (mI 0), none] [] (gs (gs (gs (gs (gs H 64 70 (-1)) 64 71 0) 111 (Int.toNat 0) (-1)) 116 (Int.toNat 0) 0) 117 (Int.toNat 0) 0)) (h2 : j < 40 → W2 o_X12 M_X12_finds (inN [64, 104, 105, 106, 107, 108, 109, 110, 111, 112, 113, 114, 115, 116, 117]) (q + 30) Q 9 [some (mR 69), some (mI f), some (mI nf), some (mI mm), some (mI ((j + 1 : Nat) : Int)), none] [] (gs H 114 (Int.toNat ((j : Nat) : Int)) 0)) : W2 o_X12 M_X12_finds (inN [64, 104, 105, 106, 107, 108, 109, 110, 111, 112, 113, 114, 115, 116, 117]) (q + 30) Q 9 [some (mR 69), some (mI f), some (mI nf), some (mI mm), some (mI ((j : Nat) : Int)), none] [] H := by
  refine w2_vc [9, 24, 35, 40, 50, 57, 64] 400 oo_X12 q_X12_finds ?_
  refine ⟨fun (c1 : 40 ≤ ((j : Nat) : Int)) => ?_, fun (c1 : ((j : Nat) : Int) < 40) => ?_⟩
  · skip
    refine (show W2 o_X12 M_X12_finds (inN [64, 104, 105, 106, 107, 108, 109, 110, 111, 112, 113, 114, 115, 116, 117]) (q + 30) Q 35 [some (mR 69), some (mI f), some (mI nf), some (mI mm), some (mI ((j : Nat) : Int)), none] [] (gs H 64 70 (-1)) from ?_)
    refine w2_vc [9, 24, 35, 40, 50, 57, 64] 400 oo_X12 q_X12_finds ?_
    refine (show W2 o_X12 M_X12_finds (inN [64, 104, 105, 106, 107, 108, 109, 110, 111, 112, 113, 114, 115, 116, 117]) (q + 30) Q 40 [some (mR 69), some (mI f), some (mI nf), some (mI mm), some (mI ((j : Nat) : Int)), none] [] (gs (gs H 64 70 (-1)) 64 71 0) from ?_)
    refine w2_vc [9, 24, 35, 40, 50, 57, 64] 400 oo_X12 q_X12_finds ?_
    refine ⟨(show 0 ≤ 0 ∧ 0 < ((10 : Nat) : Int) from by first | omega | (simp (disch := omega) only [w32_i]; omega)), ?_⟩
    refine (show W2 o_X12 M_X12_finds (inN [64, 104, 105, 106, 107, 108, 109, 110, 111, 112, 113, 114, 115, 116, 117]) (q + 30) Q 50 [some (mR 69), some (mI f), some (mI nf), some (mI mm), some (mI 0), none] [] (gs (gs (gs H 64 70 (-1)) 64 71 0) 111 (Int.toNat 0) (-1)) from ?_)
    refine w2_vc [9, 24, 35, 40, 50, 57, 64] 400 oo_X12 q_X12_finds ?_
    refine ⟨(show 0 ≤ 0 ∧ 0 < ((10 : Nat) : Int) from by first | omega | (simp (disch := omega) only [w32_i]; omega)), ?_⟩
    refine (show W2 o_X12 M_X12_finds (inN [64, 104, 105, 106, 107, 108, 109, 110, 111, 112, 113, 114, 115, 116, 117]) (q + 30) Q 57 [some (mR 69), some (mI f), some (mI nf), some (mI mm), some (mI 0), none] [] (gs (gs (gs (gs H 64 70 (-1)) 64 71 0) 111 (Int.toNat 0) (-1)) 116 (Int.toNat 0) 0) from ?_)
    refine w2_vc [9, 24, 35, 40, 50, 57, 64] 400 oo_X12 q_X12_finds ?_
    refine ⟨(show 0 ≤ 0 ∧ 0 < ((10 : Nat) : Int) from by first | omega | (simp (disch := omega) only [w32_i]; omega)), ?_⟩
    refine (show W2 o_X12 M_X12_finds (inN [64, 104, 105, 106, 107, 108, 109, 110, 111, 112, 113, 114, 115, 116, 117]) (q + 30) Q 64 [some (mR 69), some (mI f), some (mI nf), some (mI mm), some (mI 0), none] [] (gs (gs (gs (gs (gs H 64 70 (-1)) 64 71 0) 111 (Int.toNat 0) (-1)) 116 (Int.toNat 0) 0) 117 (Int.toNat 0) 0) from ?_)
    exact h1 (by omega)
  · skip
    refine ⟨(show 0 ≤ ((j : Nat) : Int) ∧ ((j : Nat) : Int) < ((40 : Nat) : Int) from by first | omega | (simp (disch := omega) only [w32_i]; omega)), ?_⟩
    refine (show W2 o_X12 M_X12_finds (inN [64, 104, 105, 106, 107, 108, 109, 110, 111, 112, 113, 114, 115, 116, 117]) (q + 30) Q 24 [some (mR 69), some (mI f), some (mI nf), some (mI mm), some (mI ((j : Nat) : Int)), none] [] (gs H 114 (Int.toNat ((j : Nat) : Int)) 0) from ?_)
    refine w2_vc [9, 24, 35, 40, 50, 57, 64] 400 oo_X12 q_X12_finds ?_
    refine (show W2 o_X12 M_X12_finds (inN [64, 104, 105, 106, 107, 108, 109, 110, 111, 112, 113, 114, 115, 116, 117]) (q + 30) Q 9 [some (mR 69), some (mI f), some (mI nf), some (mI mm), some (mI (w32 (((j : Nat) : Int) + 1))), none] [] (gs H 114 (Int.toNat ((j : Nat) : Int)) 0) from ?_)
    rw [w32_nat (by omega)]
    exact h2 (by omega)
set_option maxHeartbeats 8000000 in
theorem fi_end {q : Nat} {H : mG} {f nf mm : Int} {Q : Option mV → mG → Prop} (h : W2 o_X12 M_X12_finds (inN [64, 104, 105, 106, 107, 108, 109, 110, 111, 112, 113, 114, 115, 116, 117]) (q + 30) Q 516 [some (mR 69), some (mI f), some (mI nf), some (mI mm), some (mI (-1)), some (mI 0)] [] H) : W2 o_X12 M_X12_finds (inN [64, 104, 105, 106, 107, 108, 109, 110, 111, 112, 113, 114, 115, 116, 117]) (q + 30) Q 64 [some (mR 69), some (mI f), some (mI nf), some (mI mm), some (mI (-1)), none] [] H := by
  refine w2_vc [516] 400 oo_X12 q_X12_finds ?_
  refine ⟨fun _ => ?_, fun (c : 0 ≤ ((-1) : Int)) => absurd c (by decide)⟩
  refine (show W2 o_X12 M_X12_finds (inN [64, 104, 105, 106, 107, 108, 109, 110, 111, 112, 113, 114, 115, 116, 117]) (q + 30) Q 516 [some (mR 69), some (mI f), some (mI nf), some (mI mm), some (mI (-1)), some (mI 0)] [] H from ?_)
  exact h
set_option maxHeartbeats 8000000 in
theorem fi_516 {q : Nat} {H : mG} {f nf mm : Int} {Q : Option mV → mG → Prop} {j n : Nat} (hn9 : n ≤ 9) (h44 : H 64 44 = (n : Int)) (hf : 0 ≤ f ∧ f < 26) (hox : n ≤ j ∨ (0 ≤ (w32 ((w32 (9 * f)) + ((j : Nat) : Int))) ∧ (w32 ((w32 (9 * f)) + ((j : Nat) : Int))) < 234)) (hj : j ≤ n) (h1 : n ≤ j → Q none (gs H 104 (Int.toNat f) 1)) (h2 : j < n → W2 o_X12 M_X12_finds (inN [64, 104, 105, 106, 107, 108, 109, 110, 111, 112, 113, 114, 115, 116, 117]) (q + 30) Q 516 [some (mR 69), some (mI f), some (mI nf), some (mI mm), some (mI (-1)), some (mI ((j + 1 : Nat) : Int))] [] (gs H 105 (Int.toNat (w32 ((w32 (9 * f)) + ((j : Nat) : Int)))) (H 113 (Int.toNat ((j : Nat) : Int))))) : W2 o_X12 M_X12_finds (inN [64, 104, 105, 106, 107, 108, 109, 110, 111, 112, 113, 114, 115, 116, 117]) (q + 30) Q 516 [some (mR 69), some (mI f), some (mI nf), some (mI mm), some (mI (-1)), some (mI ((j : Nat) : Int))] [] H := by
  refine w2_vc [516, 544, 557] 400 oo_X12 q_X12_finds ?_
  refine ⟨fun (c1 : (H 64 44) ≤ ((j : Nat) : Int)) => ?_, fun (c1 : ((j : Nat) : Int) < (H 64 44)) => ?_⟩
  · skip
    refine ⟨(show 0 ≤ f ∧ f < ((26 : Nat) : Int) from by first | omega | (simp (disch := omega) only [w32_i]; omega)), by omega, ?_⟩
    refine (show W2 o_X12 M_X12_finds (inN [64, 104, 105, 106, 107, 108, 109, 110, 111, 112, 113, 114, 115, 116, 117]) (q + 30) Q 557 [some (mR 69), some (mI f), some (mI nf), some (mI mm), some (mI (-1)), some (mI ((j : Nat) : Int))] [] (gs H 104 (Int.toNat f) 1) from ?_)
    refine w2_vc [516, 544, 557] 400 oo_X12 q_X12_finds ?_
    exact h1 (by omega)
  · skip
    refine ⟨(show 0 ≤ ((j : Nat) : Int) ∧ ((j : Nat) : Int) < ((9 : Nat) : Int) from by first | omega | (simp (disch := omega) only [w32_i]; omega)), ?_⟩
    refine ⟨(show 0 ≤ (w32 ((w32 (9 * f)) + ((j : Nat) : Int))) ∧ (w32 ((w32 (9 * f)) + ((j : Nat) : Int))) < ((234 : Nat) : Int) from by first | omega | (rw [show (w32 ((w32 (9 * f)) + ((j : Nat) : Int))) = (9 * f) + ((j : Nat) : Int) from by rw [w32_i (x := (9 * f)) (by omega) (by omega), w32_i (x := (9 * f) + ((j : Nat) : Int)) (by omega) (by omega)]]; omega) | (simp (disch := omega) only [w32_i]; omega)), ?_⟩
    refine (show W2 o_X12 M_X12_finds (inN [64, 104, 105, 106, 107, 108, 109, 110, 111, 112, 113, 114, 115, 116, 117]) (q + 30) Q 544 [some (mR 69), some (mI f), some (mI nf), some (mI mm), some (mI (-1)), some (mI ((j : Nat) : Int))] [] (gs H 105 (Int.toNat (w32 ((w32 (9 * f)) + ((j : Nat) : Int)))) (H 113 (Int.toNat ((j : Nat) : Int)))) from ?_)
    refine w2_vc [516, 544, 557] 400 oo_X12 q_X12_finds ?_
    refine (show W2 o_X12 M_X12_finds (inN [64, 104, 105, 106, 107, 108, 109, 110, 111, 112, 113, 114, 115, 116, 117]) (q + 30) Q 516 [some (mR 69), some (mI f), some (mI nf), some (mI mm), some (mI (-1)), some (mI (w32 (((j : Nat) : Int) + 1)))] [] (gs H 105 (Int.toNat (w32 ((w32 (9 * f)) + ((j : Nat) : Int)))) (H 113 (Int.toNat ((j : Nat) : Int)))) from ?_)
    rw [w32_nat (by omega)]
    exact h2 (by omega)
theorem gs_row (G : mG) (k j : Nat) (x : Int) : gs G k j x k = fun i => if i = j then x else G k i := by unfold gs; rw [if_pos rfl]
def fdH (G : mG) (f nf : Int) (n nk : Nat) (bv : Nat → Nat → Int) (lf : Nat → Int) : Prop := lsH G nf n nk ∧ (∀ b c, b < n → c < nk → G 77 (rfL G + c) = 0 → ∀ Hj : mG, lsX G Hj → fs (pR (e_X12_asksBoard Hj ((b : Nat) : Int)) 1 ((b : Nat) : Int) (G 78 (rfL G + c))) nk = bv b c) ∧ (0 ≤ f ∧ f < 26) ∧ G 98 0 = 0 ∧ (∀ k, k < nk → G 77 (rfL G + k) = 0 → 1 ≤ G 79 (rfL G + k) ∧ G 79 (rfL G + k) ≤ 9999 ∧ lf k = G 79 (rfL G + k))
/-- what finds comes to; H1 is the heap behind its lists -/
def fdP (G : mG) (f mm : Int) (n : Nat) (H1 : mG) (lf : Nat → Int) (H : mG) : Prop := ∃ pk bst : Nat → Int, (∀ k, (∀ a ∈ ([64, 104, 105, 106, 107, 108, 109, 110, 111, 112, 113, 114, 115, 116, 117] : List Nat), k ≠ a) → H k = G k) ∧ (∀ j, j ≠ 70 → j ≠ 71 → H 64 j = G 64 j) ∧ H 104 = (fun i => if i = f.toNat then 1 else G 104 i) ∧
  (∀ i, i < n → H 105 (9 * f.toNat + i) = (proc (rfP H1 f mm) n 0 0 (-1) lf pk (-16, bst)).2 i) ∧ (∀ i, (i < 9 * f.toNat ∨ 9 * f.toNat + n ≤ i) → H 105 i = G 105 i) ∧ (proc (rfP H1 f mm) n 0 0 (-1) lf pk (-16, bst)).1 = 16 * H 64 70 - H 64 71 ∧ (-1 ≤ H 64 70) ∧ (0 ≤ H 64 71 ∧ H 64 71 ≤ 9)
theorem rfP_to {G H : mG} {f m : Int} (h : ∀ k, k ∈ ([78, 81, 98, 105, 108, 109, 110, 118] : List Nat) → H k = G k) (h18 : H 64 18 = G 64 18) : rfP H f m = rfP G f m := by
  unfold rfP rfC rfW rfO rfN rfL
  rw [h18, h 78 (by decide), h 81 (by decide), h 98 (by decide), h 105 (by decide), h 108 (by decide), h 109 (by decide), h 110 (by decide), h 118 (by decide)]
section FND
variable {G : mG} {f nf mm : Int} {n nk q : Nat} {bv : Nat → Nat → Int} {lf : Nat → Int} {Q : Option mV → mG → Prop}
theorem fd_F (h : fdH G f nf n nk bv lf) {H1 H : mG} (hP : lsP G f nf n nk bv H1) (hk : ∀ k, (∀ a ∈ ([64, 111, 114, 116, 117] : List Nat), k ≠ a) → H k = H1 k) (h64 : ∀ j, j ≠ 70 → j ≠ 71 → H 64 j = H1 64 j) : rfF H f n ∧ (∀ w, rfM H n w → ∃ k : Nat, w = (k : Int) ∧ k < nk ∧ G 77 (rfL G + k) = 0) ∧ rfL H = rfL G := by
  obtain ⟨⟨g1, g2, g3, g4, g5, g6, g7, g8, g9, g10⟩, hbv, hf, h98, hlf⟩ := h
  obtain ⟨p1, p2, p3, p4, p5⟩ := hP
  have kk : ∀ k, [64, 111, 114, 116, 117].all (fun a => !(Nat.beq a k)) = true → H k = H1 k := fun k hk2 => hk k (fun a ha he => by
    have := List.all_eq_true.mp hk2 a ha
    rw [he] at this
    simp [Nat.beq_refl] at this)
  have e18 : H 64 18 = G 64 18 := by rw [h64 18 (by decide) (by decide), p1.k 64 (by decide)]
  have eL : rfL H = rfL G := by unfold rfL; rw [e18]
  have hM : ∀ w, rfM H n w → ∃ k : Nat, w = (k : Int) ∧ k < nk ∧ G 77 (rfL G + k) = 0 := by
    rintro w ⟨b, i, hb, hi, he⟩
    have hl := p3 b hb
    rw [kk 108 (by decide), hl.1] at hi
    have hil : i < (lsl G f nf bv nk b).length := by omega
    rw [kk 109 (by decide), hl.2 i hil] at he
    have hm := lsl_mem hil
    refine ⟨_, he.symm, hm.1, ?_⟩
    have := hm.2
    unfold lsC at this
    rw [Bool.and_eq_true] at this
    exact of_decide_eq_true this.1
  refine ⟨⟨g1, ?_, by rw [e18]; exact g3, hf, fun b hb => ?_, fun w hw => ?_, fun b i hb hi => ?_, fun b hb => ?_, ?_, ?_⟩, hM, eL⟩
  · rw [h64 44 (by decide) (by decide), p1.k 64 (by decide)]; exact g2
  · rw [kk 108 (by decide), (p3 b hb).1]
    have := lsl_len (G := G) (f := f) (nf := nf) (bv := bv) (nk := nk) (b := b)
    omega
  · obtain ⟨k, hk1, hk2, hk3⟩ := hM w hw
    rw [eL, hk1, st_nat, kk 81 (by decide), kk 78 (by decide), p1.k 81 (by decide), p1.k 78 (by decide)]
    exact ⟨by omega, g10 k hk2 hk3, g8 k hk2⟩
  · rw [eL, kk 81 (by decide), kk 115 (by decide), kk 109 (by decide), p1.k 81 (by decide)]
    rw [kk 108 (by decide)] at hi
    exact (p5 b (Nat.zero_le _) hb).2 i hi
  · rw [kk 115 (by decide)]
    have := (p5 b (Nat.zero_le _) hb).1
    omega
  · rw [kk 115 (by decide)]; exact p4
  · rw [kk 98 (by decide), p1.k 98 (by decide)]; exact h98
theorem fd_out (h : fdH G f nf n nk bv lf) {H1 : mG} (hP : lsP G f nf n nk bv H1) {H : mG} {A : sA} {pk bst : Nat → Int} (hA : A = proc (rfP H1 f mm) n 0 0 (-1) lf pk (-16, bst)) (hX : ∀ k, (∀ a ∈ ([64, 106, 107, 108, 109, 110, 111, 112, 113, 114, 115, 116, 117] : List Nat), k ≠ a) → H k = G k) (h64 : ∀ j, j ≠ 70 → j ≠ 71 → H 64 j = G 64 j) (hrA : rfA n A H) (hQ : ∀ H1 H, lsP G f nf n nk bv H1 → fdP G f mm n H1 lf H → Q none H) :
    ∀ t j : Nat, j + t = n → ∀ H2 : mG, (∀ k, k ≠ 105 → H2 k = H k) → (∀ i, i < j → H2 105 (9 * f.toNat + i) = A.2 i) → (∀ i, (i < 9 * f.toNat ∨ 9 * f.toNat + j ≤ i) → H2 105 i = G 105 i) → W2 o_X12 M_X12_finds (inN [64, 104, 105, 106, 107, 108, 109, 110, 111, 112, 113, 114, 115, 116, 117]) (q + 30) Q 516 [some (mR 69), some (mI f), some (mI nf), some (mI mm), some (mI (-1)), some (mI ((j : Nat) : Int))] [] H2 := by
  obtain ⟨⟨g1, g2, g3, g4, g5, g6, g7, g8, g9, g10⟩, hbv, hf, h98, hlf⟩ := id h
  intro t
  induction t with
  | zero =>
    intro j hj H2 k1 k2 k3
    have e44 : H2 64 44 = (n : Int) := by rw [k1 64 (by decide), h64 44 (by decide) (by decide)]; exact g2
    refine fi_516 (n := n) g1 e44 hf (Or.inl (by omega)) (by omega) (fun _ => ?_) (fun c => absurd c (by omega))
    refine hQ H1 _ hP ⟨pk, bst, fun k hk => ?_, fun i h1 h2 => ?_, ?_, fun i hi => ?_, fun i hi => ?_, ?_, ?_, ?_⟩
    · rw [gs_ne (hk 104 (by decide)), k1 k (hk 105 (by decide))]
      exact hX k (fun a ha => hk a (by simp only [List.mem_cons, List.not_mem_nil, or_false] at ha ⊢; omega))
    · rw [gs_ne (by decide), k1 64 (by decide)]; exact h64 i h1 h2
    · rw [gs_row, k1 104 (by decide), hX 104 (by decide)]
    · rw [gs_ne (by decide), k2 i (by omega), hA]
    · rw [gs_ne (by decide)]; exact k3 i (by omega)
    · rw [gs_ne (by decide), k1 64 (by decide), ← hA]; exact hrA.1
    · rw [gs_ne (by decide), k1 64 (by decide)]; exact hrA.2.1.1
    · rw [gs_ne (by decide), k1 64 (by decide)]; exact hrA.2.2.1
  | succ t ih =>
    intro j hj H2 k1 k2 k3
    have e44 : H2 64 44 = (n : Int) := by rw [k1 64 (by decide), h64 44 (by decide) (by decide)]; exact g2
    have hox : Unit → w32 ((w32 (9 * f)) + ((j : Nat) : Int)) = ((9 * f.toNat + j : Nat) : Int) := fun _ => by
      rw [w32_i (x := 9 * f) (by omega) (by omega), w32_i (by omega) (by omega)]; omega
    refine fi_516 (n := n) g1 e44 hf (Or.inr (by rw [hox ()]; omega)) (by omega) (fun c => absurd c (by omega)) (fun _ => ?_)
    rw [hox (), st_nat, st_nat]
    refine ih (j + 1) (by omega) _ (fun k hk => by rw [gs_ne hk]; exact k1 k hk) (fun i hi => ?_) (fun i hi => ?_)
    · by_cases hij : i = j
      · rw [hij, gs_at, k1 113 (by decide)]; exact hrA.2.2.2 j (by omega)
      · rw [gs_at_ne (by omega)]; exact k2 i (by omega)
    · rw [gs_at_ne (by omega)]; exact k3 i (by omega)
theorem fd_9 (h : fdH G f nf n nk bv lf) {H1 : mG} (hP : lsP G f nf n nk bv H1) (hQ : ∀ H1 H, lsP G f nf n nk bv H1 → fdP G f mm n H1 lf H → Q none H) : ∀ t j : Nat, j + t = 40 → ∀ H : mG, (∀ k, k ≠ 114 → H k = H1 k) → (∀ i, i < j → H 114 i = 0) → W2 o_X12 M_X12_finds (inN [64, 104, 105, 106, 107, 108, 109, 110, 111, 112, 113, 114, 115, 116, 117]) (q + 30) Q 9 [some (mR 69), some (mI f), some (mI nf), some (mI mm), some (mI ((j : Nat) : Int)), none] [] H := by
  intro t
  induction t with
  | zero =>
    intro j hj H k1 k2
    refine fi_9 (by omega) (fun _ => ?_) (fun c => absurd c (by omega))
    obtain ⟨H0, hH0⟩ : ∃ H0, gs (gs (gs (gs (gs H 64 70 (-1)) 64 71 0) 111 (Int.toNat 0) (-1)) 116 (Int.toNat 0) 0) 117 (Int.toNat 0) 0 = H0 := ⟨_, rfl⟩
    rw [hH0]
    have m1 : ∀ k, k ≠ 64 → k ≠ 111 → k ≠ 116 → k ≠ 117 → H0 k = H k := fun k a1 a2 a3 a4 => by rw [← hH0, gs_ne a4, gs_ne a3, gs_ne a2, gs_ne a1, gs_ne a1]
    have m2 : ∀ j, j ≠ 70 → j ≠ 71 → H0 64 j = H 64 j := fun j a1 a2 => by rw [← hH0, gs_ne (by decide), gs_ne (by decide), gs_ne (by decide), gs_at_ne a2, gs_at_ne a1]
    have m70 : H0 64 70 = -1 := by rw [← hH0, gs_ne (by decide), gs_ne (by decide), gs_ne (by decide), gs_at_ne (by decide), gs_at]
    have m71 : H0 64 71 = 0 := by rw [← hH0, gs_ne (by decide), gs_ne (by decide), gs_ne (by decide), gs_at]
    have m111 : H0 111 0 = -1 := by rw [← hH0, gs_ne (by decide), gs_ne (by decide)]; exact gs_at _ _ _ _
    have m116 : H0 116 0 = 0 := by rw [← hH0, gs_ne (by decide)]; exact gs_at _ _ _ _
    have m117 : H0 117 0 = 0 := by rw [← hH0]; exact gs_at _ _ _ _
    have n1 : ∀ k, (∀ a ∈ ([64, 111, 114, 116, 117] : List Nat), k ≠ a) → H0 k = H1 k := fun k hk => by
      rw [m1 k (hk 64 (by decide)) (hk 111 (by decide)) (hk 116 (by decide)) (hk 117 (by decide)), k1 k (hk 114 (by decide))]
    have n2 : ∀ j, j ≠ 70 → j ≠ 71 → H0 64 j = H1 64 j := fun j a1 a2 => by rw [m2 j a1 a2, k1 64 (by decide)]
    obtain ⟨hF, hM, hL⟩ := fd_F h hP n1 n2
    have n114 : H0 114 = H 114 := m1 114 (by decide) (by decide) (by decide) (by decide)
    have eP : rfP H0 f mm = rfP H1 f mm := rfP_to (fun k hk => n1 k (fun a ha => by simp only [List.mem_cons, List.not_mem_nil, or_false] at hk ha; omega)) (n2 18 (by decide) (by decide))
    have e79 : ∀ k : Nat, k < nk → G 77 (rfL G + k) = 0 → H0 79 (rfL H0 + k) = G 79 (rfL G + k) := fun k _ _ => by rw [hL, n1 79 (by decide), hP.1.k 79 (by decide)]
    have hT : rfT H0 n lf H0 ∧ rfB H0 n lf := by
      refine ⟨fun w hw => ?_, fun w hw => ?_⟩
      · obtain ⟨k, a1, a2, a3⟩ := hM w hw
        have b1 := h.2.2.2.2 k a2 a3
        have b5 := h.1.2.2.2.2.1
        rw [a1, st_nat, e79 k a2 a3, n114, k2 k (by omega)]
        omega
      · obtain ⟨k, a1, a2, a3⟩ := hM w hw
        have b1 := h.2.2.2.2 k a2 a3
        rw [a1, st_nat, e79 k a2 a3]
        omega
    refine rf_main (G := H0) (pk := fun i => H0 112 i) (A := (-16, fun i => H0 113 i)) (lf := lf) (wv := 0) (ov := 0) hF n 0 (by omega) H0 ⟨⟨fun _ _ => rfl, fun _ _ _ => rfl⟩, ⟨m116, by omega, by omega⟩, ⟨m117, by omega, by omega⟩, hT, fun i hi => absurd hi (by omega), ⟨by rw [m70, m71]; rfl, by rw [m70]; omega, by rw [m71]; omega, fun _ _ => rfl⟩⟩ m111 (fun H' hS' _ => ?_)
    obtain ⟨hX', _, _, _, _, hA'⟩ := hS'
    have hA2 : rfA n (proc (rfP H1 f mm) n 0 0 (-1) lf (fun i => H0 112 i) (-16, fun i => H0 113 i)) H' := by
      rw [← eP]
      exact hA'
    refine fi_end (fd_out h hP rfl (fun k hk => ?_) (fun j a1 a2 => ?_) hA2 hQ n 0 (by omega) H' (fun _ _ => rfl) (fun i hi => absurd hi (by omega)) (fun i _ => ?_))
    · rw [hX'.1 k (fun a ha => hk a (by simp only [List.mem_cons, List.not_mem_nil, or_false] at ha ⊢; omega)), n1 k (fun a ha => hk a (by simp only [List.mem_cons, List.not_mem_nil, or_false] at ha ⊢; omega))]
      exact hP.1 k (fun a ha => hk a (by simp only [List.mem_cons, List.not_mem_nil, or_false] at ha ⊢; omega))
    · rw [hX'.2 j a1 a2, n2 j a1 a2, hP.1.k 64 (by decide)]
    · rw [hX'.k 105 (by decide), n1 105 (by decide), hP.1.k 105 (by decide)]
  | succ t ih =>
    intro j hj H k1 k2
    refine fi_9 (by omega) (fun c => absurd c (by omega)) (fun _ => ?_)
    rw [st_nat]
    refine ih (j + 1) (by omega) _ (fun k hk => by rw [gs_ne hk]; exact k1 k hk) (fun i hi => ?_)
    by_cases hij : i = j
    · rw [hij, gs_at]
    · rw [gs_at_ne hij]; exact k2 i (by omega)
theorem sp_X12_finds {D : Nat → Bool} (h : fdH G f nf n nk bv lf) (hD : ∀ k, D k = false → inN [64, 104, 105, 106, 107, 108, 109, 110, 111, 112, 113, 114, 115, 116, 117] k = false) (hQ : ∀ H1 H, lsP G f nf n nk bv H1 → fdP G f mm n H1 lf H → Q none H) : P2 D (q + 30) M_X12_finds [mR 69, mI f, mI nf, mI mm] G Q :=
  fi_0 h.1 h.2.1 hD (fun H1 hP => fd_9 h hP hQ 40 0 (by omega) H1 (fun _ _ => rfl) (fun i hi => absurd hi (by omega)))
end FND
theorem fa_X12_isLost (G : mG) (b f n : Int) : f_X12_isLost G b f n = 1 ∨ f_X12_isLost G b f n = 0 := by
  have key : ∀ m, fe (g_X12_isLost_3 G b f n) () m = Sum.inl () ∨ fe (g_X12_isLost_3 G b f n) () m = Sum.inr 1 := by
    intro m
    induction m with
    | zero => exact Or.inl rfl
    | succ m ih =>
      rw [fe_s]
      rcases ih with e | e
      · rw [e]
        show g_X12_isLost_3 G b f n m () = _ ∨ g_X12_isLost_3 G b f n m () = _
        unfold g_X12_isLost_3
        repeat' split
        all_goals simp
      · rw [e]; exact Or.inr rfl
  unfold f_X12_isLost
  rcases key (Int.toNat n) with e | e
  · rw [e]; exact Or.inr rfl
  · rw [e]; exact Or.inl rfl
theorem sp_X12_give {D : Nat → Bool} {q n nk : Nat} {G : mG} {f nf : Int} {bv : Nat → Nat → Int} {lf : Nat → Int} {Q : Option mV → mG → Prop} (hl : 0 ≤ G 64 18 ∧ G 64 18 ≤ 1) (hca : G 72 (Int.toNat (G 64 18)) ≤ 8) (h : (0 ≤ f ∧ f < 26) → (0 ≤ nf ∧ nf ≤ G 64 51) → fdH G f nf n nk bv lf) (hD : ∀ k, D k = false → inN [64, 104, 105, 106, 107, 108, 109, 110, 111, 112, 113, 114, 115, 116, 117] k = false) (h0 : ¬ ((0 ≤ f ∧ f < 26) ∧ (0 ≤ nf ∧ nf ≤ G 64 51)) → Q (some (mI (-1))) G) (h1 : (0 ≤ f ∧ f < 26) → (0 ≤ nf ∧ nf ≤ G 64 51) → ¬ f_X12_isFull G f = 0 → Q (some (mI (-2))) G) (h2 : (0 ≤ f ∧ f < 26) → (0 ≤ nf ∧ nf ≤ G 64 51) → f_X12_isFull G f = 0 → ∀ H1 H2, lsP G f nf n nk bv H1 → fdP G f 0 n H1 lf H2 → Q (some (mI (H2 64 70))) H2) : P2 D (q + 40) M_X12_give [mR 69, mI f, mI nf] G Q := by
  refine MP.to (D2 := inN [64, 104, 105, 106, 107, 108, 109, 110, 111, 112, 113, 114, 115, 116, 117]) (Q2 := Q) ?_ hD (fun v G' q _ => q)
  refine p2_vc [35] 400 oo_X12 q_X12_give (by decide) rfl (Nat.le_of_ble_eq_true rfl) ?_
  refine sp_X12_isFortnight  ?_
  have c2 := fa_X12_isFortnight G f
  refine ⟨fun (c3 : (f_X12_isFortnight G f) = 0) => ?_, fun (c3 : ¬ (f_X12_isFortnight G f) = 0) => ?_⟩
  · skip
    exact h0 (by omega)
  · skip
    refine sp_X12_isKnown  ?_
    have c5 := fa_X12_isKnown G nf
    refine ⟨fun (c6 : ¬ (f_X12_isKnown G nf) = 0) => ?_, fun (c6 : (f_X12_isKnown G nf) = 0) => ?_⟩
    · skip
      refine sp_X12_isFull (hl) (hca) ?_
      have c8 := fa_X12_isFull G f
      refine ⟨fun (c9 : (f_X12_isFull G f) = 0) => ?_, fun (c9 : ¬ (f_X12_isFull G f) = 0) => ?_⟩
      · skip
        refine sp_X12_finds (q := q + 9) (n := n) (nk := nk) (bv := bv) (lf := lf) (h (by omega) (by omega)) (insub (by decide)) (fun H1 H2 hP hF => ?_)
        refine (show W2 o_X12 M_X12_give (inN [64, 104, 105, 106, 107, 108, 109, 110, 111, 112, 113, 114, 115, 116, 117]) (q + 40) Q 35 [some (mR 69), some (mI f), some (mI nf)] [] H2 from ?_)
        refine w2_vc [35] 400 oo_X12 q_X12_give ?_
        exact h2 (by omega) (by omega) c9 H1 H2 hP hF
      · skip
        exact h1 (by omega) (by omega) c9
    · skip
      exact h0 (by omega)
theorem me_66 {q n nk b : Nat} {H : mG} {f nf : Int} {bv : Nat → Nat → Int} {lf : Nat → Int} {Q : Option mV → mG → Prop} (hb : H 64 44 ≤ (b : Int)) (h : fdH H f nf n nk bv lf) (h1 : ∀ H1 H2, lsP H f nf n nk bv H1 → fdP H f 1 n H1 lf H2 → Q (some (mI (H2 64 71))) H2) : W2 o_X12 M_X12_mend (inN [64, 104, 105, 106, 107, 108, 109, 110, 111, 112, 113, 114, 115, 116, 117, 118]) (q + 40) Q 39 [some (mR 69), some (mI f), some (mI nf), some (mI ((b : Nat) : Int))] [] H := by
  refine w2_vc [39, 73] 400 oo_X12 q_X12_mend ?_
  refine ⟨fun (c1 : (H 64 44) ≤ ((b : Nat) : Int)) => ?_, fun (c1 : ((b : Nat) : Int) < (H 64 44)) => ?_⟩
  · skip
    refine sp_X12_finds (q := q + 9) (n := n) (nk := nk) (bv := bv) (lf := lf) h (insub (by decide)) (fun H1 H2 hP hF => ?_)
    refine (show W2 o_X12 M_X12_mend (inN [64, 104, 105, 106, 107, 108, 109, 110, 111, 112, 113, 114, 115, 116, 117, 118]) (q + 40) Q 73 [some (mR 69), some (mI f), some (mI nf), some (mI ((b : Nat) : Int))] [] H2 from ?_)
    refine w2_vc [39, 73] 400 oo_X12 q_X12_mend ?_
    exact h1 H1 H2 hP hF
  · skip
    exfalso; first | omega | (rw [w32_i (by omega) (by omega)] at c1; omega) | (simp (disch := omega) only [w32_i] at *; omega)
theorem me_39 {q n b : Nat} {H : mG} {f nf : Int} {Q : Option mV → mG → Prop} (hn9 : n ≤ 9) (h44 : H 64 44 = (n : Int)) (hb : b < n) (hk : 0 ≤ nf ∧ nf ≤ 300) (h2 : b < n → W2 o_X12 M_X12_mend (inN [64, 104, 105, 106, 107, 108, 109, 110, 111, 112, 113, 114, 115, 116, 117, 118]) (q + 40) Q 39 [some (mR 69), some (mI f), some (mI nf), some (mI ((b + 1 : Nat) : Int))] [] (gs H 118 (Int.toNat ((b : Nat) : Int)) (f_X12_isLost H ((b : Nat) : Int) f nf))) : W2 o_X12 M_X12_mend (inN [64, 104, 105, 106, 107, 108, 109, 110, 111, 112, 113, 114, 115, 116, 117, 118]) (q + 40) Q 39 [some (mR 69), some (mI f), some (mI nf), some (mI ((b : Nat) : Int))] [] H := by
  refine w2_vc [39, 60] 400 oo_X12 q_X12_mend ?_
  refine ⟨fun (c1 : (H 64 44) ≤ ((b : Nat) : Int)) => ?_, fun (c1 : ((b : Nat) : Int) < (H 64 44)) => ?_⟩
  · skip
    exfalso; first | omega | (rw [w32_i (by omega) (by omega)] at c1; omega) | (simp (disch := omega) only [w32_i] at *; omega)
  · skip
    refine sp_X12_isLost (hk) ?_
    have c3 := fa_X12_isLost H ((b : Nat) : Int) f nf
    refine ⟨(show 0 ≤ ((b : Nat) : Int) ∧ ((b : Nat) : Int) < ((9 : Nat) : Int) from by first | omega | (simp (disch := omega) only [w32_i]; omega)), by omega, ?_⟩
    refine (show W2 o_X12 M_X12_mend (inN [64, 104, 105, 106, 107, 108, 109, 110, 111, 112, 113, 114, 115, 116, 117, 118]) (q + 40) Q 60 [some (mR 69), some (mI f), some (mI nf), some (mI ((b : Nat) : Int))] [] (gs H 118 (Int.toNat ((b : Nat) : Int)) (f_X12_isLost H ((b : Nat) : Int) f nf)) from ?_)
    refine w2_vc [39, 60] 400 oo_X12 q_X12_mend ?_
    refine (show W2 o_X12 M_X12_mend (inN [64, 104, 105, 106, 107, 108, 109, 110, 111, 112, 113, 114, 115, 116, 117, 118]) (q + 40) Q 39 [some (mR 69), some (mI f), some (mI nf), some (mI (w32 (((b : Nat) : Int) + 1)))] [] (gs H 118 (Int.toNat ((b : Nat) : Int)) (f_X12_isLost H ((b : Nat) : Int) f nf)) from ?_)
    rw [w32_nat (by omega)]
    exact h2 (by omega)
theorem me_0 {D : Nat → Bool} {q : Nat} {G : mG} {f nf : Int} {Q : Option mV → mG → Prop} (hl : 0 ≤ G 64 18 ∧ G 64 18 ≤ 1) (hca : G 72 (Int.toNat (G 64 18)) ≤ 8) (hD : ∀ k, D k = false → inN [64, 104, 105, 106, 107, 108, 109, 110, 111, 112, 113, 114, 115, 116, 117, 118] k = false) (h0 : ¬ ((0 ≤ f ∧ f < 26) ∧ (0 ≤ nf ∧ nf ≤ G 64 51) ∧ ¬ G 104 (Int.toNat f) = 0) → Q (some (mI (-1))) G) (h1 : (0 ≤ f ∧ f < 26) → (0 ≤ nf ∧ nf ≤ G 64 51) → ¬ G 104 (Int.toNat f) = 0 → ¬ f_X12_isFull G f = 0 → Q (some (mI (-2))) G) (h2 : (0 ≤ f ∧ f < 26) → (0 ≤ nf ∧ nf ≤ G 64 51) → ¬ G 104 (Int.toNat f) = 0 → f_X12_isFull G f = 0 → W2 o_X12 M_X12_mend (inN [64, 104, 105, 106, 107, 108, 109, 110, 111, 112, 113, 114, 115, 116, 117, 118]) (q + 40) Q 39 [some (mR 69), some (mI f), some (mI nf), some (mI 0)] [] G) : P2 D (q + 40) M_X12_mend [mR 69, mI f, mI nf] G Q := by
  refine MP.to (D2 := inN [64, 104, 105, 106, 107, 108, 109, 110, 111, 112, 113, 114, 115, 116, 117, 118]) (Q2 := Q) ?_ hD (fun v G' q _ => q)
  refine p2_vc [39] 400 oo_X12 q_X12_mend (by decide) rfl (Nat.le_of_ble_eq_true rfl) ?_
  refine sp_X12_isFortnight  ?_
  have c2 := fa_X12_isFortnight G f
  refine ⟨fun (c3 : (f_X12_isFortnight G f) = 0) => ?_, fun (c3 : ¬ (f_X12_isFortnight G f) = 0) => ?_⟩
  · skip
    exact h0 (by omega)
  · skip
    refine sp_X12_isKnown  ?_
    have c5 := fa_X12_isKnown G nf
    refine ⟨fun (c6 : (f_X12_isKnown G nf) = 0) => ?_, fun (c6 : ¬ (f_X12_isKnown G nf) = 0) => ?_⟩
    · skip
      exact h0 (by omega)
    · skip
      refine ⟨(show 0 ≤ f ∧ f < ((26 : Nat) : Int) from by first | omega | (simp (disch := omega) only [w32_i]; omega)), ?_⟩
      refine ⟨fun (c7 : ¬ (G 104 (Int.toNat f)) = 0) => ?_, fun (c7 : (G 104 (Int.toNat f)) = 0) => ?_⟩
      · skip
        refine sp_X12_isFull (hl) (hca) ?_
        have c9 := fa_X12_isFull G f
        refine ⟨fun (c10 : (f_X12_isFull G f) = 0) => ?_, fun (c10 : ¬ (f_X12_isFull G f) = 0) => ?_⟩
        · skip
          refine (show W2 o_X12 M_X12_mend (inN [64, 104, 105, 106, 107, 108, 109, 110, 111, 112, 113, 114, 115, 116, 117, 118]) (q + 40) Q 39 [some (mR 69), some (mI f), some (mI nf), some (mI 0)] [] G from ?_)
          exact h2 (by omega) (by omega) c7 c10
        · skip
          exact h1 (by omega) (by omega) c7 c10
      · skip
        exact h0 (by omega)
theorem sp_X12_mend {D : Nat → Bool} {q n nk : Nat} {G : mG} {f nf : Int} {bv : Nat → Nat → Int} {lf : Nat → Int} {Q : Option mV → mG → Prop} (hl : 0 ≤ G 64 18 ∧ G 64 18 ≤ 1) (hca : G 72 (Int.toNat (G 64 18)) ≤ 8) (hn9 : n ≤ 9) (h44 : G 64 44 = (n : Int)) (hfa : G 64 51 ≤ 300) (h : (0 ≤ f ∧ f < 26) → (0 ≤ nf ∧ nf ≤ G 64 51) → ∀ Gm : mG, (∀ k, k ≠ 118 → Gm k = G k) → fdH Gm f nf n nk bv lf) (hD : ∀ k, D k = false → inN [64, 104, 105, 106, 107, 108, 109, 110, 111, 112, 113, 114, 115, 116, 117, 118] k = false) (h0 : ¬ ((0 ≤ f ∧ f < 26) ∧ (0 ≤ nf ∧ nf ≤ G 64 51) ∧ ¬ G 104 (Int.toNat f) = 0) → Q (some (mI (-1))) G) (h1 : (0 ≤ f ∧ f < 26) → (0 ≤ nf ∧ nf ≤ G 64 51) → ¬ G 104 (Int.toNat f) = 0 → ¬ f_X12_isFull G f = 0 → Q (some (mI (-2))) G) (h2 : (0 ≤ f ∧ f < 26) → (0 ≤ nf ∧ nf ≤ G 64 51) → ¬ G 104 (Int.toNat f) = 0 → f_X12_isFull G f = 0 → ∀ Gm : mG, (∀ k, k ≠ 118 → Gm k = G k) → (∀ b, b < n → Gm 118 b = f_X12_isLost G ((b : Nat) : Int) f nf) → ∀ H1 H2, lsP Gm f nf n nk bv H1 → fdP Gm f 1 n H1 lf H2 → Q (some (mI (H2 64 71))) H2) : P2 D (q + 40) M_X12_mend [mR 69, mI f, mI nf] G Q := by
  refine me_0 hl hca hD h0 h1 (fun a1 a2 a3 a4 => ?_)
  have loop : ∀ t b : Nat, b + t = n → ∀ H : mG, (∀ k, k ≠ 118 → H k = G k) → (∀ i, i < b → H 118 i = f_X12_isLost G ((i : Nat) : Int) f nf) → W2 o_X12 M_X12_mend (inN [64, 104, 105, 106, 107, 108, 109, 110, 111, 112, 113, 114, 115, 116, 117, 118]) (q + 40) Q 39 [some (mR 69), some (mI f), some (mI nf), some (mI ((b : Nat) : Int))] [] H := by
    intro t
    induction t with
    | zero =>
      intro b hb H k1 k2
      exact me_66 (by rw [k1 64 (by decide), h44]; omega) (h a1 a2 H k1) (fun H1 H2 p1 p2 => h2 a1 a2 a3 a4 H k1 (fun i hi => k2 i (by omega)) H1 H2 p1 p2)
    | succ t ih =>
      intro b hb H k1 k2
      refine me_39 hn9 (by rw [k1 64 (by decide)]; exact h44) (by omega) (by omega) (fun _ => ?_)
      rw [st_nat, lost_r (k1 100 (by decide)) (k1 101 (by decide)) (k1 102 (by decide))]
      refine ih (b + 1) (by omega) _ (fun k hk => by rw [gs_ne hk]; exact k1 k hk) (fun i hi => ?_)
      by_cases hib : i = b
      · rw [hib, gs_at]
      · rw [gs_at_ne hib]; exact k2 i (by omega)
  exact loop n 0 (by omega) G (fun _ _ => rfl) (fun i hi => absurd hi (by omega))
