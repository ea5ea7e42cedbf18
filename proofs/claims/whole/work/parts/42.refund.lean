/-! ===== printed by wip/whole/gen42.py: the reference: refundOf, may, bar, ground, refund, reach ===== -/
set_option maxHeartbeats 8000000 in
theorem refundOf_loop {q : Nat} {G1 : mG} {b x f nf : Int} {n : Nat} {Q : Option mV → mG → Prop} (hlv : 0 ≤ G1 64 18 ∧ G1 64 18 ≤ 1) (hb9 : 0 ≤ b ∧ b < 9) (hn : (n : Int) = G1 76 (G1 64 18).toNat) (h40 : n ≤ 40) (hRW : rW G1) (hQ : ∀ H', (∀ k, k ≠ 107 → H' k = G1 k) → Q (some (mI (fs (pR G1 3 b x) n))) H') : ∀ t j, j + t = n → (∀ i, i < j → pR G1 3 b x i = false) → ∀ Hj : mG, (∀ k, k ≠ 107 → Hj k = G1 k) → W2 o_X12 M_X12_refundOf (inN [106, 107]) (q + 20) Q 75 [some (mR 69), some (mI b), some (mI f), some (mI nf), some (mI x), some (mI ((j : Nat) : Int))] [] Hj := by
    intro t
    induction t with
    | zero =>
      intro j hjn hno Hj hj
      have e18 : Hj 64 18 = G1 64 18 := by rw [hj 64 (by decide)]
      have e76 : Hj 76 (Int.toNat (Hj 64 18)) = G1 76 (Int.toNat (G1 64 18)) := by rw [e18, hj 76 (by decide)]
      refine w2_vc [75] 400 oo_X12 q_X12_refundOf ?_
      refine ⟨(show 0 ≤ (Hj 64 18) ∧ (Hj 64 18) < ((2 : Nat) : Int) from by first | omega | (simp (disch := omega) only [w32_i]; omega)), ?_⟩
      refine ⟨fun (c1 : (Hj 76 (Int.toNat (Hj 64 18))) ≤ ((j : Nat) : Int)) => ?_, fun (c1 : ((j : Nat) : Int) < (Hj 76 (Int.toNat (Hj 64 18)))) => ?_⟩
      · skip
        refine (show Q (some (mI (-1))) Hj from ?_)
        rw [show (-1 : Int) = fs (pR G1 3 b x) n from (fs_no (fun i hi => hno i (by omega))).symm]
        exact hQ _ hj
      · skip
        exfalso; first | omega | (rw [w32_i (by omega) (by omega)] at c1; omega) | (simp (disch := omega) only [w32_i] at *; omega)
    | succ t iht =>
      intro j hjn hno Hj hj
      have e18 : Hj 64 18 = G1 64 18 := by rw [hj 64 (by decide)]
      have e76 : Hj 76 (Int.toNat (Hj 64 18)) = G1 76 (Int.toNat (G1 64 18)) := by rw [e18, hj 76 (by decide)]
      have eix : Int.toNat (w32 ((w32 (40 * (Hj 64 18))) + ((j : Nat) : Int))) = 40 * (G1 64 18).toNat + j := by rw [e18, w32_i (x := 40 * G1 64 18) (by omega) (by omega), w32_i (by omega) (by omega)]; omega
      refine w2_vc [75, 143] 400 oo_X12 q_X12_refundOf ?_
      refine ⟨(show 0 ≤ (Hj 64 18) ∧ (Hj 64 18) < ((2 : Nat) : Int) from by first | omega | (simp (disch := omega) only [w32_i]; omega)), ?_⟩
      refine ⟨fun (c1 : (Hj 76 (Int.toNat (Hj 64 18))) ≤ ((j : Nat) : Int)) => ?_, fun (c1 : ((j : Nat) : Int) < (Hj 76 (Int.toNat (Hj 64 18)))) => ?_⟩
      · skip
        exfalso; first | omega | (rw [w32_i (by omega) (by omega)] at c1; omega) | (simp (disch := omega) only [w32_i] at *; omega)
      · skip
        refine ⟨(show 0 ≤ (w32 ((w32 (40 * (Hj 64 18))) + ((j : Nat) : Int))) ∧ (w32 ((w32 (40 * (Hj 64 18))) + ((j : Nat) : Int))) < ((80 : Nat) : Int) from by first | omega | (rw [show (w32 ((w32 (40 * (Hj 64 18))) + ((j : Nat) : Int))) = (40 * (Hj 64 18)) + ((j : Nat) : Int) from by rw [w32_i (x := (40 * (Hj 64 18))) (by omega) (by omega), w32_i (x := (40 * (Hj 64 18)) + ((j : Nat) : Int)) (by omega) (by omega)]]; omega) | (simp (disch := omega) only [w32_i]; omega)), ?_⟩
        refine ⟨fun (c2 : ¬ (Hj 77 (Int.toNat (w32 ((w32 (40 * (Hj 64 18))) + ((j : Nat) : Int))))) = 3) => ?_, fun (c2 : (Hj 77 (Int.toNat (w32 ((w32 (40 * (Hj 64 18))) + ((j : Nat) : Int))))) = 3) => ?_⟩
        · skip
          refine (show W2 o_X12 M_X12_refundOf (inN [106, 107]) (q + 20) Q 75 [some (mR 69), some (mI b), some (mI f), some (mI nf), some (mI x), some (mI (w32 (((j : Nat) : Int) + 1)))] [] Hj from ?_)
          rw [w32_nat (by omega)]
          exact iht (j + 1) (by omega) (fs_nx hno (by unfold pR; rw [decide_eq_false (show ¬ G1 77 (40 * (G1 64 18).toNat + j) = 3 by have q := c2; rw [eix, hj 77 (by decide)] at q; exact q)]; rfl)) Hj hj
        · skip
          refine ⟨(show 0 ≤ (w32 ((w32 (40 * (Hj 64 18))) + ((j : Nat) : Int))) ∧ (w32 ((w32 (40 * (Hj 64 18))) + ((j : Nat) : Int))) < ((80 : Nat) : Int) from by first | omega | (rw [show (w32 ((w32 (40 * (Hj 64 18))) + ((j : Nat) : Int))) = (40 * (Hj 64 18)) + ((j : Nat) : Int) from by rw [w32_i (x := (40 * (Hj 64 18))) (by omega) (by omega), w32_i (x := (40 * (Hj 64 18)) + ((j : Nat) : Int)) (by omega) (by omega)]]; omega) | (simp (disch := omega) only [w32_i]; omega)), ?_⟩
          refine ⟨fun (c3 : ¬ (Hj 78 (Int.toNat (w32 ((w32 (40 * (Hj 64 18))) + ((j : Nat) : Int))))) = x) => ?_, fun (c3 : (Hj 78 (Int.toNat (w32 ((w32 (40 * (Hj 64 18))) + ((j : Nat) : Int))))) = x) => ?_⟩
          · skip
            refine (show W2 o_X12 M_X12_refundOf (inN [106, 107]) (q + 20) Q 75 [some (mR 69), some (mI b), some (mI f), some (mI nf), some (mI x), some (mI (w32 (((j : Nat) : Int) + 1)))] [] Hj from ?_)
            rw [w32_nat (by omega)]
            exact iht (j + 1) (by omega) (fs_nx hno (by unfold pR; rw [decide_eq_false (show ¬ G1 78 (40 * (G1 64 18).toNat + j) = x by have q := c3; rw [eix, hj 78 (by decide)] at q; exact q)]; simp)) Hj hj
          · skip
            refine sp_X12_holds (x := (w32 ((w32 (40 * (Hj 64 18))) + ((j : Nat) : Int)))) (q := q + 9) (N := (G1 83 (40 * (G1 64 18).toNat + j) - G1 82 (40 * (G1 64 18).toNat + j)).toNat) (l0 := 600 * (G1 64 18).toNat + (G1 82 (40 * (G1 64 18).toNat + j)).toNat) (by omega) hb9 (by rw [e18, w32_i (x := 40 * G1 64 18) (by omega) (by omega), w32_i (by omega) (by omega)]; omega) (by rw [eix, hj 82 (by decide), hj 83 (by decide)]; exact (hRW j (by omega) (Or.inr (by have q := c2; rw [eix, hj 77 (by decide)] at q; exact q))).1) (by rw [eix, hj 82 (by decide), hj 83 (by decide)]) (by rw [eix, e18, hj 82 (by decide)]) (fun i hi => lW_to ((hRW j (by omega) (Or.inr (by have q := c2; rw [eix, hj 77 (by decide)] at q; exact q))).2 i hi) (hj _ (by decide)) (hj _ (by decide)) (hj _ (by decide)) (hj _ (by decide)) (hj _ (by decide)) (hj _ (by decide))) (insub (by decide)) (fun H2 qH2 => ?_)
            have hH2 : ∀ k, k ≠ 107 → H2 k = G1 k := fun k hk => (qH2 k hk).trans (hj k hk)
            rw [show hRs (lor Hj) (litV Hj b) (600 * (G1 64 18).toNat + (G1 82 (40 * (G1 64 18).toNat + j)).toNat) (G1 83 (40 * (G1 64 18).toNat + j) - G1 82 (40 * (G1 64 18).toNat + j)).toNat = hRl G1 b j from by rw [← hRl_to (b := b) (c := j) hj]; unfold hRl; rw [hj 64 (by decide), hj 82 (by decide), hj 83 (by decide)]]
            refine (show W2 o_X12 M_X12_refundOf (inN [106, 107]) (q + 20) Q 143 [some (mR 69), some (mI b), some (mI f), some (mI nf), some (mI x), some (mI ((j : Nat) : Int))] [mI (b01 (hRl G1 b j))] H2 from ?_)
            refine w2_vc [75, 143] 400 oo_X12 q_X12_refundOf ?_
            refine ⟨fun (c4 : (b01 (hRl G1 b j)) = 0) => ?_, fun (c4 : ¬ (b01 (hRl G1 b j)) = 0) => ?_⟩
            · skip
              refine (show W2 o_X12 M_X12_refundOf (inN [106, 107]) (q + 20) Q 75 [some (mR 69), some (mI b), some (mI f), some (mI nf), some (mI x), some (mI (w32 (((j : Nat) : Int) + 1)))] [] H2 from ?_)
              rw [w32_nat (by omega)]
              exact iht (j + 1) (by omega) (fs_nx hno (by unfold pR; rw [b01_z' rfl c4]; simp)) H2 hH2
            · skip
              refine (show Q (some (mI ((j : Nat) : Int))) H2 from ?_)
              rw [show ((j : Nat) : Int) = fs (pR G1 3 b x) n from (fs_at hno (by unfold pR; rw [decide_eq_true (show G1 77 (40 * (G1 64 18).toNat + j) = 3 by have q := c2; rw [eix, hj 77 (by decide)] at q; exact q), decide_eq_true (show G1 78 (40 * (G1 64 18).toNat + j) = x by have q := c3; rw [eix, hj 78 (by decide)] at q; exact q), b01_n' rfl c4]; rfl) (by omega)).symm]
              exact hQ _ hH2
def e_X12_rf (G : mG) (b f nf : Int) : mG := (gs (gs (gs (e_X12_asksBoard G b) 106 (Int.toNat 3) (f_X12_days (e_X12_asksBoard G b) b f nf 1)) 106 (Int.toNat 4) (f_X12_days (gs (e_X12_asksBoard G b) 106 (Int.toNat 3) (f_X12_days (e_X12_asksBoard G b) b f nf 1)) b f nf 2)) 106 (Int.toNat 5) (f_X12_late (gs (gs (e_X12_asksBoard G b) 106 (Int.toNat 3) (f_X12_days (e_X12_asksBoard G b) b f nf 1)) 106 (Int.toNat 4) (f_X12_days (gs (e_X12_asksBoard G b) 106 (Int.toNat 3) (f_X12_days (e_X12_asksBoard G b) b f nf 1)) b f nf 2)) b f nf))
theorem fr_X12_rf {G : mG} {b f nf : Int} {k : Nat} (hk : k ≠ 106) : e_X12_rf G b f nf k = G k := by
  unfold e_X12_rf
  rw [gs_ne hk, gs_ne hk, gs_ne hk, fr_X12_asksBoard (fun a ha => by simp only [List.mem_cons, List.not_mem_nil, or_false] at ha; omega)]
set_option maxHeartbeats 4000000 in
theorem sp_X12_refundOf {D : Nat → Bool} {q : Nat} {G : mG} {b f nf : Int} {n : Nat} {Q : Option mV → mG → Prop} (hlv : 0 ≤ G 64 18 ∧ G 64 18 ≤ 1) (hb9 : 0 ≤ b ∧ b < 9) (hf : 0 ≤ f ∧ f < 26) (hk : 0 ≤ nf ∧ nf ≤ 300) (hd : ∀ i, i < 9 → 0 ≤ G 94 i ∧ G 94 i ≤ 5) (hpc : ∀ i, i < 6 → 1 ≤ G 99 i) (hn : (n : Int) = G 76 (G 64 18).toNat) (h40 : n ≤ 40) (hRW : rW G) (hgi : 0 ≤ G 105 (Int.toNat (w32 ((w32 (9 * f)) + b))) ∧ G 105 (Int.toNat (w32 ((w32 (9 * f)) + b))) < 40) (hD : ∀ k, D k = false → inN [106, 107] k = false) (hQ : ∀ H', (∀ k, k ≠ 106 → k ≠ 107 → H' k = G k) → Q (some (mI (fs (pR (e_X12_rf G b f nf) 3 b (G 78 (Int.toNat (w32 ((w32 (40 * (G 64 18))) + (G 105 (Int.toNat (w32 ((w32 (9 * f)) + b))))))))) n))) H') : P2 D (q + 20) M_X12_refundOf [mR 69, mI b, mI f, mI nf] G Q := by
  refine MP.to (D2 := inN [106, 107]) (Q2 := Q) ?_ hD (fun v G' q _ => q)
  refine p2_vc [22, 24, 26, 45, 58, 59, 71, 72, 75] 400 oo_X12 q_X12_refundOf (by decide) rfl (Nat.le_of_ble_eq_true rfl) ?_
  refine ⟨(show 0 ≤ (w32 ((w32 (9 * f)) + b)) ∧ (w32 ((w32 (9 * f)) + b)) < ((234 : Nat) : Int) from by first | omega | (rw [show (w32 ((w32 (9 * f)) + b)) = (9 * f) + b from by rw [w32_i (x := (9 * f)) (by omega) (by omega), w32_i (x := (9 * f) + b) (by omega) (by omega)]]; omega) | (simp (disch := omega) only [w32_i]; omega)), ?_⟩
  refine (show W2 o_X12 M_X12_refundOf (inN [106, 107]) (q + 20) Q 22 [some (mR 69), some (mI b), some (mI f), some (mI nf), none, none] [mI (G 105 (Int.toNat (w32 ((w32 (9 * f)) + b)))), mI (w32 (40 * (G 64 18))), mR 83] G from ?_)
  refine w2_vc [22, 24, 26, 45, 58, 59, 71, 72, 75] 400 oo_X12 q_X12_refundOf ?_
  refine ⟨(show 0 ≤ (w32 ((w32 (40 * (G 64 18))) + (G 105 (Int.toNat (w32 ((w32 (9 * f)) + b)))))) ∧ (w32 ((w32 (40 * (G 64 18))) + (G 105 (Int.toNat (w32 ((w32 (9 * f)) + b)))))) < ((80 : Nat) : Int) from by first | omega | (rw [show (w32 ((w32 (40 * (G 64 18))) + (G 105 (Int.toNat (w32 ((w32 (9 * f)) + b)))))) = (40 * (G 64 18)) + (G 105 (Int.toNat (w32 ((w32 (9 * f)) + b)))) from by rw [w32_i (x := (40 * (G 64 18))) (by omega) (by omega), w32_i (x := (40 * (G 64 18)) + (G 105 (Int.toNat (w32 ((w32 (9 * f)) + b))))) (by omega) (by omega)]]; omega) | (simp (disch := omega) only [w32_i]; omega)), ?_⟩
  refine (show W2 o_X12 M_X12_refundOf (inN [106, 107]) (q + 20) Q 24 [some (mR 69), some (mI b), some (mI f), some (mI nf), none, none] [mI (G 78 (Int.toNat (w32 ((w32 (40 * (G 64 18))) + (G 105 (Int.toNat (w32 ((w32 (9 * f)) + b))))))))] G from ?_)
  refine w2_vc [22, 24, 26, 45, 58, 59, 71, 72, 75] 400 oo_X12 q_X12_refundOf ?_
  refine (show W2 o_X12 M_X12_refundOf (inN [106, 107]) (q + 20) Q 26 [some (mR 69), some (mI b), some (mI f), some (mI nf), some (mI (G 78 (Int.toNat (w32 ((w32 (40 * (G 64 18))) + (G 105 (Int.toNat (w32 ((w32 (9 * f)) + b))))))))), none] [] G from ?_)
  generalize (G 78 (Int.toNat (w32 ((w32 (40 * (G 64 18))) + (G 105 (Int.toNat (w32 ((w32 (9 * f)) + b)))))))) = x at hQ ⊢
  refine (show W2 o_X12 M_X12_refundOf (inN [106, 107]) (q + 20) Q 26 [some (mR 69), some (mI b), some (mI f), some (mI nf), some (mI x), none] [] G from ?_)
  refine w2_vc [22, 24, 26, 45, 58, 59, 71, 72, 75] 400 oo_X12 q_X12_refundOf ?_
  refine sp_X12_asksBoard (hb9) (insub (by decide)) ?_
  refine sp_X12_days (by first | omega | (simp (disch := decide) only [gs_ne, gs_at_ne, fr_X12_asksBoard]; omega)) ?_
  refine ⟨(show 0 ≤ 3 ∧ 3 < ((6 : Nat) : Int) from by first | omega | (simp (disch := omega) only [w32_i]; omega)), ?_⟩
  refine (show W2 o_X12 M_X12_refundOf (inN [106, 107]) (q + 20) Q 45 [some (mR 69), some (mI b), some (mI f), some (mI nf), some (mI x), none] [] (gs (e_X12_asksBoard G b) 106 (Int.toNat 3) (f_X12_days (e_X12_asksBoard G b) b f nf 1)) from ?_)
  refine w2_vc [22, 24, 26, 45, 58, 59, 71, 72, 75] 400 oo_X12 q_X12_refundOf ?_
  refine sp_X12_days (by first | omega | (simp (disch := decide) only [gs_ne, gs_at_ne, fr_X12_asksBoard]; omega)) ?_
  refine (show W2 o_X12 M_X12_refundOf (inN [106, 107]) (q + 20) Q 58 [some (mR 69), some (mI b), some (mI f), some (mI nf), some (mI x), none] [mI (f_X12_days (gs (e_X12_asksBoard G b) 106 (Int.toNat 3) (f_X12_days (e_X12_asksBoard G b) b f nf 1)) b f nf 2), mI 4, mR 111] (gs (e_X12_asksBoard G b) 106 (Int.toNat 3) (f_X12_days (e_X12_asksBoard G b) b f nf 1)) from ?_)
  refine w2_vc [22, 24, 26, 45, 58, 59, 71, 72, 75] 400 oo_X12 q_X12_refundOf ?_
  refine ⟨(show 0 ≤ 4 ∧ 4 < ((6 : Nat) : Int) from by first | omega | (simp (disch := omega) only [w32_i]; omega)), ?_⟩
  refine (show W2 o_X12 M_X12_refundOf (inN [106, 107]) (q + 20) Q 59 [some (mR 69), some (mI b), some (mI f), some (mI nf), some (mI x), none] [] (gs (gs (e_X12_asksBoard G b) 106 (Int.toNat 3) (f_X12_days (e_X12_asksBoard G b) b f nf 1)) 106 (Int.toNat 4) (f_X12_days (gs (e_X12_asksBoard G b) 106 (Int.toNat 3) (f_X12_days (e_X12_asksBoard G b) b f nf 1)) b f nf 2)) from ?_)
  refine w2_vc [22, 24, 26, 45, 58, 59, 71, 72, 75] 400 oo_X12 q_X12_refundOf ?_
  refine sp_X12_late (by first | omega | (simp (disch := decide) only [gs_ne, gs_at_ne, fr_X12_asksBoard]; omega)) (by first | omega | (simp (disch := decide) only [gs_ne, gs_at_ne, fr_X12_asksBoard]; omega)) (by (try simp (disch := decide) only [gs_ne, gs_at_ne, fr_X12_asksBoard]); exact hd) (by (try simp (disch := decide) only [gs_ne, gs_at_ne, fr_X12_asksBoard]); exact hpc) (by first | omega | (simp (disch := decide) only [gs_ne, gs_at_ne, fr_X12_asksBoard]; omega)) ?_
  refine (show W2 o_X12 M_X12_refundOf (inN [106, 107]) (q + 20) Q 71 [some (mR 69), some (mI b), some (mI f), some (mI nf), some (mI x), none] [mI (f_X12_late (gs (gs (e_X12_asksBoard G b) 106 (Int.toNat 3) (f_X12_days (e_X12_asksBoard G b) b f nf 1)) 106 (Int.toNat 4) (f_X12_days (gs (e_X12_asksBoard G b) 106 (Int.toNat 3) (f_X12_days (e_X12_asksBoard G b) b f nf 1)) b f nf 2)) b f nf), mI 5, mR 111] (gs (gs (e_X12_asksBoard G b) 106 (Int.toNat 3) (f_X12_days (e_X12_asksBoard G b) b f nf 1)) 106 (Int.toNat 4) (f_X12_days (gs (e_X12_asksBoard G b) 106 (Int.toNat 3) (f_X12_days (e_X12_asksBoard G b) b f nf 1)) b f nf 2)) from ?_)
  refine w2_vc [22, 24, 26, 45, 58, 59, 71, 72, 75] 400 oo_X12 q_X12_refundOf ?_
  refine ⟨(show 0 ≤ 5 ∧ 5 < ((6 : Nat) : Int) from by first | omega | (simp (disch := omega) only [w32_i]; omega)), ?_⟩
  refine (show W2 o_X12 M_X12_refundOf (inN [106, 107]) (q + 20) Q 72 [some (mR 69), some (mI b), some (mI f), some (mI nf), some (mI x), none] [] (gs (gs (gs (e_X12_asksBoard G b) 106 (Int.toNat 3) (f_X12_days (e_X12_asksBoard G b) b f nf 1)) 106 (Int.toNat 4) (f_X12_days (gs (e_X12_asksBoard G b) 106 (Int.toNat 3) (f_X12_days (e_X12_asksBoard G b) b f nf 1)) b f nf 2)) 106 (Int.toNat 5) (f_X12_late (gs (gs (e_X12_asksBoard G b) 106 (Int.toNat 3) (f_X12_days (e_X12_asksBoard G b) b f nf 1)) 106 (Int.toNat 4) (f_X12_days (gs (e_X12_asksBoard G b) 106 (Int.toNat 3) (f_X12_days (e_X12_asksBoard G b) b f nf 1)) b f nf 2)) b f nf)) from ?_)
  refine w2_vc [22, 24, 26, 45, 58, 59, 71, 72, 75] 400 oo_X12 q_X12_refundOf ?_
  refine (show W2 o_X12 M_X12_refundOf (inN [106, 107]) (q + 20) Q 75 [some (mR 69), some (mI b), some (mI f), some (mI nf), some (mI x), some (mI 0)] [] (gs (gs (gs (e_X12_asksBoard G b) 106 (Int.toNat 3) (f_X12_days (e_X12_asksBoard G b) b f nf 1)) 106 (Int.toNat 4) (f_X12_days (gs (e_X12_asksBoard G b) 106 (Int.toNat 3) (f_X12_days (e_X12_asksBoard G b) b f nf 1)) b f nf 2)) 106 (Int.toNat 5) (f_X12_late (gs (gs (e_X12_asksBoard G b) 106 (Int.toNat 3) (f_X12_days (e_X12_asksBoard G b) b f nf 1)) 106 (Int.toNat 4) (f_X12_days (gs (e_X12_asksBoard G b) 106 (Int.toNat 3) (f_X12_days (e_X12_asksBoard G b) b f nf 1)) b f nf 2)) b f nf)) from ?_)
  have hE : e_X12_rf G b f nf = (gs (gs (gs (e_X12_asksBoard G b) 106 (Int.toNat 3) (f_X12_days (e_X12_asksBoard G b) b f nf 1)) 106 (Int.toNat 4) (f_X12_days (gs (e_X12_asksBoard G b) 106 (Int.toNat 3) (f_X12_days (e_X12_asksBoard G b) b f nf 1)) b f nf 2)) 106 (Int.toNat 5) (f_X12_late (gs (gs (e_X12_asksBoard G b) 106 (Int.toNat 3) (f_X12_days (e_X12_asksBoard G b) b f nf 1)) 106 (Int.toNat 4) (f_X12_days (gs (e_X12_asksBoard G b) 106 (Int.toNat 3) (f_X12_days (e_X12_asksBoard G b) b f nf 1)) b f nf 2)) b f nf)) := rfl
  rw [← hE]
  have hfr : ∀ k, k ≠ 106 → e_X12_rf G b f nf k = G k := fun k hk => fr_X12_rf hk
  exact refundOf_loop (by rw [hfr 64 (by decide)]; exact hlv) hb9 (by rw [hfr 64 (by decide), hfr 76 (by decide)]; exact hn) h40 (rW_ne hRW (fun k h1 _ => hfr k h1)) (fun H2 h2 => hQ _ (fun k h1 h3 => (h2 k h3).trans (hfr k h1))) n 0 (by omega) (fun i hi => absurd hi (by omega)) _ (fun _ _ => rfl)
def v_X12_may (G : mG) (b x : Int) (n : Nat) : Int := if f_X12_isBoard G b = 0 then -1 else (if f_X12_isCampaign G x = 0 then -1 else (if fs (pR (e_X12_asksBoard G b) 1 b x) n = -1 then 1 else 0))
theorem sp_X12_may {D : Nat → Bool} {q : Nat} {G : mG} {b x : Int} {n : Nat} {Q : Option mV → mG → Prop} (hlv : 0 ≤ G 64 18 ∧ G 64 18 ≤ 1) (hbd : 0 ≤ G 64 44 ∧ G 64 44 ≤ 9) (hn : (n : Int) = G 76 (G 64 18).toNat) (h40 : n ≤ 40) (hRW : rW G) (hD : ∀ k, D k = false → inN [106, 107] k = false) (hQ : ∀ H', (∀ k, k ≠ 106 → k ≠ 107 → H' k = G k) → Q (some (mI (v_X12_may G b x n))) H') : P2 D (q + 30) M_X12_may [mR 69, mI b, mI x] G Q := by
  refine MP.to (D2 := inN [106, 107]) (Q2 := Q) ?_ hD (fun v G' q _ => q)
  refine p2_vc [22] 400 oo_X12 q_X12_may (by decide) rfl (Nat.le_of_ble_eq_true rfl) ?_
  refine sp_X12_isBoard  ?_
  have c2 := fa_X12_isBoard G b
  refine ⟨fun (c3 : (f_X12_isBoard G b) = 0) => ?_, fun (c3 : ¬ (f_X12_isBoard G b) = 0) => ?_⟩
  · skip
    refine (show Q (some (mI (-1))) G from ?_)
    rw [show ((-1) : Int) = v_X12_may G b x n from by unfold v_X12_may; rw [if_pos c3]]
    exact hQ G (fun _ _ _ => rfl)
  · skip
    refine sp_X12_isCampaign (by omega) ?_
    have c5 := fa_X12_isCampaign G x
    refine ⟨fun (c6 : (f_X12_isCampaign G x) = 0) => ?_, fun (c6 : ¬ (f_X12_isCampaign G x) = 0) => ?_⟩
    · skip
      refine (show Q (some (mI (-1))) G from ?_)
      rw [show ((-1) : Int) = v_X12_may G b x n from by unfold v_X12_may; rw [if_neg c3, if_pos c6]]
      exact hQ G (fun _ _ _ => rfl)
    · skip
      refine sp_X12_barOf (q := q + 9) (n := n) hlv (by omega) hn h40 hRW (insub (by decide)) (fun H2 hH2 => ?_)
      refine (show W2 o_X12 M_X12_may (inN [106, 107]) (q + 30) Q 22 [some (mR 69), some (mI b), some (mI x)] [mI (fs (pR (e_X12_asksBoard G b) 1 b x) n)] H2 from ?_)
      refine w2_vc [22] 400 oo_X12 q_X12_may ?_
      refine ⟨fun (c7 : ¬ (fs (pR (e_X12_asksBoard G b) 1 b x) n) = (-1)) => ?_, fun (c7 : (fs (pR (e_X12_asksBoard G b) 1 b x) n) = (-1)) => ?_⟩
      · skip
        refine (show Q (some (mI 0)) H2 from ?_)
        rw [show (0 : Int) = v_X12_may G b x n from by unfold v_X12_may; rw [if_neg c3, if_neg c6, if_neg c7]]
        exact hQ H2 hH2
      · skip
        refine (show Q (some (mI 1)) H2 from ?_)
        rw [show (1 : Int) = v_X12_may G b x n from by unfold v_X12_may; rw [if_neg c3, if_neg c6, if_pos c7]]
        exact hQ H2 hH2
def v_X12_bar (G : mG) (b x : Int) (n : Nat) : Int := if f_X12_isBoard G b = 0 then -1 else (if f_X12_isCampaign G x = 0 then -1 else (fs (pR (e_X12_asksBoard G b) 1 b x) n))
theorem sp_X12_bar {D : Nat → Bool} {q : Nat} {G : mG} {b x : Int} {n : Nat} {Q : Option mV → mG → Prop} (hlv : 0 ≤ G 64 18 ∧ G 64 18 ≤ 1) (hbd : 0 ≤ G 64 44 ∧ G 64 44 ≤ 9) (hn : (n : Int) = G 76 (G 64 18).toNat) (h40 : n ≤ 40) (hRW : rW G) (hD : ∀ k, D k = false → inN [106, 107] k = false) (hQ : ∀ H', (∀ k, k ≠ 106 → k ≠ 107 → H' k = G k) → Q (some (mI (v_X12_bar G b x n))) H') : P2 D (q + 30) M_X12_bar [mR 69, mI b, mI x] G Q := by
  refine MP.to (D2 := inN [106, 107]) (Q2 := Q) ?_ hD (fun v G' q _ => q)
  refine p2_vc [22] 400 oo_X12 q_X12_bar (by decide) rfl (Nat.le_of_ble_eq_true rfl) ?_
  refine sp_X12_isBoard  ?_
  have c2 := fa_X12_isBoard G b
  refine ⟨fun (c3 : (f_X12_isBoard G b) = 0) => ?_, fun (c3 : ¬ (f_X12_isBoard G b) = 0) => ?_⟩
  · skip
    refine (show Q (some (mI (-1))) G from ?_)
    rw [show ((-1) : Int) = v_X12_bar G b x n from by unfold v_X12_bar; rw [if_pos c3]]
    exact hQ G (fun _ _ _ => rfl)
  · skip
    refine sp_X12_isCampaign (by omega) ?_
    have c5 := fa_X12_isCampaign G x
    refine ⟨fun (c6 : (f_X12_isCampaign G x) = 0) => ?_, fun (c6 : ¬ (f_X12_isCampaign G x) = 0) => ?_⟩
    · skip
      refine (show Q (some (mI (-1))) G from ?_)
      rw [show ((-1) : Int) = v_X12_bar G b x n from by unfold v_X12_bar; rw [if_neg c3, if_pos c6]]
      exact hQ G (fun _ _ _ => rfl)
    · skip
      refine sp_X12_barOf (q := q + 9) (n := n) hlv (by omega) hn h40 hRW (insub (by decide)) (fun H2 hH2 => ?_)
      refine (show W2 o_X12 M_X12_bar (inN [106, 107]) (q + 30) Q 22 [some (mR 69), some (mI b), some (mI x)] [mI (fs (pR (e_X12_asksBoard G b) 1 b x) n)] H2 from ?_)
      refine w2_vc [22] 400 oo_X12 q_X12_bar ?_
      refine (show Q (some (mI (fs (pR (e_X12_asksBoard G b) 1 b x) n))) H2 from ?_)
      rw [show ((fs (pR (e_X12_asksBoard G b) 1 b x) n) : Int) = v_X12_bar G b x n from by unfold v_X12_bar; rw [if_neg c3, if_neg c6]]
      exact hQ H2 hH2
def v_X12_ground (G : mG) (b f nf : Int) (n : Nat) : Int := if f_X12_isBoard G b = 0 then -1 else (if f_X12_isFortnight G f = 0 then -1 else (if f_X12_isKnown G nf = 0 then -1 else (if G 104 (Int.toNat f) = 0 then -1 else (if (G 105 (Int.toNat (w32 ((w32 (9 * f)) + b)))) = -1 then -1 else fs (pR (e_X12_rf G b f nf) 3 b (G 78 (Int.toNat (w32 ((w32 (40 * (G 64 18))) + (G 105 (Int.toNat (w32 ((w32 (9 * f)) + b))))))))) n))))
theorem sp_X12_ground {D : Nat → Bool} {q : Nat} {G : mG} {b f nf : Int} {n : Nat} {Q : Option mV → mG → Prop} (hlv : 0 ≤ G 64 18 ∧ G 64 18 ≤ 1) (hbd : 0 ≤ G 64 44 ∧ G 64 44 ≤ 9) (hfa : G 64 51 ≤ 300) (hd : ∀ i, i < 9 → 0 ≤ G 94 i ∧ G 94 i ≤ 5) (hpc : ∀ i, i < 6 → 1 ≤ G 99 i) (hn : (n : Int) = G 76 (G 64 18).toNat) (h40 : n ≤ 40) (hRW : rW G) (hgi : (0 ≤ b ∧ b < 9) → (0 ≤ f ∧ f < 26) → -1 ≤ (G 105 (Int.toNat (w32 ((w32 (9 * f)) + b)))) ∧ (G 105 (Int.toNat (w32 ((w32 (9 * f)) + b)))) < 40) (hD : ∀ k, D k = false → inN [106, 107] k = false) (hQ : ∀ H', (∀ k, k ≠ 106 → k ≠ 107 → H' k = G k) → Q (some (mI (v_X12_ground G b f nf n))) H') : P2 D (q + 30) M_X12_ground [mR 69, mI b, mI f, mI nf] G Q := by
  refine MP.to (D2 := inN [106, 107]) (Q2 := Q) ?_ hD (fun v G' q _ => q)
  refine p2_vc [58] 400 oo_X12 q_X12_ground (by decide) rfl (Nat.le_of_ble_eq_true rfl) ?_
  refine sp_X12_isBoard  ?_
  have c2 := fa_X12_isBoard G b
  refine ⟨fun (c3 : (f_X12_isBoard G b) = 0) => ?_, fun (c3 : ¬ (f_X12_isBoard G b) = 0) => ?_⟩
  · skip
    refine (show W2 o_X12 M_X12_ground (inN [106, 107]) (q + 30) Q 58 [some (mR 69), some (mI b), some (mI f), some (mI nf)] [mI (-1)] G from ?_)
    refine w2_vc [58] 400 oo_X12 q_X12_ground ?_
    refine (show Q (some (mI (-1))) G from ?_)
    rw [show ((-1) : Int) = v_X12_ground G b f nf n from by unfold v_X12_ground; rw [if_pos c3]]
    exact hQ G (fun _ _ _ => rfl)
  · skip
    refine sp_X12_isFortnight  ?_
    have c5 := fa_X12_isFortnight G f
    refine ⟨fun (c6 : (f_X12_isFortnight G f) = 0) => ?_, fun (c6 : ¬ (f_X12_isFortnight G f) = 0) => ?_⟩
    · skip
      refine (show W2 o_X12 M_X12_ground (inN [106, 107]) (q + 30) Q 58 [some (mR 69), some (mI b), some (mI f), some (mI nf)] [mI (-1)] G from ?_)
      refine w2_vc [58] 400 oo_X12 q_X12_ground ?_
      refine (show Q (some (mI (-1))) G from ?_)
      rw [show ((-1) : Int) = v_X12_ground G b f nf n from by unfold v_X12_ground; rw [if_neg c3, if_pos c6]]
      exact hQ G (fun _ _ _ => rfl)
    · skip
      refine sp_X12_isKnown  ?_
      have c8 := fa_X12_isKnown G nf
      refine ⟨fun (c9 : (f_X12_isKnown G nf) = 0) => ?_, fun (c9 : ¬ (f_X12_isKnown G nf) = 0) => ?_⟩
      · skip
        refine (show W2 o_X12 M_X12_ground (inN [106, 107]) (q + 30) Q 58 [some (mR 69), some (mI b), some (mI f), some (mI nf)] [mI (-1)] G from ?_)
        refine w2_vc [58] 400 oo_X12 q_X12_ground ?_
        refine (show Q (some (mI (-1))) G from ?_)
        rw [show ((-1) : Int) = v_X12_ground G b f nf n from by unfold v_X12_ground; rw [if_neg c3, if_neg c6, if_pos c9]]
        exact hQ G (fun _ _ _ => rfl)
      · skip
        refine ⟨(show 0 ≤ f ∧ f < ((26 : Nat) : Int) from by first | omega | (simp (disch := omega) only [w32_i]; omega)), ?_⟩
        refine ⟨fun (c10 : (G 104 (Int.toNat f)) = 0) => ?_, fun (c10 : ¬ (G 104 (Int.toNat f)) = 0) => ?_⟩
        · skip
          refine (show W2 o_X12 M_X12_ground (inN [106, 107]) (q + 30) Q 58 [some (mR 69), some (mI b), some (mI f), some (mI nf)] [mI (-1)] G from ?_)
          refine w2_vc [58] 400 oo_X12 q_X12_ground ?_
          refine (show Q (some (mI (-1))) G from ?_)
          rw [show ((-1) : Int) = v_X12_ground G b f nf n from by unfold v_X12_ground; rw [if_neg c3, if_neg c6, if_neg c9, if_pos c10]]
          exact hQ G (fun _ _ _ => rfl)
        · skip
          refine ⟨(show 0 ≤ (w32 ((w32 (9 * f)) + b)) ∧ (w32 ((w32 (9 * f)) + b)) < ((234 : Nat) : Int) from by first | omega | (rw [show (w32 ((w32 (9 * f)) + b)) = (9 * f) + b from by rw [w32_i (x := (9 * f)) (by omega) (by omega), w32_i (x := (9 * f) + b) (by omega) (by omega)]]; omega) | (simp (disch := omega) only [w32_i]; omega)), ?_⟩
          refine ⟨fun (c11 : ¬ (G 105 (Int.toNat (w32 ((w32 (9 * f)) + b)))) = (-1)) => ?_, fun (c11 : (G 105 (Int.toNat (w32 ((w32 (9 * f)) + b)))) = (-1)) => ?_⟩
          · skip
            have hgi := hgi (by omega) (by omega)
            refine sp_X12_refundOf (q := q + 9) (n := n) hlv (by omega) (by omega) (by omega) hd hpc hn h40 hRW (by omega) (insub (by decide)) (fun H2 hH2 => ?_)
            refine (show W2 o_X12 M_X12_ground (inN [106, 107]) (q + 30) Q 58 [some (mR 69), some (mI b), some (mI f), some (mI nf)] [mI (fs (pR (e_X12_rf G b f nf) 3 b (G 78 (Int.toNat (w32 ((w32 (40 * (G 64 18))) + (G 105 (Int.toNat (w32 ((w32 (9 * f)) + b))))))))) n)] H2 from ?_)
            refine w2_vc [58] 400 oo_X12 q_X12_ground ?_
            refine (show Q (some (mI (fs (pR (e_X12_rf G b f nf) 3 b (G 78 (Int.toNat (w32 ((w32 (40 * (G 64 18))) + (G 105 (Int.toNat (w32 ((w32 (9 * f)) + b))))))))) n))) H2 from ?_)
            rw [show ((fs (pR (e_X12_rf G b f nf) 3 b (G 78 (Int.toNat (w32 ((w32 (40 * (G 64 18))) + (G 105 (Int.toNat (w32 ((w32 (9 * f)) + b))))))))) n) : Int) = v_X12_ground G b f nf n from by unfold v_X12_ground; rw [if_neg c3, if_neg c6, if_neg c9, if_neg c10, if_neg c11]]
            exact hQ H2 hH2
          · skip
            refine (show W2 o_X12 M_X12_ground (inN [106, 107]) (q + 30) Q 58 [some (mR 69), some (mI b), some (mI f), some (mI nf)] [mI (-1)] G from ?_)
            refine w2_vc [58] 400 oo_X12 q_X12_ground ?_
            refine (show Q (some (mI (-1))) G from ?_)
            rw [show ((-1) : Int) = v_X12_ground G b f nf n from by unfold v_X12_ground; rw [if_neg c3, if_neg c6, if_neg c9, if_neg c10, if_pos c11]]
            exact hQ G (fun _ _ _ => rfl)
theorem fs_rg {p : Nat → Bool} {n : Nat} (h : n ≤ 40) : -1 ≤ fs p n ∧ fs p n < 40 := by
  rcases fs_r p n with h1 | ⟨i, h1, h2, _⟩
  · rw [h1.1]; omega
  · rw [h2]; omega
def sRf (val : Nat → Int) (G : mG) (x f : Int) (j : Nat) (s : Int) : Int := if f_X12_isHis G ((j : Nat) : Int) f x = 0 then s else (if val j = -1 then s else w32 (s + (mDiv (w32 ((G 81 (Int.toNat (w32 ((w32 (40 * (G 64 18))) + (G 105 (Int.toNat (w32 ((w32 (9 * f)) + ((j : Nat) : Int))))))))) * (G 79 (Int.toNat (w32 ((w32 (40 * (G 64 18))) + (val j))))))) 100)))
def v_X12_refund (val : Nat → Int) (G : mG) (x f nf : Int) (n9 : Nat) : Int := if f_X12_isCampaign G x = 0 then -1 else (if f_X12_isFortnight G f = 0 then -1 else (if f_X12_isKnown G nf = 0 then -1 else (if G 104 (Int.toNat f) = 0 then -1 else fd (sRf val G x f) 0 n9)))
set_option maxHeartbeats 8000000 in
theorem refund_loop {q : Nat} {G : mG} {x f nf : Int} {n n9 : Nat} {val : Nat → Int} {Q : Option mV → mG → Prop} (hlv : 0 ≤ G 64 18 ∧ G 64 18 ≤ 1) (hbd : 0 ≤ G 64 44 ∧ G 64 44 ≤ 9) (hn9 : G 64 44 = (n9 : Int)) (hf : 0 ≤ f ∧ f < 26) (hk : 0 ≤ nf ∧ nf ≤ 300) (hd : ∀ i, i < 9 → 0 ≤ G 94 i ∧ G 94 i ≤ 5) (hpc : ∀ i, i < 6 → 1 ≤ G 99 i) (hg : ∀ i, i < 234 → -1 ≤ G 105 i ∧ G 105 i < 40) (hn : (n : Int) = G 76 (G 64 18).toNat) (h40 : n ≤ 40) (hRW : rW G) (hgi : ∀ j, j < n9 → ¬ f_X12_isHis G ((j : Nat) : Int) f x = 0 → 0 ≤ (G 105 (Int.toNat (w32 ((w32 (9 * f)) + ((j : Nat) : Int))))) ∧ (G 105 (Int.toNat (w32 ((w32 (9 * f)) + ((j : Nat) : Int))))) < 40) (hval : ∀ j, j < n9 → ¬ f_X12_isHis G ((j : Nat) : Int) f x = 0 → ∀ Hj : mG, (∀ k, k ≠ 106 → k ≠ 107 → Hj k = G k) → fs (pR (e_X12_rf Hj ((j : Nat) : Int) f nf) 3 ((j : Nat) : Int) (Hj 78 (Int.toNat (w32 ((w32 (40 * (Hj 64 18))) + (Hj 105 (Int.toNat (w32 ((w32 (9 * f)) + ((j : Nat) : Int)))))))))) n = val j) (hQ : ∀ H', (∀ k, k ≠ 106 → k ≠ 107 → H' k = G k) → Q (some (mI (fd (sRf val G x f) 0 n9))) H') : ∀ t j, j + t = n9 → ∀ s : Int, s = fd (sRf val G x f) 0 j → ∀ Hj : mG, (∀ k, k ≠ 106 → k ≠ 107 → Hj k = G k) → W2 o_X12 M_X12_refund (inN [106, 107]) (q + 30) Q 40 [some (mR 69), some (mI x), some (mI f), some (mI nf), some (mI s), some (mI ((j : Nat) : Int)), none] [] Hj := by
    intro t
    induction t with
    | zero =>
      intro j hjn s hs Hj hj
      have e44 : Hj 64 44 = G 64 44 := by rw [hj 64 (by decide) (by decide)]
      refine w2_vc [40] 400 oo_X12 q_X12_refund ?_
      refine ⟨fun (c1 : (Hj 64 44) ≤ ((j : Nat) : Int)) => ?_, fun (c1 : ((j : Nat) : Int) < (Hj 64 44)) => ?_⟩
      · skip
        refine (show Q (some (mI s)) Hj from ?_)
        have hjn : j = n9 := by omega
        rw [hs, hjn]
        exact hQ _ hj
      · skip
        exfalso; first | omega | (rw [w32_i (by omega) (by omega)] at c1; omega) | (simp (disch := omega) only [w32_i] at *; omega)
    | succ t iht =>
      intro j hjn s hs Hj hj
      have e44 : Hj 64 44 = G 64 44 := by rw [hj 64 (by decide) (by decide)]
      have e18 : Hj 64 18 = G 64 18 := by rw [hj 64 (by decide) (by decide)]
      have ehis : f_X12_isHis Hj ((j : Nat) : Int) f x = f_X12_isHis G ((j : Nat) : Int) f x := by unfold f_X12_isHis; rw [hj 105 (by decide) (by decide), hj 78 (by decide) (by decide), hj 64 (by decide) (by decide)]
      refine w2_vc [40, 71, 104, 106, 121, 128] 400 oo_X12 q_X12_refund ?_
      refine ⟨fun (c1 : (Hj 64 44) ≤ ((j : Nat) : Int)) => ?_, fun (c1 : ((j : Nat) : Int) < (Hj 64 44)) => ?_⟩
      · skip
        exfalso; first | omega | (rw [w32_i (by omega) (by omega)] at c1; omega) | (simp (disch := omega) only [w32_i] at *; omega)
      · skip
        refine sp_X12_isHis (by rw [e18]; exact hlv) (by omega) (hf) (by rw [hj 105 (by decide) (by decide)]; exact hg) ?_
        refine ⟨fun (c3 : ¬ (f_X12_isHis Hj ((j : Nat) : Int) f x) = 0) => ?_, fun (c3 : (f_X12_isHis Hj ((j : Nat) : Int) f x) = 0) => ?_⟩
        · skip
          refine sp_X12_refundOf (q := q + 9) (n := n) (by rw [e18]; exact hlv) (by omega) hf hk (by rw [hj 94 (by decide) (by decide)]; exact hd) (by rw [hj 99 (by decide) (by decide)]; exact hpc) (by rw [e18, hj 76 (by decide) (by decide)]; exact hn) h40 (rW_ne hRW hj) (by rw [hj 105 (by decide) (by decide)]; exact hgi j (by omega) (by have q := c3; rw [ehis] at q; exact q)) (insub (by decide)) (fun H2 qH2 => ?_)
          have hH2 : ∀ k, k ≠ 106 → k ≠ 107 → H2 k = G k := fun k h1 h2 => (qH2 k h1 h2).trans (hj k h1 h2)
          have g18 : 0 ≤ H2 64 18 ∧ H2 64 18 ≤ 1 := by rw [hH2 64 (by decide) (by decide)]; exact hlv
          have g105 : 0 ≤ H2 105 (Int.toNat (w32 ((w32 (9 * f)) + ((j : Nat) : Int)))) ∧ H2 105 (Int.toNat (w32 ((w32 (9 * f)) + ((j : Nat) : Int)))) < 40 := by rw [hH2 105 (by decide) (by decide)]; exact hgi j (by omega) (by have q := c3; rw [ehis] at q; exact q)
          have hvr : -1 ≤ val j ∧ val j < 40 := by (rw [← hval j (by omega) (by have q := c3; rw [ehis] at q; exact q) Hj hj]; exact fs_rg (by omega))
          rw [hval j (by omega) (by have q := c3; rw [ehis] at q; exact q) Hj hj]
          refine (show W2 o_X12 M_X12_refund (inN [106, 107]) (q + 30) Q 71 [some (mR 69), some (mI x), some (mI f), some (mI nf), some (mI s), some (mI ((j : Nat) : Int)), none] [mI (val j)] H2 from ?_)
          refine w2_vc [40, 71, 104, 106, 121, 128] 400 oo_X12 q_X12_refund ?_
          refine ⟨fun (c4 : (val j) = (-1)) => ?_, fun (c4 : ¬ (val j) = (-1)) => ?_⟩
          · skip
            refine (show W2 o_X12 M_X12_refund (inN [106, 107]) (q + 30) Q 128 [some (mR 69), some (mI x), some (mI f), some (mI nf), some (mI s), some (mI ((j : Nat) : Int)), some (mI (val j))] [] H2 from ?_)
            refine w2_vc [40, 71, 104, 106, 121, 128] 400 oo_X12 q_X12_refund ?_
            refine (show W2 o_X12 M_X12_refund (inN [106, 107]) (q + 30) Q 40 [some (mR 69), some (mI x), some (mI f), some (mI nf), some (mI s), some (mI (w32 (((j : Nat) : Int) + 1))), some (mI (val j))] [] H2 from ?_)
            refine WP.fg (L' := [some (mR 69), some (mI x), some (mI f), some (mI nf), some (mI s), some (mI (w32 (((j : Nat) : Int) + 1))), none]) ⟨rfl, rfl, rfl, rfl, rfl, rfl, trivial⟩ ?_
            rw [w32_nat (by omega)]
            exact iht (j + 1) (by omega) _ (by rw [fd_s, ← hs]; unfold sRf; rw [if_neg (by have q := c3; rw [ehis] at q; exact q), if_pos c4]) H2 hH2
          · skip
            refine ⟨(show 0 ≤ (w32 ((w32 (9 * f)) + ((j : Nat) : Int))) ∧ (w32 ((w32 (9 * f)) + ((j : Nat) : Int))) < ((234 : Nat) : Int) from by first | omega | (rw [show (w32 ((w32 (9 * f)) + ((j : Nat) : Int))) = (9 * f) + ((j : Nat) : Int) from by rw [w32_i (x := (9 * f)) (by omega) (by omega), w32_i (x := (9 * f) + ((j : Nat) : Int)) (by omega) (by omega)]]; omega) | (simp (disch := omega) only [w32_i]; omega)), ?_⟩
            refine (show W2 o_X12 M_X12_refund (inN [106, 107]) (q + 30) Q 104 [some (mR 69), some (mI x), some (mI f), some (mI nf), some (mI s), some (mI ((j : Nat) : Int)), some (mI (val j))] [mI (H2 105 (Int.toNat (w32 ((w32 (9 * f)) + ((j : Nat) : Int))))), mI (w32 (40 * (H2 64 18))), mR 86, mI s] H2 from ?_)
            refine w2_vc [40, 71, 104, 106, 121, 128] 400 oo_X12 q_X12_refund ?_
            refine ⟨(show 0 ≤ (w32 ((w32 (40 * (H2 64 18))) + (H2 105 (Int.toNat (w32 ((w32 (9 * f)) + ((j : Nat) : Int))))))) ∧ (w32 ((w32 (40 * (H2 64 18))) + (H2 105 (Int.toNat (w32 ((w32 (9 * f)) + ((j : Nat) : Int))))))) < ((80 : Nat) : Int) from by first | omega | (rw [show (w32 ((w32 (40 * (H2 64 18))) + (H2 105 (Int.toNat (w32 ((w32 (9 * f)) + ((j : Nat) : Int))))))) = (40 * (H2 64 18)) + (H2 105 (Int.toNat (w32 ((w32 (9 * f)) + ((j : Nat) : Int))))) from by rw [w32_i (x := (40 * (H2 64 18))) (by omega) (by omega), w32_i (x := (40 * (H2 64 18)) + (H2 105 (Int.toNat (w32 ((w32 (9 * f)) + ((j : Nat) : Int)))))) (by omega) (by omega)]]; omega) | (simp (disch := omega) only [w32_i]; omega)), ?_⟩
            refine (show W2 o_X12 M_X12_refund (inN [106, 107]) (q + 30) Q 106 [some (mR 69), some (mI x), some (mI f), some (mI nf), some (mI s), some (mI ((j : Nat) : Int)), some (mI (val j))] [mI (H2 81 (Int.toNat (w32 ((w32 (40 * (H2 64 18))) + (H2 105 (Int.toNat (w32 ((w32 (9 * f)) + ((j : Nat) : Int))))))))), mI s] H2 from ?_)
            refine w2_vc [40, 71, 104, 106, 121, 128] 400 oo_X12 q_X12_refund ?_
            refine ⟨(show 0 ≤ (w32 ((w32 (40 * (H2 64 18))) + (val j))) ∧ (w32 ((w32 (40 * (H2 64 18))) + (val j))) < ((80 : Nat) : Int) from by first | omega | (rw [show (w32 ((w32 (40 * (H2 64 18))) + (val j))) = (40 * (H2 64 18)) + (val j) from by rw [w32_i (x := (40 * (H2 64 18))) (by omega) (by omega), w32_i (x := (40 * (H2 64 18)) + (val j)) (by omega) (by omega)]]; omega) | (simp (disch := omega) only [w32_i]; omega)), ?_⟩
            refine (show W2 o_X12 M_X12_refund (inN [106, 107]) (q + 30) Q 121 [some (mR 69), some (mI x), some (mI f), some (mI nf), some (mI s), some (mI ((j : Nat) : Int)), some (mI (val j))] [mI (H2 79 (Int.toNat (w32 ((w32 (40 * (H2 64 18))) + (val j))))), mI (H2 81 (Int.toNat (w32 ((w32 (40 * (H2 64 18))) + (H2 105 (Int.toNat (w32 ((w32 (9 * f)) + ((j : Nat) : Int))))))))), mI s] H2 from ?_)
            refine w2_vc [40, 71, 104, 106, 121, 128] 400 oo_X12 q_X12_refund ?_
            refine ⟨(show ¬ (100 : Int) = 0 from by omega), ?_⟩
            refine (show W2 o_X12 M_X12_refund (inN [106, 107]) (q + 30) Q 128 [some (mR 69), some (mI x), some (mI f), some (mI nf), some (mI (w32 (s + (mDiv (w32 ((H2 81 (Int.toNat (w32 ((w32 (40 * (H2 64 18))) + (H2 105 (Int.toNat (w32 ((w32 (9 * f)) + ((j : Nat) : Int))))))))) * (H2 79 (Int.toNat (w32 ((w32 (40 * (H2 64 18))) + (val j))))))) 100)))), some (mI ((j : Nat) : Int)), some (mI (val j))] [] H2 from ?_)
            refine w2_vc [40, 71, 104, 106, 121, 128] 400 oo_X12 q_X12_refund ?_
            refine (show W2 o_X12 M_X12_refund (inN [106, 107]) (q + 30) Q 40 [some (mR 69), some (mI x), some (mI f), some (mI nf), some (mI (w32 (s + (mDiv (w32 ((H2 81 (Int.toNat (w32 ((w32 (40 * (H2 64 18))) + (H2 105 (Int.toNat (w32 ((w32 (9 * f)) + ((j : Nat) : Int))))))))) * (H2 79 (Int.toNat (w32 ((w32 (40 * (H2 64 18))) + (val j))))))) 100)))), some (mI (w32 (((j : Nat) : Int) + 1))), some (mI (val j))] [] H2 from ?_)
            refine WP.fg (L' := [some (mR 69), some (mI x), some (mI f), some (mI nf), some (mI (w32 (s + (mDiv (w32 ((H2 81 (Int.toNat (w32 ((w32 (40 * (H2 64 18))) + (H2 105 (Int.toNat (w32 ((w32 (9 * f)) + ((j : Nat) : Int))))))))) * (H2 79 (Int.toNat (w32 ((w32 (40 * (H2 64 18))) + (val j))))))) 100)))), some (mI (w32 (((j : Nat) : Int) + 1))), none]) ⟨rfl, rfl, rfl, rfl, rfl, rfl, trivial⟩ ?_
            rw [w32_nat (by omega)]
            exact iht (j + 1) (by omega) _ (by rw [fd_s, ← hs]; unfold sRf; rw [if_neg (by have q := c3; rw [ehis] at q; exact q), if_neg c4, hH2 81 (by decide) (by decide), hH2 79 (by decide) (by decide), hH2 105 (by decide) (by decide), hH2 64 (by decide) (by decide)]) H2 hH2
        · skip
          refine (show W2 o_X12 M_X12_refund (inN [106, 107]) (q + 30) Q 128 [some (mR 69), some (mI x), some (mI f), some (mI nf), some (mI s), some (mI ((j : Nat) : Int)), none] [] Hj from ?_)
          refine w2_vc [40, 71, 104, 106, 121, 128] 400 oo_X12 q_X12_refund ?_
          refine (show W2 o_X12 M_X12_refund (inN [106, 107]) (q + 30) Q 40 [some (mR 69), some (mI x), some (mI f), some (mI nf), some (mI s), some (mI (w32 (((j : Nat) : Int) + 1))), none] [] Hj from ?_)
          refine WP.fg (L' := [some (mR 69), some (mI x), some (mI f), some (mI nf), some (mI s), some (mI (w32 (((j : Nat) : Int) + 1))), none]) ⟨rfl, rfl, rfl, rfl, rfl, rfl, trivial⟩ ?_
          rw [w32_nat (by omega)]
          exact iht (j + 1) (by omega) _ (by rw [fd_s, ← hs]; unfold sRf; rw [if_pos (by have q := c3; rw [ehis] at q; exact q)]) Hj hj
set_option maxHeartbeats 4000000 in
theorem sp_X12_refund {D : Nat → Bool} {q : Nat} {G : mG} {x f nf : Int} {n n9 : Nat} {val : Nat → Int} {Q : Option mV → mG → Prop} (hlv : 0 ≤ G 64 18 ∧ G 64 18 ≤ 1) (hbd : 0 ≤ G 64 44 ∧ G 64 44 ≤ 9) (hfa : G 64 51 ≤ 300) (hd : ∀ i, i < 9 → 0 ≤ G 94 i ∧ G 94 i ≤ 5) (hpc : ∀ i, i < 6 → 1 ≤ G 99 i) (hn9 : G 64 44 = (n9 : Int)) (hg : ∀ i, i < 234 → -1 ≤ G 105 i ∧ G 105 i < 40) (hn : (n : Int) = G 76 (G 64 18).toNat) (h40 : n ≤ 40) (hRW : rW G) (hgi : ∀ j, (0 ≤ f ∧ f < 26) → j < n9 → ¬ f_X12_isHis G ((j : Nat) : Int) f x = 0 → 0 ≤ (G 105 (Int.toNat (w32 ((w32 (9 * f)) + ((j : Nat) : Int))))) ∧ (G 105 (Int.toNat (w32 ((w32 (9 * f)) + ((j : Nat) : Int))))) < 40) (hval : ¬ f_X12_isCampaign G x = 0 → ¬ G 104 (Int.toNat f) = 0 → (0 ≤ f ∧ f < 26) → (0 ≤ nf ∧ nf ≤ G 64 51) → ∀ j, j < n9 → ¬ f_X12_isHis G ((j : Nat) : Int) f x = 0 → ∀ Hj : mG, (∀ k, k ≠ 106 → k ≠ 107 → Hj k = G k) → fs (pR (e_X12_rf Hj ((j : Nat) : Int) f nf) 3 ((j : Nat) : Int) (Hj 78 (Int.toNat (w32 ((w32 (40 * (Hj 64 18))) + (Hj 105 (Int.toNat (w32 ((w32 (9 * f)) + ((j : Nat) : Int)))))))))) n = val j) (hD : ∀ k, D k = false → inN [106, 107] k = false) (hQ : ∀ H', (∀ k, k ≠ 106 → k ≠ 107 → H' k = G k) → Q (some (mI (v_X12_refund val G x f nf n9))) H') : P2 D (q + 30) M_X12_refund [mR 69, mI x, mI f, mI nf] G Q := by
  refine MP.to (D2 := inN [106, 107]) (Q2 := Q) ?_ hD (fun v G' q _ => q)
  refine p2_vc [40] 400 oo_X12 q_X12_refund (by decide) rfl (Nat.le_of_ble_eq_true rfl) ?_
  refine sp_X12_isCampaign (by omega) ?_
  have c2 := fa_X12_isCampaign G x
  refine ⟨fun (c3 : (f_X12_isCampaign G x) = 0) => ?_, fun (c3 : ¬ (f_X12_isCampaign G x) = 0) => ?_⟩
  · skip
    refine (show Q (some (mI (-1))) G from ?_)
    rw [show (-1 : Int) = v_X12_refund val G x f nf n9 from by unfold v_X12_refund; rw [if_pos c3]]
    exact hQ G (fun _ _ _ => rfl)
  · skip
    refine sp_X12_isFortnight  ?_
    have c5 := fa_X12_isFortnight G f
    refine ⟨fun (c6 : (f_X12_isFortnight G f) = 0) => ?_, fun (c6 : ¬ (f_X12_isFortnight G f) = 0) => ?_⟩
    · skip
      refine (show Q (some (mI (-1))) G from ?_)
      rw [show (-1 : Int) = v_X12_refund val G x f nf n9 from by unfold v_X12_refund; rw [if_neg c3, if_pos c6]]
      exact hQ G (fun _ _ _ => rfl)
    · skip
      refine sp_X12_isKnown  ?_
      have c8 := fa_X12_isKnown G nf
      refine ⟨fun (c9 : (f_X12_isKnown G nf) = 0) => ?_, fun (c9 : ¬ (f_X12_isKnown G nf) = 0) => ?_⟩
      · skip
        refine (show Q (some (mI (-1))) G from ?_)
        rw [show (-1 : Int) = v_X12_refund val G x f nf n9 from by unfold v_X12_refund; rw [if_neg c3, if_neg c6, if_pos c9]]
        exact hQ G (fun _ _ _ => rfl)
      · skip
        refine ⟨(show 0 ≤ f ∧ f < ((26 : Nat) : Int) from by first | omega | (simp (disch := omega) only [w32_i]; omega)), ?_⟩
        refine ⟨fun (c10 : ¬ (G 104 (Int.toNat f)) = 0) => ?_, fun (c10 : (G 104 (Int.toNat f)) = 0) => ?_⟩
        · skip
          refine (show W2 o_X12 M_X12_refund (inN [106, 107]) (q + 30) Q 40 [some (mR 69), some (mI x), some (mI f), some (mI nf), some (mI 0), some (mI 0), none] [] G from ?_)
          exact refund_loop hlv hbd hn9 (by omega) (by omega) hd hpc hg hn h40 hRW (fun j hj c => hgi j (by omega) hj c) (hval c3 c10 (by omega) (by omega)) (fun H2 hH2 => by have := hQ H2 hH2; unfold v_X12_refund at this; rw [if_neg c3, if_neg c6, if_neg c9, if_neg c10] at this; exact this) n9 0 (by omega) 0 rfl G (fun _ _ _ => rfl)
        · skip
          refine (show Q (some (mI (-1))) G from ?_)
          rw [show (-1 : Int) = v_X12_refund val G x f nf n9 from by unfold v_X12_refund; rw [if_neg c3, if_neg c6, if_neg c9, if_pos c10]]
          exact hQ G (fun _ _ _ => rfl)
def g_X12_reach_53 (G : mG) (x : Int) (f : Int) (n : Int) (j1 : Nat) (s1 : Int) : Nat → Int → Int := fun j2 s2 => (if ¬ (G 94 (Int.toNat ((j2 : Nat) : Int))) = ((j1 : Nat) : Int) then s2 else (if (f_X12_isHis G ((j2 : Nat) : Int) f x) = 0 then s2 else (if (G 96 (Int.toNat ((j2 : Nat) : Int))) ≤ s2 then s2 else (if (f_X12_days G ((j2 : Nat) : Int) f n 1) ≤ 0 then s2 else (G 96 (Int.toNat ((j2 : Nat) : Int)))))))
def g_X12_reach_40 (G : mG) (x : Int) (f : Int) (n : Int) : Nat → Int → Int := fun j1 s1 => (w32 (s1 + (fd (g_X12_reach_53 G x f n j1 s1) 0 (Int.toNat (G 64 44)))))
def f_X12_reach (G : mG) (x : Int) (f : Int) (n : Int) : Int := (if (f_X12_isCampaign G x) = 0 then (-1) else (if (f_X12_isFortnight G f) = 0 then (-1) else (if (f_X12_isKnown G n) = 0 then (-1) else (if ¬ (G 104 (Int.toNat f)) = 0 then (fd (g_X12_reach_40 G x f n) 0 6) else (-1)))))
set_option maxHeartbeats 8000000 in
theorem sp_X12_reach {D : Nat → Bool} {d : Nat} {G : mG} {x : Int} {f : Int} {n : Int} {Q : Option mV → mG → Prop} (hl : 0 ≤ G 64 18 ∧ G 64 18 ≤ 1) (hbd : 0 ≤ G 64 44 ∧ G 64 44 ≤ 9) (hfa : G 64 51 ≤ 300) (hd : ∀ i, i < 9 → 0 ≤ G 94 i ∧ G 94 i ≤ 5) (hpc : ∀ i, i < 6 → 1 ≤ G 99 i) (hg : ∀ i, i < 234 → -1 ≤ G 105 i ∧ G 105 i < 40) (hca : G 72 (Int.toNat (G 64 18)) ≤ 8) (hcl : G 76 (Int.toNat (G 64 18)) ≤ 40) (h : Q (some (mI (f_X12_reach G x f n))) G) : P2 D (d + 3) M_X12_reach [mR 69, mI x, mI f, mI n] G Q := by
  unfold f_X12_reach at h
  refine p2_vc [40, 53] 400 oo_X12 q_X12_reach (by decide) rfl (Nat.le_of_ble_eq_true rfl) ?_
  refine sp_X12_isCampaign (by omega) ?_
  have c2 := fa_X12_isCampaign G x
  refine ⟨fun (c3 : (f_X12_isCampaign G x) = 0) => ?_, fun (c3 : ¬ (f_X12_isCampaign G x) = 0) => ?_⟩
  · rw [if_pos c3] at h
    exact h
  · rw [if_neg (c3)] at h
    refine sp_X12_isFortnight  ?_
    have c5 := fa_X12_isFortnight G f
    refine ⟨fun (c6 : (f_X12_isFortnight G f) = 0) => ?_, fun (c6 : ¬ (f_X12_isFortnight G f) = 0) => ?_⟩
    · rw [if_pos c6] at h
      exact h
    · rw [if_neg (c6)] at h
      refine sp_X12_isKnown  ?_
      have c8 := fa_X12_isKnown G n
      refine ⟨fun (c9 : (f_X12_isKnown G n) = 0) => ?_, fun (c9 : ¬ (f_X12_isKnown G n) = 0) => ?_⟩
      · rw [if_pos c9] at h
        exact h
      · rw [if_neg (c9)] at h
        refine ⟨(show 0 ≤ f ∧ f < ((26 : Nat) : Int) from by first | omega | (simp (disch := omega) only [w32_i]; omega)), ?_⟩
        refine ⟨fun (c10 : ¬ (G 104 (Int.toNat f)) = 0) => ?_, fun (c10 : (G 104 (Int.toNat f)) = 0) => ?_⟩
        · rw [if_pos c10] at h
          refine (show W2 o_X12 M_X12_reach D (d + 3) Q 40 [some (mR 69), some (mI x), some (mI f), some (mI n), some (mI 0), some (mI ((0 : Nat) : Int)), none, none] [] G from ?_)
          refine lup (g_X12_reach_40 G x f n) 0 (fun j1 s1 => W2 o_X12 M_X12_reach D (d + 3) Q 40 [some (mR 69), some (mI x), some (mI f), some (mI n), some (mI s1), some (mI ((j1 : Nat) : Int)), none, none] [] G) 6 (fun j1 s1 hj1 ih1 => ?_) ?_
          · have ih1 : W2 o_X12 M_X12_reach D (d + 3) Q 40 [some (mR 69), some (mI x), some (mI f), some (mI n), some (mI (g_X12_reach_40 G x f n j1 s1)), some (mI ((j1 + 1 : Nat) : Int)), none, none] [] G := ih1
            unfold g_X12_reach_40 at ih1
            refine w2_vc [40, 53] 400 oo_X12 q_X12_reach ?_
            refine ⟨fun (c11 : 6 ≤ ((j1 : Nat) : Int)) => ?_, fun (c11 : ((j1 : Nat) : Int) < 6) => ?_⟩
            · skip
              exfalso; first | omega | (rw [w32_i (by omega) (by omega)] at c11; omega) | (simp (disch := omega) only [w32_i] at *; omega)
            · skip
              refine (show W2 o_X12 M_X12_reach D (d + 3) Q 53 [some (mR 69), some (mI x), some (mI f), some (mI n), some (mI s1), some (mI ((j1 : Nat) : Int)), some (mI 0), some (mI ((0 : Nat) : Int))] [] G from ?_)
              refine lup (g_X12_reach_53 G x f n j1 s1) 0 (fun j2 s2 => W2 o_X12 M_X12_reach D (d + 3) Q 53 [some (mR 69), some (mI x), some (mI f), some (mI n), some (mI s1), some (mI ((j1 : Nat) : Int)), some (mI s2), some (mI ((j2 : Nat) : Int))] [] G) (Int.toNat (G 64 44)) (fun j2 s2 hj2 ih2 => ?_) ?_
              · have ih2 : W2 o_X12 M_X12_reach D (d + 3) Q 53 [some (mR 69), some (mI x), some (mI f), some (mI n), some (mI s1), some (mI ((j1 : Nat) : Int)), some (mI (g_X12_reach_53 G x f n j1 s1 j2 s2)), some (mI ((j2 + 1 : Nat) : Int))] [] G := ih2
                unfold g_X12_reach_53 at ih2
                refine w2_vc [40, 53] 400 oo_X12 q_X12_reach ?_
                refine ⟨fun (c12 : (G 64 44) ≤ ((j2 : Nat) : Int)) => ?_, fun (c12 : ((j2 : Nat) : Int) < (G 64 44)) => ?_⟩
                · skip
                  exfalso; first | omega | (rw [w32_i (by omega) (by omega)] at c12; omega) | (simp (disch := omega) only [w32_i] at *; omega)
                · skip
                  refine ⟨(show 0 ≤ ((j2 : Nat) : Int) ∧ ((j2 : Nat) : Int) < ((9 : Nat) : Int) from by first | omega | (simp (disch := omega) only [w32_i]; omega)), ?_⟩
                  have c13 := hd (Int.toNat ((j2 : Nat) : Int)) (by first | omega | (simp (disch := omega) only [w32_i]; omega))
                  refine ⟨fun (c14 : ¬ (G 94 (Int.toNat ((j2 : Nat) : Int))) = ((j1 : Nat) : Int)) => ?_, fun (c14 : (G 94 (Int.toNat ((j2 : Nat) : Int))) = ((j1 : Nat) : Int)) => ?_⟩
                  · rw [if_pos c14] at ih2
                    refine (show W2 o_X12 M_X12_reach D (d + 3) Q 53 [some (mR 69), some (mI x), some (mI f), some (mI n), some (mI s1), some (mI ((j1 : Nat) : Int)), some (mI s2), some (mI (w32 (((j2 : Nat) : Int) + 1)))] [] G from ?_)
                    rw [w32_nat (by omega)]
                    exact ih2
                  · rw [if_neg (fun q => q c14)] at ih2
                    refine sp_X12_isHis (by omega) (by omega) (by omega) (hg) ?_
                    have c16 := fa_X12_isHis G ((j2 : Nat) : Int) f x
                    refine ⟨fun (c17 : (f_X12_isHis G ((j2 : Nat) : Int) f x) = 0) => ?_, fun (c17 : ¬ (f_X12_isHis G ((j2 : Nat) : Int) f x) = 0) => ?_⟩
                    · rw [if_pos c17] at ih2
                      refine (show W2 o_X12 M_X12_reach D (d + 3) Q 53 [some (mR 69), some (mI x), some (mI f), some (mI n), some (mI s1), some (mI ((j1 : Nat) : Int)), some (mI s2), some (mI (w32 (((j2 : Nat) : Int) + 1)))] [] G from ?_)
                      rw [w32_nat (by omega)]
                      exact ih2
                    · rw [if_neg (c17)] at ih2
                      refine ⟨(show 0 ≤ ((j2 : Nat) : Int) ∧ ((j2 : Nat) : Int) < ((9 : Nat) : Int) from by first | omega | (simp (disch := omega) only [w32_i]; omega)), ?_⟩
                      refine ⟨fun (c18 : (G 96 (Int.toNat ((j2 : Nat) : Int))) ≤ s2) => ?_, fun (c18 : s2 < (G 96 (Int.toNat ((j2 : Nat) : Int)))) => ?_⟩
                      · rw [if_pos c18] at ih2
                        refine (show W2 o_X12 M_X12_reach D (d + 3) Q 53 [some (mR 69), some (mI x), some (mI f), some (mI n), some (mI s1), some (mI ((j1 : Nat) : Int)), some (mI s2), some (mI (w32 (((j2 : Nat) : Int) + 1)))] [] G from ?_)
                        rw [w32_nat (by omega)]
                        exact ih2
                      · rw [if_neg (Int.not_le.mpr c18)] at ih2
                        refine sp_X12_days (by omega) ?_
                        refine ⟨fun (c20 : (f_X12_days G ((j2 : Nat) : Int) f n 1) ≤ 0) => ?_, fun (c20 : 0 < (f_X12_days G ((j2 : Nat) : Int) f n 1)) => ?_⟩
                        · rw [if_pos c20] at ih2
                          refine (show W2 o_X12 M_X12_reach D (d + 3) Q 53 [some (mR 69), some (mI x), some (mI f), some (mI n), some (mI s1), some (mI ((j1 : Nat) : Int)), some (mI s2), some (mI (w32 (((j2 : Nat) : Int) + 1)))] [] G from ?_)
                          rw [w32_nat (by omega)]
                          exact ih2
                        · rw [if_neg (Int.not_le.mpr c20)] at ih2
                          refine ⟨(show 0 ≤ ((j2 : Nat) : Int) ∧ ((j2 : Nat) : Int) < ((9 : Nat) : Int) from by first | omega | (simp (disch := omega) only [w32_i]; omega)), ?_⟩
                          refine (show W2 o_X12 M_X12_reach D (d + 3) Q 53 [some (mR 69), some (mI x), some (mI f), some (mI n), some (mI s1), some (mI ((j1 : Nat) : Int)), some (mI (G 96 (Int.toNat ((j2 : Nat) : Int)))), some (mI (w32 (((j2 : Nat) : Int) + 1)))] [] G from ?_)
                          rw [w32_nat (by omega)]
                          exact ih2
              · skip
                refine (show W2 o_X12 M_X12_reach D (d + 3) Q 53 [some (mR 69), some (mI x), some (mI f), some (mI n), some (mI s1), some (mI ((j1 : Nat) : Int)), some (mI (fd (g_X12_reach_53 G x f n j1 s1) 0 (Int.toNat (G 64 44)))), some (mI (((Int.toNat (G 64 44)) : Nat) : Int))] [] G from ?_)
                refine w2_vc [40, 53] 400 oo_X12 q_X12_reach ?_
                refine ⟨fun (c21 : (G 64 44) ≤ (((Int.toNat (G 64 44)) : Nat) : Int)) => ?_, fun (c21 : (((Int.toNat (G 64 44)) : Nat) : Int) < (G 64 44)) => ?_⟩
                · skip
                  refine (show W2 o_X12 M_X12_reach D (d + 3) Q 40 [some (mR 69), some (mI x), some (mI f), some (mI n), some (mI (w32 (s1 + (fd (g_X12_reach_53 G x f n j1 s1) 0 (Int.toNat (G 64 44)))))), some (mI (w32 (((j1 : Nat) : Int) + 1))), some (mI (fd (g_X12_reach_53 G x f n j1 s1) 0 (Int.toNat (G 64 44)))), some (mI (((Int.toNat (G 64 44)) : Nat) : Int))] [] G from ?_)
                  refine WP.fg (L' := [some (mR 69), some (mI x), some (mI f), some (mI n), some (mI (w32 (s1 + (fd (g_X12_reach_53 G x f n j1 s1) 0 (Int.toNat (G 64 44)))))), some (mI (w32 (((j1 : Nat) : Int) + 1))), none, none]) ⟨rfl, rfl, rfl, rfl, rfl, rfl, trivial⟩ ?_
                  rw [w32_nat (by omega)]
                  exact ih1
                · skip
                  exfalso; first | omega | (rw [w32_i (by omega) (by omega)] at c21; omega) | (simp (disch := omega) only [w32_i] at *; omega)
          · skip
            refine (show W2 o_X12 M_X12_reach D (d + 3) Q 40 [some (mR 69), some (mI x), some (mI f), some (mI n), some (mI (fd (g_X12_reach_40 G x f n) 0 6)), some (mI ((6 : Nat) : Int)), none, none] [] G from ?_)
            refine w2_vc [40, 53] 400 oo_X12 q_X12_reach ?_
            refine ⟨fun (c22 : 6 ≤ ((6 : Nat) : Int)) => ?_, fun (c22 : ((6 : Nat) : Int) < 6) => ?_⟩
            · skip
              exact h
            · skip
              exfalso; first | omega | (rw [w32_i (by omega) (by omega)] at c22; omega) | (simp (disch := omega) only [w32_i] at *; omega)
        · rw [if_neg (fun q => q c10)] at h
          exact h
