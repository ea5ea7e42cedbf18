/-! ===== printed by wip/whole/gen50.py: the class plans, gives, mends ===== -/
theorem row_nx {H : mG} {k j : Nat} {x : Int} {p : Nat → Int} (h : ∀ i, i < j → H k i = p i) (hx : x = p j) : ∀ i, i < j + 1 → (gs H k j x) k i = p i := fun i hi => by
  by_cases hij : i = j
  · rw [hij, gs_at]; exact hx
  · rw [gs_at_ne hij]; exact h i (by omega)
theorem amt_to {c : Nat} {G H : mG} {n a : Int} (h0 : H c = (gs (gs G 29 3 a) 29 4 n) c) (h6 : H (c + 6) = (gs (gs G 29 3 a) 29 4 n) (c + 6)) (hc : c = 40 ∨ c = 52) (x : Int) : f_X1_amountOf c H x = f_X1_amountOf c G x := by
  unfold f_X1_amountOf f_X1_hasClause; rw [h0, h6, gs_ne (by omega), gs_ne (by omega), gs_ne (by omega), gs_ne (by omega)]
def loP0 (c : Nat) (f nf : Int) : Nat → mG → mG := fun b s => e_X8_listOptions_0 c s ((b : Nat) : Int) f nf
theorem loP0_fr {c : Nat} {f nf : Int} {HA : mG} {b k : Nat} (hk : ∀ a ∈ ([24, 25, 30, 31, 32] : List Nat), k ≠ a) : (fd (loP0 c f nf) HA b) k = HA k := fd_fr (fun j s => fr_X8_listOptions_0 hk)
set_option maxHeartbeats 8000000 in
theorem sp_X8_plan_0 {D : Nat → Bool} {q c : Nat} (hc : c = 40 ∨ c = 52) {G : mG} {f nf : Int} {n : Nat} {Q : Option mV → mG → Prop} (hn9 : n ≤ 9) (h16 : G 1 6 = (n : Int)) (h12 : G c 12 ≤ 40) (hB : cB c G) (hk : 0 ≤ nf ∧ nf ≤ G 8 4) (hs : G 8 4 ≤ 300) (hD : ∀ k, D k = false → inN [24, 25, 29, 30, 31, 32, 33, 34, 35, 36, 37, 38, 39] k = false)
    (hF : ∀ HA : mG, (∀ k, k ≠ 33 → HA k = (gs (gs G 29 3 ((c + 5 : Nat) : Int)) 29 4 (n : Int)) k) → (∀ w, w < 40 → HA 33 w = f_X1_amountOf c G ((w : Nat) : Int)) → sF0 c (e_X8_countTakers (fd (loP0 c f nf) HA n)) n ((e_X8_countTakers (fd (loP0 c f nf) HA n)) 33))
    (hQ : ∀ HA : mG, (∀ k, k ≠ 33 → HA k = (gs (gs G 29 3 ((c + 5 : Nat) : Int)) 29 4 (n : Int)) k) → (∀ w, w < 40 → HA 33 w = f_X1_amountOf c G ((w : Nat) : Int)) → ∀ G', sL c (e_X8_countTakers (fd (loP0 c f nf) HA n)) n n G' → Q none G') : P2 D (q + 30) M_X8_plan [mR 34, mR (c + 5), mI f, mI nf, mR 0] G Q := by
  rcases hc with rfl | rfl
  · skip
    have loopB : ∀ HA : mG, (∀ k, k ≠ 33 → HA k = (gs (gs G 29 3 ((45 : Nat) : Int)) 29 4 (n : Int)) k) → (∀ w, w < 40 → HA 33 w = f_X1_amountOf 40 G ((w : Nat) : Int)) → ∀ t b, b + t = n → W2 o_X8 M_X8_plan (inN [24, 25, 29, 30, 31, 32, 33, 34, 35, 36, 37, 38, 39]) (q + 30) Q 56 [some (mR 34), some (mR 45), some (mI f), some (mI nf), some (mR 0), some (mI ((b : Nat) : Int))] [] (fd (loP0 40 f nf) HA b) := by
      intro HA hA1 hA2 t
      induction t with
      | zero =>
        intro b hb
        have hbn : b = n := by omega
        rw [hbn]
        have fr : ∀ k, (∀ a ∈ ([24, 25, 30, 31, 32] : List Nat), k ≠ a) → (fd (loP0 40 f nf) HA n) k = HA k := fun k hk => loP0_fr hk
        have hp3 : (fd (loP0 40 f nf) HA n) 29 3 = ((45 : Nat) : Int) := by rw [fr 29 (by decide), hA1 29 (by decide), gs_at_ne (by decide), gs_at]
        have f4 : (fd (loP0 40 f nf) HA n) 29 4 = (n : Int) := by rw [fr 29 (by decide), hA1 29 (by decide), gs_at]
        have f12 : (fd (loP0 40 f nf) HA n) 40 12 = G 40 12 := by rw [fr 40 (by decide), hA1 40 (by decide), gs_ne (by decide), gs_ne (by decide)]
        have f8 : (fd (loP0 40 f nf) HA n) 8 4 = G 8 4 := by rw [fr 8 (by decide), hA1 8 (by decide), gs_ne (by decide), gs_ne (by decide)]
        have hcB : cB 40 (fd (loP0 40 f nf) HA n) := cB_to hB (by rw [fr 40 (by decide), hA1 40 (by decide), gs_ne (by decide), gs_ne (by decide)]) (by rw [fr 49 (by decide), hA1 49 (by decide), gs_ne (by decide), gs_ne (by decide)]) (by rw [fr 50 (by decide), hA1 50 (by decide), gs_ne (by decide), gs_ne (by decide)])
        have h4 : 0 ≤ (fd (loP0 40 f nf) HA n) 29 4 ∧ (fd (loP0 40 f nf) HA n) 29 4 ≤ 9 := by rw [f4]; omega
        refine w2_vc [56, 89] 400 oo_X8 q_X8_plan ?_
        refine ⟨fun (c1 : ((fd (loP0 40 f nf) HA n) 29 4) ≤ ((n : Nat) : Int)) => ?_, fun (c1 : ((n : Nat) : Int) < ((fd (loP0 40 f nf) HA n) 29 4)) => ?_⟩
        · skip
          refine sp_X8_countTakers (h4) (insub (by decide)) ?_
          refine sp_X8_search (c := 40) (q := q + 9) (n := n) (by decide) (hF HA hA1 hA2) (insub (by decide)) (fun G' hG' => ?_)
          refine (show W2 o_X8 M_X8_plan (inN [24, 25, 29, 30, 31, 32, 33, 34, 35, 36, 37, 38, 39]) (q + 30) Q 89 [some (mR 34), some (mR 45), some (mI f), some (mI nf), some (mR 0), some (mI ((n : Nat) : Int))] [] G' from ?_)
          refine w2_vc [56, 89] 400 oo_X8 q_X8_plan ?_
          exact hQ HA hA1 hA2 G' hG'
        · skip
          exfalso; first | omega | (rw [w32_i (by omega) (by omega)] at c2; omega) | (simp (disch := omega) only [w32_i] at *; omega)
      | succ t iht =>
        intro b hb
        have fr : ∀ k, (∀ a ∈ ([24, 25, 30, 31, 32] : List Nat), k ≠ a) → (fd (loP0 40 f nf) HA b) k = HA k := fun k hk => loP0_fr hk
        have hp3 : (fd (loP0 40 f nf) HA b) 29 3 = ((45 : Nat) : Int) := by rw [fr 29 (by decide), hA1 29 (by decide), gs_at_ne (by decide), gs_at]
        have f4 : (fd (loP0 40 f nf) HA b) 29 4 = (n : Int) := by rw [fr 29 (by decide), hA1 29 (by decide), gs_at]
        have f12 : (fd (loP0 40 f nf) HA b) 40 12 = G 40 12 := by rw [fr 40 (by decide), hA1 40 (by decide), gs_ne (by decide), gs_ne (by decide)]
        have f8 : (fd (loP0 40 f nf) HA b) 8 4 = G 8 4 := by rw [fr 8 (by decide), hA1 8 (by decide), gs_ne (by decide), gs_ne (by decide)]
        have hcB : cB 40 (fd (loP0 40 f nf) HA b) := cB_to hB (by rw [fr 40 (by decide), hA1 40 (by decide), gs_ne (by decide), gs_ne (by decide)]) (by rw [fr 49 (by decide), hA1 49 (by decide), gs_ne (by decide), gs_ne (by decide)]) (by rw [fr 50 (by decide), hA1 50 (by decide), gs_ne (by decide), gs_ne (by decide)])
        refine w2_vc [56, 75] 400 oo_X8 q_X8_plan ?_
        refine ⟨fun (c1 : ((fd (loP0 40 f nf) HA b) 29 4) ≤ ((b : Nat) : Int)) => ?_, fun (c1 : ((b : Nat) : Int) < ((fd (loP0 40 f nf) HA b) 29 4)) => ?_⟩
        · skip
          exfalso; first | omega | (rw [w32_i (by omega) (by omega)] at c1; omega) | (simp (disch := omega) only [w32_i] at *; omega)
        · skip
          refine sp_X8_listOptions_0 (c := 40) (by decide) hp3 (by rw [f12]; exact h12) hcB (by rw [f8]; exact hk) (by rw [f8]; exact hs) (insub (by decide)) ?_
          refine (show W2 o_X8 M_X8_plan (inN [24, 25, 29, 30, 31, 32, 33, 34, 35, 36, 37, 38, 39]) (q + 30) Q 75 [some (mR 34), some (mR 45), some (mI f), some (mI nf), some (mR 0), some (mI ((b : Nat) : Int))] [] (e_X8_listOptions_0 40 (fd (loP0 40 f nf) HA b) ((b : Nat) : Int) f nf) from ?_)
          refine w2_vc [56, 75] 400 oo_X8 q_X8_plan ?_
          refine (show W2 o_X8 M_X8_plan (inN [24, 25, 29, 30, 31, 32, 33, 34, 35, 36, 37, 38, 39]) (q + 30) Q 56 [some (mR 34), some (mR 45), some (mI f), some (mI nf), some (mR 0), some (mI (w32 (((b : Nat) : Int) + 1)))] [] (e_X8_listOptions_0 40 (fd (loP0 40 f nf) HA b) ((b : Nat) : Int) f nf) from ?_)
          rw [w32_nat (by omega)]
          exact iht (b + 1) (by omega)
    have loopA : ∀ t j, j + t = 40 → ∀ H : mG, (∀ k, k ≠ 33 → H k = (gs (gs G 29 3 ((45 : Nat) : Int)) 29 4 (n : Int)) k) → (∀ w, w < j → H 33 w = f_X1_amountOf 40 G ((w : Nat) : Int)) → W2 o_X8 M_X8_plan (inN [24, 25, 29, 30, 31, 32, 33, 34, 35, 36, 37, 38, 39]) (q + 30) Q 24 [some (mR 34), some (mR 45), some (mI f), some (mI nf), some (mR 0), some (mI ((j : Nat) : Int))] [] H := by
      intro t
      induction t with
      | zero =>
        intro j hj H k1 k2
        refine w2_vc [24, 56] 400 oo_X8 q_X8_plan ?_
        refine ⟨fun (c1 : 40 ≤ ((j : Nat) : Int)) => ?_, fun (c1 : ((j : Nat) : Int) < 40) => ?_⟩
        · skip
          refine (show W2 o_X8 M_X8_plan (inN [24, 25, 29, 30, 31, 32, 33, 34, 35, 36, 37, 38, 39]) (q + 30) Q 56 [some (mR 34), some (mR 45), some (mI f), some (mI nf), some (mR 0), some (mI 0)] [] H from ?_)
          exact loopB H k1 (fun i hi => k2 i (by omega)) n 0 (by omega)
        · skip
          exfalso; first | omega | (rw [w32_i (by omega) (by omega)] at c1; omega) | (simp (disch := omega) only [w32_i] at *; omega)
      | succ t iht =>
        intro j hj H k1 k2
        have hp3 : H 29 3 = ((45 : Nat) : Int) := by rw [k1 29 (by decide), gs_at_ne (by decide), gs_at]
        have k1 : ∀ k, k ≠ 33 → H k = (gs (gs G 29 3 ((45 : Nat) : Int)) 29 4 (n : Int)) k := k1
        refine w2_vc [24, 41, 47, 56] 400 oo_X8 q_X8_plan ?_
        refine ⟨fun (c1 : 40 ≤ ((j : Nat) : Int)) => ?_, fun (c1 : ((j : Nat) : Int) < 40) => ?_⟩
        · skip
          exfalso; first | omega | (rw [w32_i (by omega) (by omega)] at c1; omega) | (simp (disch := omega) only [w32_i] at *; omega)
        · skip
          refine (show W2 o_X8 M_X8_plan (inN [24, 25, 29, 30, 31, 32, 33, 34, 35, 36, 37, 38, 39]) (q + 30) Q 41 [some (mR 34), some (mR 45), some (mI f), some (mI nf), some (mR 0), some (mI ((j : Nat) : Int))] [mR (Int.toNat (H 29 3)), mI ((j : Nat) : Int), mR 38] H from ?_)
          rw [show (H 29 3) = 45 from by (try simp (disch := decide) only [gs_ne, gs_at_ne]); exact hp3]
          refine (show W2 o_X8 M_X8_plan (inN [24, 25, 29, 30, 31, 32, 33, 34, 35, 36, 37, 38, 39]) (q + 30) Q 41 [some (mR 34), some (mR 45), some (mI f), some (mI nf), some (mR 0), some (mI ((j : Nat) : Int))] [mR 45, mI ((j : Nat) : Int), mR 38] H from ?_)
          refine w2_vc [24, 41, 47, 56] 400 oo_X8 q_X8_plan ?_
          refine sp_X1_amountOf (by decide) ?_
          refine ⟨(show 0 ≤ ((j : Nat) : Int) ∧ ((j : Nat) : Int) < ((40 : Nat) : Int) from by first | omega | (simp (disch := omega) only [w32_i]; omega)), ?_⟩
          refine (show W2 o_X8 M_X8_plan (inN [24, 25, 29, 30, 31, 32, 33, 34, 35, 36, 37, 38, 39]) (q + 30) Q 47 [some (mR 34), some (mR 45), some (mI f), some (mI nf), some (mR 0), some (mI ((j : Nat) : Int))] [] (gs H 33 (Int.toNat ((j : Nat) : Int)) (f_X1_amountOf 40 H ((j : Nat) : Int))) from ?_)
          refine w2_vc [24, 41, 47, 56] 400 oo_X8 q_X8_plan ?_
          refine (show W2 o_X8 M_X8_plan (inN [24, 25, 29, 30, 31, 32, 33, 34, 35, 36, 37, 38, 39]) (q + 30) Q 24 [some (mR 34), some (mR 45), some (mI f), some (mI nf), some (mR 0), some (mI (w32 (((j : Nat) : Int) + 1)))] [] (gs H 33 (Int.toNat ((j : Nat) : Int)) (f_X1_amountOf 40 H ((j : Nat) : Int))) from ?_)
          rw [w32_nat (by omega), st_nat]
          exact iht (j + 1) (by omega) _ (fun k hk => by rw [gs_ne hk]; exact k1 k hk) (row_nx (p := fun w => f_X1_amountOf 40 G ((w : Nat) : Int)) k2 (amt_to (c := 40) (k1 40 (by decide)) (k1 46 (by decide)) (by decide) _))
    refine MP.to (D2 := inN [24, 25, 29, 30, 31, 32, 33, 34, 35, 36, 37, 38, 39]) (Q2 := Q) ?_ hD (fun v G' q _ => q)
    refine (show P2 (inN [24, 25, 29, 30, 31, 32, 33, 34, 35, 36, 37, 38, 39]) (q + 30) M_X8_plan [mR 34, mR 45, mI f, mI nf, mR 0] G Q from ?_)
    refine p2_vc [5, 21, 24] 400 oo_X8 q_X8_plan (by decide) rfl (Nat.le_of_ble_eq_true rfl) ?_
    refine (show W2 o_X8 M_X8_plan (inN [24, 25, 29, 30, 31, 32, 33, 34, 35, 36, 37, 38, 39]) (q + 30) Q 5 [some (mR 34), some (mR 45), some (mI f), some (mI nf), some (mR 0), none] [] (gs G 29 3 ((45 : Nat) : Int)) from ?_)
    refine w2_vc [5, 21, 24] 400 oo_X8 q_X8_plan ?_
    refine sp_X0_size  ?_
    have c2 := (show f_X0_size (gs G 29 3 ((45 : Nat) : Int)) = (gs G 29 3 ((45 : Nat) : Int)) 1 6 from rfl)
    refine (show W2 o_X8 M_X8_plan (inN [24, 25, 29, 30, 31, 32, 33, 34, 35, 36, 37, 38, 39]) (q + 30) Q 21 [some (mR 34), some (mR 45), some (mI f), some (mI nf), some (mR 0), none] [] (gs (gs G 29 3 ((45 : Nat) : Int)) 29 4 (mMin (f_X0_size (gs G 29 3 ((45 : Nat) : Int)) ) 9)) from ?_)
    refine w2_vc [5, 21, 24] 400 oo_X8 q_X8_plan ?_
    refine (show W2 o_X8 M_X8_plan (inN [24, 25, 29, 30, 31, 32, 33, 34, 35, 36, 37, 38, 39]) (q + 30) Q 24 [some (mR 34), some (mR 45), some (mI f), some (mI nf), some (mR 0), some (mI 0)] [] (gs (gs G 29 3 ((45 : Nat) : Int)) 29 4 (mMin (f_X0_size (gs G 29 3 ((45 : Nat) : Int)) ) 9)) from ?_)
    rw [show mMin (f_X0_size (gs G 29 3 ((45 : Nat) : Int)) ) 9 = (n : Int) from by (unfold f_X0_size; rw [gs_ne (by decide), h16]; exact mMin_l (by omega))]
    exact loopA 40 0 (by omega) _ (fun _ _ => rfl) (fun i hi => absurd hi (by omega))
  · skip
    have loopB : ∀ HA : mG, (∀ k, k ≠ 33 → HA k = (gs (gs G 29 3 ((57 : Nat) : Int)) 29 4 (n : Int)) k) → (∀ w, w < 40 → HA 33 w = f_X1_amountOf 52 G ((w : Nat) : Int)) → ∀ t b, b + t = n → W2 o_X8 M_X8_plan (inN [24, 25, 29, 30, 31, 32, 33, 34, 35, 36, 37, 38, 39]) (q + 30) Q 56 [some (mR 34), some (mR 57), some (mI f), some (mI nf), some (mR 0), some (mI ((b : Nat) : Int))] [] (fd (loP0 52 f nf) HA b) := by
      intro HA hA1 hA2 t
      induction t with
      | zero =>
        intro b hb
        have hbn : b = n := by omega
        rw [hbn]
        have fr : ∀ k, (∀ a ∈ ([24, 25, 30, 31, 32] : List Nat), k ≠ a) → (fd (loP0 52 f nf) HA n) k = HA k := fun k hk => loP0_fr hk
        have hp3 : (fd (loP0 52 f nf) HA n) 29 3 = ((57 : Nat) : Int) := by rw [fr 29 (by decide), hA1 29 (by decide), gs_at_ne (by decide), gs_at]
        have f4 : (fd (loP0 52 f nf) HA n) 29 4 = (n : Int) := by rw [fr 29 (by decide), hA1 29 (by decide), gs_at]
        have f12 : (fd (loP0 52 f nf) HA n) 52 12 = G 52 12 := by rw [fr 52 (by decide), hA1 52 (by decide), gs_ne (by decide), gs_ne (by decide)]
        have f8 : (fd (loP0 52 f nf) HA n) 8 4 = G 8 4 := by rw [fr 8 (by decide), hA1 8 (by decide), gs_ne (by decide), gs_ne (by decide)]
        have hcB : cB 52 (fd (loP0 52 f nf) HA n) := cB_to hB (by rw [fr 52 (by decide), hA1 52 (by decide), gs_ne (by decide), gs_ne (by decide)]) (by rw [fr 61 (by decide), hA1 61 (by decide), gs_ne (by decide), gs_ne (by decide)]) (by rw [fr 62 (by decide), hA1 62 (by decide), gs_ne (by decide), gs_ne (by decide)])
        have h4 : 0 ≤ (fd (loP0 52 f nf) HA n) 29 4 ∧ (fd (loP0 52 f nf) HA n) 29 4 ≤ 9 := by rw [f4]; omega
        refine w2_vc [56, 89] 400 oo_X8 q_X8_plan ?_
        refine ⟨fun (c1 : ((fd (loP0 52 f nf) HA n) 29 4) ≤ ((n : Nat) : Int)) => ?_, fun (c1 : ((n : Nat) : Int) < ((fd (loP0 52 f nf) HA n) 29 4)) => ?_⟩
        · skip
          refine sp_X8_countTakers (h4) (insub (by decide)) ?_
          refine sp_X8_search (c := 52) (q := q + 9) (n := n) (by decide) (hF HA hA1 hA2) (insub (by decide)) (fun G' hG' => ?_)
          refine (show W2 o_X8 M_X8_plan (inN [24, 25, 29, 30, 31, 32, 33, 34, 35, 36, 37, 38, 39]) (q + 30) Q 89 [some (mR 34), some (mR 57), some (mI f), some (mI nf), some (mR 0), some (mI ((n : Nat) : Int))] [] G' from ?_)
          refine w2_vc [56, 89] 400 oo_X8 q_X8_plan ?_
          exact hQ HA hA1 hA2 G' hG'
        · skip
          exfalso; first | omega | (rw [w32_i (by omega) (by omega)] at c2; omega) | (simp (disch := omega) only [w32_i] at *; omega)
      | succ t iht =>
        intro b hb
        have fr : ∀ k, (∀ a ∈ ([24, 25, 30, 31, 32] : List Nat), k ≠ a) → (fd (loP0 52 f nf) HA b) k = HA k := fun k hk => loP0_fr hk
        have hp3 : (fd (loP0 52 f nf) HA b) 29 3 = ((57 : Nat) : Int) := by rw [fr 29 (by decide), hA1 29 (by decide), gs_at_ne (by decide), gs_at]
        have f4 : (fd (loP0 52 f nf) HA b) 29 4 = (n : Int) := by rw [fr 29 (by decide), hA1 29 (by decide), gs_at]
        have f12 : (fd (loP0 52 f nf) HA b) 52 12 = G 52 12 := by rw [fr 52 (by decide), hA1 52 (by decide), gs_ne (by decide), gs_ne (by decide)]
        have f8 : (fd (loP0 52 f nf) HA b) 8 4 = G 8 4 := by rw [fr 8 (by decide), hA1 8 (by decide), gs_ne (by decide), gs_ne (by decide)]
        have hcB : cB 52 (fd (loP0 52 f nf) HA b) := cB_to hB (by rw [fr 52 (by decide), hA1 52 (by decide), gs_ne (by decide), gs_ne (by decide)]) (by rw [fr 61 (by decide), hA1 61 (by decide), gs_ne (by decide), gs_ne (by decide)]) (by rw [fr 62 (by decide), hA1 62 (by decide), gs_ne (by decide), gs_ne (by decide)])
        refine w2_vc [56, 75] 400 oo_X8 q_X8_plan ?_
        refine ⟨fun (c1 : ((fd (loP0 52 f nf) HA b) 29 4) ≤ ((b : Nat) : Int)) => ?_, fun (c1 : ((b : Nat) : Int) < ((fd (loP0 52 f nf) HA b) 29 4)) => ?_⟩
        · skip
          exfalso; first | omega | (rw [w32_i (by omega) (by omega)] at c1; omega) | (simp (disch := omega) only [w32_i] at *; omega)
        · skip
          refine sp_X8_listOptions_0 (c := 52) (by decide) hp3 (by rw [f12]; exact h12) hcB (by rw [f8]; exact hk) (by rw [f8]; exact hs) (insub (by decide)) ?_
          refine (show W2 o_X8 M_X8_plan (inN [24, 25, 29, 30, 31, 32, 33, 34, 35, 36, 37, 38, 39]) (q + 30) Q 75 [some (mR 34), some (mR 57), some (mI f), some (mI nf), some (mR 0), some (mI ((b : Nat) : Int))] [] (e_X8_listOptions_0 52 (fd (loP0 52 f nf) HA b) ((b : Nat) : Int) f nf) from ?_)
          refine w2_vc [56, 75] 400 oo_X8 q_X8_plan ?_
          refine (show W2 o_X8 M_X8_plan (inN [24, 25, 29, 30, 31, 32, 33, 34, 35, 36, 37, 38, 39]) (q + 30) Q 56 [some (mR 34), some (mR 57), some (mI f), some (mI nf), some (mR 0), some (mI (w32 (((b : Nat) : Int) + 1)))] [] (e_X8_listOptions_0 52 (fd (loP0 52 f nf) HA b) ((b : Nat) : Int) f nf) from ?_)
          rw [w32_nat (by omega)]
          exact iht (b + 1) (by omega)
    have loopA : ∀ t j, j + t = 40 → ∀ H : mG, (∀ k, k ≠ 33 → H k = (gs (gs G 29 3 ((57 : Nat) : Int)) 29 4 (n : Int)) k) → (∀ w, w < j → H 33 w = f_X1_amountOf 52 G ((w : Nat) : Int)) → W2 o_X8 M_X8_plan (inN [24, 25, 29, 30, 31, 32, 33, 34, 35, 36, 37, 38, 39]) (q + 30) Q 24 [some (mR 34), some (mR 57), some (mI f), some (mI nf), some (mR 0), some (mI ((j : Nat) : Int))] [] H := by
      intro t
      induction t with
      | zero =>
        intro j hj H k1 k2
        refine w2_vc [24, 56] 400 oo_X8 q_X8_plan ?_
        refine ⟨fun (c1 : 40 ≤ ((j : Nat) : Int)) => ?_, fun (c1 : ((j : Nat) : Int) < 40) => ?_⟩
        · skip
          refine (show W2 o_X8 M_X8_plan (inN [24, 25, 29, 30, 31, 32, 33, 34, 35, 36, 37, 38, 39]) (q + 30) Q 56 [some (mR 34), some (mR 57), some (mI f), some (mI nf), some (mR 0), some (mI 0)] [] H from ?_)
          exact loopB H k1 (fun i hi => k2 i (by omega)) n 0 (by omega)
        · skip
          exfalso; first | omega | (rw [w32_i (by omega) (by omega)] at c1; omega) | (simp (disch := omega) only [w32_i] at *; omega)
      | succ t iht =>
        intro j hj H k1 k2
        have hp3 : H 29 3 = ((57 : Nat) : Int) := by rw [k1 29 (by decide), gs_at_ne (by decide), gs_at]
        have k1 : ∀ k, k ≠ 33 → H k = (gs (gs G 29 3 ((57 : Nat) : Int)) 29 4 (n : Int)) k := k1
        refine w2_vc [24, 41, 47, 56] 400 oo_X8 q_X8_plan ?_
        refine ⟨fun (c1 : 40 ≤ ((j : Nat) : Int)) => ?_, fun (c1 : ((j : Nat) : Int) < 40) => ?_⟩
        · skip
          exfalso; first | omega | (rw [w32_i (by omega) (by omega)] at c1; omega) | (simp (disch := omega) only [w32_i] at *; omega)
        · skip
          refine (show W2 o_X8 M_X8_plan (inN [24, 25, 29, 30, 31, 32, 33, 34, 35, 36, 37, 38, 39]) (q + 30) Q 41 [some (mR 34), some (mR 57), some (mI f), some (mI nf), some (mR 0), some (mI ((j : Nat) : Int))] [mR (Int.toNat (H 29 3)), mI ((j : Nat) : Int), mR 38] H from ?_)
          rw [show (H 29 3) = 57 from by (try simp (disch := decide) only [gs_ne, gs_at_ne]); exact hp3]
          refine (show W2 o_X8 M_X8_plan (inN [24, 25, 29, 30, 31, 32, 33, 34, 35, 36, 37, 38, 39]) (q + 30) Q 41 [some (mR 34), some (mR 57), some (mI f), some (mI nf), some (mR 0), some (mI ((j : Nat) : Int))] [mR 57, mI ((j : Nat) : Int), mR 38] H from ?_)
          refine w2_vc [24, 41, 47, 56] 400 oo_X8 q_X8_plan ?_
          refine sp_X1_amountOf (by decide) ?_
          refine ⟨(show 0 ≤ ((j : Nat) : Int) ∧ ((j : Nat) : Int) < ((40 : Nat) : Int) from by first | omega | (simp (disch := omega) only [w32_i]; omega)), ?_⟩
          refine (show W2 o_X8 M_X8_plan (inN [24, 25, 29, 30, 31, 32, 33, 34, 35, 36, 37, 38, 39]) (q + 30) Q 47 [some (mR 34), some (mR 57), some (mI f), some (mI nf), some (mR 0), some (mI ((j : Nat) : Int))] [] (gs H 33 (Int.toNat ((j : Nat) : Int)) (f_X1_amountOf 52 H ((j : Nat) : Int))) from ?_)
          refine w2_vc [24, 41, 47, 56] 400 oo_X8 q_X8_plan ?_
          refine (show W2 o_X8 M_X8_plan (inN [24, 25, 29, 30, 31, 32, 33, 34, 35, 36, 37, 38, 39]) (q + 30) Q 24 [some (mR 34), some (mR 57), some (mI f), some (mI nf), some (mR 0), some (mI (w32 (((j : Nat) : Int) + 1)))] [] (gs H 33 (Int.toNat ((j : Nat) : Int)) (f_X1_amountOf 52 H ((j : Nat) : Int))) from ?_)
          rw [w32_nat (by omega), st_nat]
          exact iht (j + 1) (by omega) _ (fun k hk => by rw [gs_ne hk]; exact k1 k hk) (row_nx (p := fun w => f_X1_amountOf 52 G ((w : Nat) : Int)) k2 (amt_to (c := 52) (k1 52 (by decide)) (k1 58 (by decide)) (by decide) _))
    refine MP.to (D2 := inN [24, 25, 29, 30, 31, 32, 33, 34, 35, 36, 37, 38, 39]) (Q2 := Q) ?_ hD (fun v G' q _ => q)
    refine (show P2 (inN [24, 25, 29, 30, 31, 32, 33, 34, 35, 36, 37, 38, 39]) (q + 30) M_X8_plan [mR 34, mR 57, mI f, mI nf, mR 0] G Q from ?_)
    refine p2_vc [5, 21, 24] 400 oo_X8 q_X8_plan (by decide) rfl (Nat.le_of_ble_eq_true rfl) ?_
    refine (show W2 o_X8 M_X8_plan (inN [24, 25, 29, 30, 31, 32, 33, 34, 35, 36, 37, 38, 39]) (q + 30) Q 5 [some (mR 34), some (mR 57), some (mI f), some (mI nf), some (mR 0), none] [] (gs G 29 3 ((57 : Nat) : Int)) from ?_)
    refine w2_vc [5, 21, 24] 400 oo_X8 q_X8_plan ?_
    refine sp_X0_size  ?_
    have c2 := (show f_X0_size (gs G 29 3 ((57 : Nat) : Int)) = (gs G 29 3 ((57 : Nat) : Int)) 1 6 from rfl)
    refine (show W2 o_X8 M_X8_plan (inN [24, 25, 29, 30, 31, 32, 33, 34, 35, 36, 37, 38, 39]) (q + 30) Q 21 [some (mR 34), some (mR 57), some (mI f), some (mI nf), some (mR 0), none] [] (gs (gs G 29 3 ((57 : Nat) : Int)) 29 4 (mMin (f_X0_size (gs G 29 3 ((57 : Nat) : Int)) ) 9)) from ?_)
    refine w2_vc [5, 21, 24] 400 oo_X8 q_X8_plan ?_
    refine (show W2 o_X8 M_X8_plan (inN [24, 25, 29, 30, 31, 32, 33, 34, 35, 36, 37, 38, 39]) (q + 30) Q 24 [some (mR 34), some (mR 57), some (mI f), some (mI nf), some (mR 0), some (mI 0)] [] (gs (gs G 29 3 ((57 : Nat) : Int)) 29 4 (mMin (f_X0_size (gs G 29 3 ((57 : Nat) : Int)) ) 9)) from ?_)
    rw [show mMin (f_X0_size (gs G 29 3 ((57 : Nat) : Int)) ) 9 = (n : Int) from by (unfold f_X0_size; rw [gs_ne (by decide), h16]; exact mMin_l (by omega))]
    exact loopA 40 0 (by omega) _ (fun _ _ => rfl) (fun i hi => absurd hi (by omega))
def loP1 (c : Nat) (f nf : Int) : Nat → mG → mG := fun b s => e_X8_listOptions_1 c s ((b : Nat) : Int) f nf
theorem loP1_fr {c : Nat} {f nf : Int} {HA : mG} {b k : Nat} (hk : ∀ a ∈ ([24, 25, 30, 31, 32] : List Nat), k ≠ a) : (fd (loP1 c f nf) HA b) k = HA k := fd_fr (fun j s => fr_X8_listOptions_1 hk)
set_option maxHeartbeats 8000000 in
theorem sp_X8_plan_1 {D : Nat → Bool} {q c : Nat} (hc : c = 40 ∨ c = 52) {G : mG} {f nf : Int} {n : Nat} {Q : Option mV → mG → Prop} (hn9 : n ≤ 9) (h16 : G 1 6 = (n : Int)) (h12 : G c 12 ≤ 40) (hB : cB c G) (hk : 0 ≤ nf ∧ nf ≤ G 8 4) (hs : G 8 4 ≤ 300) (hD : ∀ k, D k = false → inN [24, 25, 29, 30, 31, 32, 33, 34, 35, 36, 37, 38, 39] k = false)
    (hF : ∀ HA : mG, (∀ k, k ≠ 33 → HA k = (gs (gs G 29 3 ((c + 5 : Nat) : Int)) 29 4 (n : Int)) k) → (∀ w, w < 40 → HA 33 w = f_X1_amountOf c G ((w : Nat) : Int)) → sF0 c (e_X8_countTakers (fd (loP1 c f nf) HA n)) n ((e_X8_countTakers (fd (loP1 c f nf) HA n)) 33))
    (hQ : ∀ HA : mG, (∀ k, k ≠ 33 → HA k = (gs (gs G 29 3 ((c + 5 : Nat) : Int)) 29 4 (n : Int)) k) → (∀ w, w < 40 → HA 33 w = f_X1_amountOf c G ((w : Nat) : Int)) → ∀ G', sL c (e_X8_countTakers (fd (loP1 c f nf) HA n)) n n G' → Q none G') : P2 D (q + 30) M_X8_plan [mR 34, mR (c + 5), mI f, mI nf, mR 26] G Q := by
  rcases hc with rfl | rfl
  · skip
    have loopB : ∀ HA : mG, (∀ k, k ≠ 33 → HA k = (gs (gs G 29 3 ((45 : Nat) : Int)) 29 4 (n : Int)) k) → (∀ w, w < 40 → HA 33 w = f_X1_amountOf 40 G ((w : Nat) : Int)) → ∀ t b, b + t = n → W2 o_X8 M_X8_plan (inN [24, 25, 29, 30, 31, 32, 33, 34, 35, 36, 37, 38, 39]) (q + 30) Q 56 [some (mR 34), some (mR 45), some (mI f), some (mI nf), some (mR 26), some (mI ((b : Nat) : Int))] [] (fd (loP1 40 f nf) HA b) := by
      intro HA hA1 hA2 t
      induction t with
      | zero =>
        intro b hb
        have hbn : b = n := by omega
        rw [hbn]
        have fr : ∀ k, (∀ a ∈ ([24, 25, 30, 31, 32] : List Nat), k ≠ a) → (fd (loP1 40 f nf) HA n) k = HA k := fun k hk => loP1_fr hk
        have hp3 : (fd (loP1 40 f nf) HA n) 29 3 = ((45 : Nat) : Int) := by rw [fr 29 (by decide), hA1 29 (by decide), gs_at_ne (by decide), gs_at]
        have f4 : (fd (loP1 40 f nf) HA n) 29 4 = (n : Int) := by rw [fr 29 (by decide), hA1 29 (by decide), gs_at]
        have f12 : (fd (loP1 40 f nf) HA n) 40 12 = G 40 12 := by rw [fr 40 (by decide), hA1 40 (by decide), gs_ne (by decide), gs_ne (by decide)]
        have f8 : (fd (loP1 40 f nf) HA n) 8 4 = G 8 4 := by rw [fr 8 (by decide), hA1 8 (by decide), gs_ne (by decide), gs_ne (by decide)]
        have hcB : cB 40 (fd (loP1 40 f nf) HA n) := cB_to hB (by rw [fr 40 (by decide), hA1 40 (by decide), gs_ne (by decide), gs_ne (by decide)]) (by rw [fr 49 (by decide), hA1 49 (by decide), gs_ne (by decide), gs_ne (by decide)]) (by rw [fr 50 (by decide), hA1 50 (by decide), gs_ne (by decide), gs_ne (by decide)])
        have h4 : 0 ≤ (fd (loP1 40 f nf) HA n) 29 4 ∧ (fd (loP1 40 f nf) HA n) 29 4 ≤ 9 := by rw [f4]; omega
        refine w2_vc [56, 89] 400 oo_X8 q_X8_plan ?_
        refine ⟨fun (c1 : ((fd (loP1 40 f nf) HA n) 29 4) ≤ ((n : Nat) : Int)) => ?_, fun (c1 : ((n : Nat) : Int) < ((fd (loP1 40 f nf) HA n) 29 4)) => ?_⟩
        · skip
          refine sp_X8_countTakers (h4) (insub (by decide)) ?_
          refine sp_X8_search (c := 40) (q := q + 9) (n := n) (by decide) (hF HA hA1 hA2) (insub (by decide)) (fun G' hG' => ?_)
          refine (show W2 o_X8 M_X8_plan (inN [24, 25, 29, 30, 31, 32, 33, 34, 35, 36, 37, 38, 39]) (q + 30) Q 89 [some (mR 34), some (mR 45), some (mI f), some (mI nf), some (mR 26), some (mI ((n : Nat) : Int))] [] G' from ?_)
          refine w2_vc [56, 89] 400 oo_X8 q_X8_plan ?_
          exact hQ HA hA1 hA2 G' hG'
        · skip
          exfalso; first | omega | (rw [w32_i (by omega) (by omega)] at c2; omega) | (simp (disch := omega) only [w32_i] at *; omega)
      | succ t iht =>
        intro b hb
        have fr : ∀ k, (∀ a ∈ ([24, 25, 30, 31, 32] : List Nat), k ≠ a) → (fd (loP1 40 f nf) HA b) k = HA k := fun k hk => loP1_fr hk
        have hp3 : (fd (loP1 40 f nf) HA b) 29 3 = ((45 : Nat) : Int) := by rw [fr 29 (by decide), hA1 29 (by decide), gs_at_ne (by decide), gs_at]
        have f4 : (fd (loP1 40 f nf) HA b) 29 4 = (n : Int) := by rw [fr 29 (by decide), hA1 29 (by decide), gs_at]
        have f12 : (fd (loP1 40 f nf) HA b) 40 12 = G 40 12 := by rw [fr 40 (by decide), hA1 40 (by decide), gs_ne (by decide), gs_ne (by decide)]
        have f8 : (fd (loP1 40 f nf) HA b) 8 4 = G 8 4 := by rw [fr 8 (by decide), hA1 8 (by decide), gs_ne (by decide), gs_ne (by decide)]
        have hcB : cB 40 (fd (loP1 40 f nf) HA b) := cB_to hB (by rw [fr 40 (by decide), hA1 40 (by decide), gs_ne (by decide), gs_ne (by decide)]) (by rw [fr 49 (by decide), hA1 49 (by decide), gs_ne (by decide), gs_ne (by decide)]) (by rw [fr 50 (by decide), hA1 50 (by decide), gs_ne (by decide), gs_ne (by decide)])
        refine w2_vc [56, 75] 400 oo_X8 q_X8_plan ?_
        refine ⟨fun (c1 : ((fd (loP1 40 f nf) HA b) 29 4) ≤ ((b : Nat) : Int)) => ?_, fun (c1 : ((b : Nat) : Int) < ((fd (loP1 40 f nf) HA b) 29 4)) => ?_⟩
        · skip
          exfalso; first | omega | (rw [w32_i (by omega) (by omega)] at c1; omega) | (simp (disch := omega) only [w32_i] at *; omega)
        · skip
          refine sp_X8_listOptions_1 (c := 40) (by decide) hp3 (by rw [f12]; exact h12) hcB (by rw [f8]; exact hk) (by rw [f8]; exact hs) (insub (by decide)) ?_
          refine (show W2 o_X8 M_X8_plan (inN [24, 25, 29, 30, 31, 32, 33, 34, 35, 36, 37, 38, 39]) (q + 30) Q 75 [some (mR 34), some (mR 45), some (mI f), some (mI nf), some (mR 26), some (mI ((b : Nat) : Int))] [] (e_X8_listOptions_1 40 (fd (loP1 40 f nf) HA b) ((b : Nat) : Int) f nf) from ?_)
          refine w2_vc [56, 75] 400 oo_X8 q_X8_plan ?_
          refine (show W2 o_X8 M_X8_plan (inN [24, 25, 29, 30, 31, 32, 33, 34, 35, 36, 37, 38, 39]) (q + 30) Q 56 [some (mR 34), some (mR 45), some (mI f), some (mI nf), some (mR 26), some (mI (w32 (((b : Nat) : Int) + 1)))] [] (e_X8_listOptions_1 40 (fd (loP1 40 f nf) HA b) ((b : Nat) : Int) f nf) from ?_)
          rw [w32_nat (by omega)]
          exact iht (b + 1) (by omega)
    have loopA : ∀ t j, j + t = 40 → ∀ H : mG, (∀ k, k ≠ 33 → H k = (gs (gs G 29 3 ((45 : Nat) : Int)) 29 4 (n : Int)) k) → (∀ w, w < j → H 33 w = f_X1_amountOf 40 G ((w : Nat) : Int)) → W2 o_X8 M_X8_plan (inN [24, 25, 29, 30, 31, 32, 33, 34, 35, 36, 37, 38, 39]) (q + 30) Q 24 [some (mR 34), some (mR 45), some (mI f), some (mI nf), some (mR 26), some (mI ((j : Nat) : Int))] [] H := by
      intro t
      induction t with
      | zero =>
        intro j hj H k1 k2
        refine w2_vc [24, 56] 400 oo_X8 q_X8_plan ?_
        refine ⟨fun (c1 : 40 ≤ ((j : Nat) : Int)) => ?_, fun (c1 : ((j : Nat) : Int) < 40) => ?_⟩
        · skip
          refine (show W2 o_X8 M_X8_plan (inN [24, 25, 29, 30, 31, 32, 33, 34, 35, 36, 37, 38, 39]) (q + 30) Q 56 [some (mR 34), some (mR 45), some (mI f), some (mI nf), some (mR 26), some (mI 0)] [] H from ?_)
          exact loopB H k1 (fun i hi => k2 i (by omega)) n 0 (by omega)
        · skip
          exfalso; first | omega | (rw [w32_i (by omega) (by omega)] at c1; omega) | (simp (disch := omega) only [w32_i] at *; omega)
      | succ t iht =>
        intro j hj H k1 k2
        have hp3 : H 29 3 = ((45 : Nat) : Int) := by rw [k1 29 (by decide), gs_at_ne (by decide), gs_at]
        have k1 : ∀ k, k ≠ 33 → H k = (gs (gs G 29 3 ((45 : Nat) : Int)) 29 4 (n : Int)) k := k1
        refine w2_vc [24, 41, 47, 56] 400 oo_X8 q_X8_plan ?_
        refine ⟨fun (c1 : 40 ≤ ((j : Nat) : Int)) => ?_, fun (c1 : ((j : Nat) : Int) < 40) => ?_⟩
        · skip
          exfalso; first | omega | (rw [w32_i (by omega) (by omega)] at c1; omega) | (simp (disch := omega) only [w32_i] at *; omega)
        · skip
          refine (show W2 o_X8 M_X8_plan (inN [24, 25, 29, 30, 31, 32, 33, 34, 35, 36, 37, 38, 39]) (q + 30) Q 41 [some (mR 34), some (mR 45), some (mI f), some (mI nf), some (mR 26), some (mI ((j : Nat) : Int))] [mR (Int.toNat (H 29 3)), mI ((j : Nat) : Int), mR 38] H from ?_)
          rw [show (H 29 3) = 45 from by (try simp (disch := decide) only [gs_ne, gs_at_ne]); exact hp3]
          refine (show W2 o_X8 M_X8_plan (inN [24, 25, 29, 30, 31, 32, 33, 34, 35, 36, 37, 38, 39]) (q + 30) Q 41 [some (mR 34), some (mR 45), some (mI f), some (mI nf), some (mR 26), some (mI ((j : Nat) : Int))] [mR 45, mI ((j : Nat) : Int), mR 38] H from ?_)
          refine w2_vc [24, 41, 47, 56] 400 oo_X8 q_X8_plan ?_
          refine sp_X1_amountOf (by decide) ?_
          refine ⟨(show 0 ≤ ((j : Nat) : Int) ∧ ((j : Nat) : Int) < ((40 : Nat) : Int) from by first | omega | (simp (disch := omega) only [w32_i]; omega)), ?_⟩
          refine (show W2 o_X8 M_X8_plan (inN [24, 25, 29, 30, 31, 32, 33, 34, 35, 36, 37, 38, 39]) (q + 30) Q 47 [some (mR 34), some (mR 45), some (mI f), some (mI nf), some (mR 26), some (mI ((j : Nat) : Int))] [] (gs H 33 (Int.toNat ((j : Nat) : Int)) (f_X1_amountOf 40 H ((j : Nat) : Int))) from ?_)
          refine w2_vc [24, 41, 47, 56] 400 oo_X8 q_X8_plan ?_
          refine (show W2 o_X8 M_X8_plan (inN [24, 25, 29, 30, 31, 32, 33, 34, 35, 36, 37, 38, 39]) (q + 30) Q 24 [some (mR 34), some (mR 45), some (mI f), some (mI nf), some (mR 26), some (mI (w32 (((j : Nat) : Int) + 1)))] [] (gs H 33 (Int.toNat ((j : Nat) : Int)) (f_X1_amountOf 40 H ((j : Nat) : Int))) from ?_)
          rw [w32_nat (by omega), st_nat]
          exact iht (j + 1) (by omega) _ (fun k hk => by rw [gs_ne hk]; exact k1 k hk) (row_nx (p := fun w => f_X1_amountOf 40 G ((w : Nat) : Int)) k2 (amt_to (c := 40) (k1 40 (by decide)) (k1 46 (by decide)) (by decide) _))
    refine MP.to (D2 := inN [24, 25, 29, 30, 31, 32, 33, 34, 35, 36, 37, 38, 39]) (Q2 := Q) ?_ hD (fun v G' q _ => q)
    refine (show P2 (inN [24, 25, 29, 30, 31, 32, 33, 34, 35, 36, 37, 38, 39]) (q + 30) M_X8_plan [mR 34, mR 45, mI f, mI nf, mR 26] G Q from ?_)
    refine p2_vc [5, 21, 24] 400 oo_X8 q_X8_plan (by decide) rfl (Nat.le_of_ble_eq_true rfl) ?_
    refine (show W2 o_X8 M_X8_plan (inN [24, 25, 29, 30, 31, 32, 33, 34, 35, 36, 37, 38, 39]) (q + 30) Q 5 [some (mR 34), some (mR 45), some (mI f), some (mI nf), some (mR 26), none] [] (gs G 29 3 ((45 : Nat) : Int)) from ?_)
    refine w2_vc [5, 21, 24] 400 oo_X8 q_X8_plan ?_
    refine sp_X0_size  ?_
    have c2 := (show f_X0_size (gs G 29 3 ((45 : Nat) : Int)) = (gs G 29 3 ((45 : Nat) : Int)) 1 6 from rfl)
    refine (show W2 o_X8 M_X8_plan (inN [24, 25, 29, 30, 31, 32, 33, 34, 35, 36, 37, 38, 39]) (q + 30) Q 21 [some (mR 34), some (mR 45), some (mI f), some (mI nf), some (mR 26), none] [] (gs (gs G 29 3 ((45 : Nat) : Int)) 29 4 (mMin (f_X0_size (gs G 29 3 ((45 : Nat) : Int)) ) 9)) from ?_)
    refine w2_vc [5, 21, 24] 400 oo_X8 q_X8_plan ?_
    refine (show W2 o_X8 M_X8_plan (inN [24, 25, 29, 30, 31, 32, 33, 34, 35, 36, 37, 38, 39]) (q + 30) Q 24 [some (mR 34), some (mR 45), some (mI f), some (mI nf), some (mR 26), some (mI 0)] [] (gs (gs G 29 3 ((45 : Nat) : Int)) 29 4 (mMin (f_X0_size (gs G 29 3 ((45 : Nat) : Int)) ) 9)) from ?_)
    rw [show mMin (f_X0_size (gs G 29 3 ((45 : Nat) : Int)) ) 9 = (n : Int) from by (unfold f_X0_size; rw [gs_ne (by decide), h16]; exact mMin_l (by omega))]
    exact loopA 40 0 (by omega) _ (fun _ _ => rfl) (fun i hi => absurd hi (by omega))
  · skip
    have loopB : ∀ HA : mG, (∀ k, k ≠ 33 → HA k = (gs (gs G 29 3 ((57 : Nat) : Int)) 29 4 (n : Int)) k) → (∀ w, w < 40 → HA 33 w = f_X1_amountOf 52 G ((w : Nat) : Int)) → ∀ t b, b + t = n → W2 o_X8 M_X8_plan (inN [24, 25, 29, 30, 31, 32, 33, 34, 35, 36, 37, 38, 39]) (q + 30) Q 56 [some (mR 34), some (mR 57), some (mI f), some (mI nf), some (mR 26), some (mI ((b : Nat) : Int))] [] (fd (loP1 52 f nf) HA b) := by
      intro HA hA1 hA2 t
      induction t with
      | zero =>
        intro b hb
        have hbn : b = n := by omega
        rw [hbn]
        have fr : ∀ k, (∀ a ∈ ([24, 25, 30, 31, 32] : List Nat), k ≠ a) → (fd (loP1 52 f nf) HA n) k = HA k := fun k hk => loP1_fr hk
        have hp3 : (fd (loP1 52 f nf) HA n) 29 3 = ((57 : Nat) : Int) := by rw [fr 29 (by decide), hA1 29 (by decide), gs_at_ne (by decide), gs_at]
        have f4 : (fd (loP1 52 f nf) HA n) 29 4 = (n : Int) := by rw [fr 29 (by decide), hA1 29 (by decide), gs_at]
        have f12 : (fd (loP1 52 f nf) HA n) 52 12 = G 52 12 := by rw [fr 52 (by decide), hA1 52 (by decide), gs_ne (by decide), gs_ne (by decide)]
        have f8 : (fd (loP1 52 f nf) HA n) 8 4 = G 8 4 := by rw [fr 8 (by decide), hA1 8 (by decide), gs_ne (by decide), gs_ne (by decide)]
        have hcB : cB 52 (fd (loP1 52 f nf) HA n) := cB_to hB (by rw [fr 52 (by decide), hA1 52 (by decide), gs_ne (by decide), gs_ne (by decide)]) (by rw [fr 61 (by decide), hA1 61 (by decide), gs_ne (by decide), gs_ne (by decide)]) (by rw [fr 62 (by decide), hA1 62 (by decide), gs_ne (by decide), gs_ne (by decide)])
        have h4 : 0 ≤ (fd (loP1 52 f nf) HA n) 29 4 ∧ (fd (loP1 52 f nf) HA n) 29 4 ≤ 9 := by rw [f4]; omega
        refine w2_vc [56, 89] 400 oo_X8 q_X8_plan ?_
        refine ⟨fun (c1 : ((fd (loP1 52 f nf) HA n) 29 4) ≤ ((n : Nat) : Int)) => ?_, fun (c1 : ((n : Nat) : Int) < ((fd (loP1 52 f nf) HA n) 29 4)) => ?_⟩
        · skip
          refine sp_X8_countTakers (h4) (insub (by decide)) ?_
          refine sp_X8_search (c := 52) (q := q + 9) (n := n) (by decide) (hF HA hA1 hA2) (insub (by decide)) (fun G' hG' => ?_)
          refine (show W2 o_X8 M_X8_plan (inN [24, 25, 29, 30, 31, 32, 33, 34, 35, 36, 37, 38, 39]) (q + 30) Q 89 [some (mR 34), some (mR 57), some (mI f), some (mI nf), some (mR 26), some (mI ((n : Nat) : Int))] [] G' from ?_)
          refine w2_vc [56, 89] 400 oo_X8 q_X8_plan ?_
          exact hQ HA hA1 hA2 G' hG'
        · skip
          exfalso; first | omega | (rw [w32_i (by omega) (by omega)] at c2; omega) | (simp (disch := omega) only [w32_i] at *; omega)
      | succ t iht =>
        intro b hb
        have fr : ∀ k, (∀ a ∈ ([24, 25, 30, 31, 32] : List Nat), k ≠ a) → (fd (loP1 52 f nf) HA b) k = HA k := fun k hk => loP1_fr hk
        have hp3 : (fd (loP1 52 f nf) HA b) 29 3 = ((57 : Nat) : Int) := by rw [fr 29 (by decide), hA1 29 (by decide), gs_at_ne (by decide), gs_at]
        have f4 : (fd (loP1 52 f nf) HA b) 29 4 = (n : Int) := by rw [fr 29 (by decide), hA1 29 (by decide), gs_at]
        have f12 : (fd (loP1 52 f nf) HA b) 52 12 = G 52 12 := by rw [fr 52 (by decide), hA1 52 (by decide), gs_ne (by decide), gs_ne (by decide)]
        have f8 : (fd (loP1 52 f nf) HA b) 8 4 = G 8 4 := by rw [fr 8 (by decide), hA1 8 (by decide), gs_ne (by decide), gs_ne (by decide)]
        have hcB : cB 52 (fd (loP1 52 f nf) HA b) := cB_to hB (by rw [fr 52 (by decide), hA1 52 (by decide), gs_ne (by decide), gs_ne (by decide)]) (by rw [fr 61 (by decide), hA1 61 (by decide), gs_ne (by decide), gs_ne (by decide)]) (by rw [fr 62 (by decide), hA1 62 (by decide), gs_ne (by decide), gs_ne (by decide)])
        refine w2_vc [56, 75] 400 oo_X8 q_X8_plan ?_
        refine ⟨fun (c1 : ((fd (loP1 52 f nf) HA b) 29 4) ≤ ((b : Nat) : Int)) => ?_, fun (c1 : ((b : Nat) : Int) < ((fd (loP1 52 f nf) HA b) 29 4)) => ?_⟩
        · skip
          exfalso; first | omega | (rw [w32_i (by omega) (by omega)] at c1; omega) | (simp (disch := omega) only [w32_i] at *; omega)
        · skip
          refine sp_X8_listOptions_1 (c := 52) (by decide) hp3 (by rw [f12]; exact h12) hcB (by rw [f8]; exact hk) (by rw [f8]; exact hs) (insub (by decide)) ?_
          refine (show W2 o_X8 M_X8_plan (inN [24, 25, 29, 30, 31, 32, 33, 34, 35, 36, 37, 38, 39]) (q + 30) Q 75 [some (mR 34), some (mR 57), some (mI f), some (mI nf), some (mR 26), some (mI ((b : Nat) : Int))] [] (e_X8_listOptions_1 52 (fd (loP1 52 f nf) HA b) ((b : Nat) : Int) f nf) from ?_)
          refine w2_vc [56, 75] 400 oo_X8 q_X8_plan ?_
          refine (show W2 o_X8 M_X8_plan (inN [24, 25, 29, 30, 31, 32, 33, 34, 35, 36, 37, 38, 39]) (q + 30) Q 56 [some (mR 34), some (mR 57), some (mI f), some (mI nf), some (mR 26), some (mI (w32 (((b : Nat) : Int) + 1)))] [] (e_X8_listOptions_1 52 (fd (loP1 52 f nf) HA b) ((b : Nat) : Int) f nf) from ?_)
          rw [w32_nat (by omega)]
          exact iht (b + 1) (by omega)
    have loopA : ∀ t j, j + t = 40 → ∀ H : mG, (∀ k, k ≠ 33 → H k = (gs (gs G 29 3 ((57 : Nat) : Int)) 29 4 (n : Int)) k) → (∀ w, w < j → H 33 w = f_X1_amountOf 52 G ((w : Nat) : Int)) → W2 o_X8 M_X8_plan (inN [24, 25, 29, 30, 31, 32, 33, 34, 35, 36, 37, 38, 39]) (q + 30) Q 24 [some (mR 34), some (mR 57), some (mI f), some (mI nf), some (mR 26), some (mI ((j : Nat) : Int))] [] H := by
      intro t
      induction t with
      | zero =>
        intro j hj H k1 k2
        refine w2_vc [24, 56] 400 oo_X8 q_X8_plan ?_
        refine ⟨fun (c1 : 40 ≤ ((j : Nat) : Int)) => ?_, fun (c1 : ((j : Nat) : Int) < 40) => ?_⟩
        · skip
          refine (show W2 o_X8 M_X8_plan (inN [24, 25, 29, 30, 31, 32, 33, 34, 35, 36, 37, 38, 39]) (q + 30) Q 56 [some (mR 34), some (mR 57), some (mI f), some (mI nf), some (mR 26), some (mI 0)] [] H from ?_)
          exact loopB H k1 (fun i hi => k2 i (by omega)) n 0 (by omega)
        · skip
          exfalso; first | omega | (rw [w32_i (by omega) (by omega)] at c1; omega) | (simp (disch := omega) only [w32_i] at *; omega)
      | succ t iht =>
        intro j hj H k1 k2
        have hp3 : H 29 3 = ((57 : Nat) : Int) := by rw [k1 29 (by decide), gs_at_ne (by decide), gs_at]
        have k1 : ∀ k, k ≠ 33 → H k = (gs (gs G 29 3 ((57 : Nat) : Int)) 29 4 (n : Int)) k := k1
        refine w2_vc [24, 41, 47, 56] 400 oo_X8 q_X8_plan ?_
        refine ⟨fun (c1 : 40 ≤ ((j : Nat) : Int)) => ?_, fun (c1 : ((j : Nat) : Int) < 40) => ?_⟩
        · skip
          exfalso; first | omega | (rw [w32_i (by omega) (by omega)] at c1; omega) | (simp (disch := omega) only [w32_i] at *; omega)
        · skip
          refine (show W2 o_X8 M_X8_plan (inN [24, 25, 29, 30, 31, 32, 33, 34, 35, 36, 37, 38, 39]) (q + 30) Q 41 [some (mR 34), some (mR 57), some (mI f), some (mI nf), some (mR 26), some (mI ((j : Nat) : Int))] [mR (Int.toNat (H 29 3)), mI ((j : Nat) : Int), mR 38] H from ?_)
          rw [show (H 29 3) = 57 from by (try simp (disch := decide) only [gs_ne, gs_at_ne]); exact hp3]
          refine (show W2 o_X8 M_X8_plan (inN [24, 25, 29, 30, 31, 32, 33, 34, 35, 36, 37, 38, 39]) (q + 30) Q 41 [some (mR 34), some (mR 57), some (mI f), some (mI nf), some (mR 26), some (mI ((j : Nat) : Int))] [mR 57, mI ((j : Nat) : Int), mR 38] H from ?_)
          refine w2_vc [24, 41, 47, 56] 400 oo_X8 q_X8_plan ?_
          refine sp_X1_amountOf (by decide) ?_
          refine ⟨(show 0 ≤ ((j : Nat) : Int) ∧ ((j : Nat) : Int) < ((40 : Nat) : Int) from by first | omega | (simp (disch := omega) only [w32_i]; omega)), ?_⟩
          refine (show W2 o_X8 M_X8_plan (inN [24, 25, 29, 30, 31, 32, 33, 34, 35, 36, 37, 38, 39]) (q + 30) Q 47 [some (mR 34), some (mR 57), some (mI f), some (mI nf), some (mR 26), some (mI ((j : Nat) : Int))] [] (gs H 33 (Int.toNat ((j : Nat) : Int)) (f_X1_amountOf 52 H ((j : Nat) : Int))) from ?_)
          refine w2_vc [24, 41, 47, 56] 400 oo_X8 q_X8_plan ?_
          refine (show W2 o_X8 M_X8_plan (inN [24, 25, 29, 30, 31, 32, 33, 34, 35, 36, 37, 38, 39]) (q + 30) Q 24 [some (mR 34), some (mR 57), some (mI f), some (mI nf), some (mR 26), some (mI (w32 (((j : Nat) : Int) + 1)))] [] (gs H 33 (Int.toNat ((j : Nat) : Int)) (f_X1_amountOf 52 H ((j : Nat) : Int))) from ?_)
          rw [w32_nat (by omega), st_nat]
          exact iht (j + 1) (by omega) _ (fun k hk => by rw [gs_ne hk]; exact k1 k hk) (row_nx (p := fun w => f_X1_amountOf 52 G ((w : Nat) : Int)) k2 (amt_to (c := 52) (k1 52 (by decide)) (k1 58 (by decide)) (by decide) _))
    refine MP.to (D2 := inN [24, 25, 29, 30, 31, 32, 33, 34, 35, 36, 37, 38, 39]) (Q2 := Q) ?_ hD (fun v G' q _ => q)
    refine (show P2 (inN [24, 25, 29, 30, 31, 32, 33, 34, 35, 36, 37, 38, 39]) (q + 30) M_X8_plan [mR 34, mR 57, mI f, mI nf, mR 26] G Q from ?_)
    refine p2_vc [5, 21, 24] 400 oo_X8 q_X8_plan (by decide) rfl (Nat.le_of_ble_eq_true rfl) ?_
    refine (show W2 o_X8 M_X8_plan (inN [24, 25, 29, 30, 31, 32, 33, 34, 35, 36, 37, 38, 39]) (q + 30) Q 5 [some (mR 34), some (mR 57), some (mI f), some (mI nf), some (mR 26), none] [] (gs G 29 3 ((57 : Nat) : Int)) from ?_)
    refine w2_vc [5, 21, 24] 400 oo_X8 q_X8_plan ?_
    refine sp_X0_size  ?_
    have c2 := (show f_X0_size (gs G 29 3 ((57 : Nat) : Int)) = (gs G 29 3 ((57 : Nat) : Int)) 1 6 from rfl)
    refine (show W2 o_X8 M_X8_plan (inN [24, 25, 29, 30, 31, 32, 33, 34, 35, 36, 37, 38, 39]) (q + 30) Q 21 [some (mR 34), some (mR 57), some (mI f), some (mI nf), some (mR 26), none] [] (gs (gs G 29 3 ((57 : Nat) : Int)) 29 4 (mMin (f_X0_size (gs G 29 3 ((57 : Nat) : Int)) ) 9)) from ?_)
    refine w2_vc [5, 21, 24] 400 oo_X8 q_X8_plan ?_
    refine (show W2 o_X8 M_X8_plan (inN [24, 25, 29, 30, 31, 32, 33, 34, 35, 36, 37, 38, 39]) (q + 30) Q 24 [some (mR 34), some (mR 57), some (mI f), some (mI nf), some (mR 26), some (mI 0)] [] (gs (gs G 29 3 ((57 : Nat) : Int)) 29 4 (mMin (f_X0_size (gs G 29 3 ((57 : Nat) : Int)) ) 9)) from ?_)
    rw [show mMin (f_X0_size (gs G 29 3 ((57 : Nat) : Int)) ) 9 = (n : Int) from by (unfold f_X0_size; rw [gs_ne (by decide), h16]; exact mMin_l (by omega))]
    exact loopA 40 0 (by omega) _ (fun _ _ => rfl) (fun i hi => absurd hi (by omega))
