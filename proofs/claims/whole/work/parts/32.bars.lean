/-! ===== printed by wip/whole/gen32.py: the reference: the first clause that holds ===== -/
theorem fs_nx {p : Nat → Bool} {j : Nat} (h : ∀ i, i < j → p i = false) (hj : p j = false) : ∀ i, i < j + 1 → p i = false := fun i hi => by
  by_cases hij : i = j
  · rw [hij]; exact hj
  · exact h i (by omega)
def hRl (G : mG) (b : Int) (c : Nat) : Bool := hRs (lor G) (litV G b) (600 * (G 64 18).toNat + (G 82 (40 * (G 64 18).toNat + c)).toNat) (G 83 (40 * (G 64 18).toNat + c) - G 82 (40 * (G 64 18).toNat + c)).toNat
/-- the clauses in force may be weighed -/
def rW (G : mG) : Prop := ∀ c : Nat, (c : Int) < G 76 (G 64 18).toNat → (G 77 (40 * (G 64 18).toNat + c) = 1 ∨ G 77 (40 * (G 64 18).toNat + c) = 3) → (0 ≤ G 82 (40 * (G 64 18).toNat + c) ∧ G 82 (40 * (G 64 18).toNat + c) ≤ 600 ∧ G 83 (40 * (G 64 18).toNat + c) ≤ 600) ∧ ∀ j : Nat, j < (G 83 (40 * (G 64 18).toNat + c) - G 82 (40 * (G 64 18).toNat + c)).toNat → lW G (600 * (G 64 18).toNat + (G 82 (40 * (G 64 18).toNat + c)).toNat + j)
theorem lW_to {G H : mG} {l : Nat} (h : lW G l) (h86 : H 86 = G 86) (h87 : H 87 = G 87) (h88 : H 88 = G 88) (h89 : H 89 = G 89) (h91 : H 91 = G 91) (h92 : H 92 = G 92) : lW H l := by
  unfold lW at *
  rw [h86, h87, h88, h89, h91, h92]
  exact h
theorem rW_to {G H : mG} (h : rW G) (e : H 64 18 = G 64 18) (hk : ∀ k, k ∈ [76, 77, 82, 83, 86, 87, 88, 89, 91, 92] → H k = G k) : rW H := by
  intro c
  have hc := h c
  rw [e, hk 76 (by decide), hk 77 (by decide), hk 82 (by decide), hk 83 (by decide)]
  intro h1 h2
  obtain ⟨a, b⟩ := hc h1 h2
  exact ⟨a, fun l l1 => lW_to (b l l1) (hk _ (by decide)) (hk _ (by decide)) (hk _ (by decide)) (hk _ (by decide)) (hk _ (by decide)) (hk _ (by decide))⟩
theorem rW_ne {G H : mG} (h : rW G) (hk : ∀ k, k ≠ 106 → k ≠ 107 → H k = G k) : rW H :=
  rW_to h (by rw [hk 64 (by decide) (by decide)]) (fun k hm => by simp only [List.mem_cons, List.not_mem_nil, or_false] at hm; exact hk k (by omega) (by omega))
theorem hRl_to {G H : mG} {b : Int} {c : Nat} (hk : ∀ k, k ≠ 107 → H k = G k) : hRl H b c = hRl G b c := by
  have e1 : lor H = lor G := by unfold lor; rw [hk 90 (by decide)]
  have e2 : litV H b = litV G b := by unfold litV; rw [hk 86 (by decide), hk 87 (by decide), hk 88 (by decide), hk 89 (by decide), hk 91 (by decide), hk 92 (by decide), hk 97 (by decide), hk 106 (by decide)]
  unfold hRl
  rw [e1, e2, hk 64 (by decide), hk 82 (by decide), hk 83 (by decide)]
/-- a clause of this sort and this campaign that holds -/
def pR (G : mG) (so b x : Int) (c : Nat) : Bool := decide (G 77 (40 * (G 64 18).toNat + c) = so) && (decide (G 78 (40 * (G 64 18).toNat + c) = x) && hRl G b c)
set_option maxHeartbeats 8000000 in
theorem barOf_loop {q : Nat} {G1 : mG} {b x : Int} {n : Nat} {Q : Option mV → mG → Prop} (hlv : 0 ≤ G1 64 18 ∧ G1 64 18 ≤ 1) (hb9 : 0 ≤ b ∧ b < 9) (hn : (n : Int) = G1 76 (G1 64 18).toNat) (h40 : n ≤ 40) (hRW : rW G1) (hQ : ∀ H', (∀ k, k ≠ 107 → H' k = G1 k) → Q (some (mI (fs (pR G1 1 b x) n))) H') : ∀ t j, j + t = n → (∀ i, i < j → pR G1 1 b x i = false) → ∀ Hj : mG, (∀ k, k ≠ 107 → Hj k = G1 k) → W2 o_X12 M_X12_barOf (inN [106, 107]) (q + 20) Q 7 [some (mR 69), some (mI b), some (mI x), some (mI ((j : Nat) : Int))] [] Hj := by
    intro t
    induction t with
    | zero =>
      intro j hjn hno Hj hj
      have e18 : Hj 64 18 = G1 64 18 := by rw [hj 64 (by decide)]
      have e76 : Hj 76 (Int.toNat (Hj 64 18)) = G1 76 (Int.toNat (G1 64 18)) := by rw [e18, hj 76 (by decide)]
      refine w2_vc [7] 400 oo_X12 q_X12_barOf ?_
      refine ⟨(show 0 ≤ (Hj 64 18) ∧ (Hj 64 18) < ((2 : Nat) : Int) from by first | omega | (simp (disch := omega) only [w32_i]; omega)), ?_⟩
      refine ⟨fun (c1 : (Hj 76 (Int.toNat (Hj 64 18))) ≤ ((j : Nat) : Int)) => ?_, fun (c1 : ((j : Nat) : Int) < (Hj 76 (Int.toNat (Hj 64 18)))) => ?_⟩
      · skip
        refine (show Q (some (mI (-1))) Hj from ?_)
        rw [show (-1 : Int) = fs (pR G1 1 b x) n from (fs_no (fun i hi => hno i (by omega))).symm]
        exact hQ _ hj
      · skip
        exfalso; first | omega | (rw [w32_i (by omega) (by omega)] at c1; omega) | (simp (disch := omega) only [w32_i] at *; omega)
    | succ t iht =>
      intro j hjn hno Hj hj
      have e18 : Hj 64 18 = G1 64 18 := by rw [hj 64 (by decide)]
      have e76 : Hj 76 (Int.toNat (Hj 64 18)) = G1 76 (Int.toNat (G1 64 18)) := by rw [e18, hj 76 (by decide)]
      have eix : Int.toNat (w32 ((w32 (40 * (Hj 64 18))) + ((j : Nat) : Int))) = 40 * (G1 64 18).toNat + j := by rw [e18, w32_i (x := 40 * G1 64 18) (by omega) (by omega), w32_i (by omega) (by omega)]; omega
      refine w2_vc [7, 70] 400 oo_X12 q_X12_barOf ?_
      refine ⟨(show 0 ≤ (Hj 64 18) ∧ (Hj 64 18) < ((2 : Nat) : Int) from by first | omega | (simp (disch := omega) only [w32_i]; omega)), ?_⟩
      refine ⟨fun (c1 : (Hj 76 (Int.toNat (Hj 64 18))) ≤ ((j : Nat) : Int)) => ?_, fun (c1 : ((j : Nat) : Int) < (Hj 76 (Int.toNat (Hj 64 18)))) => ?_⟩
      · skip
        exfalso; first | omega | (rw [w32_i (by omega) (by omega)] at c1; omega) | (simp (disch := omega) only [w32_i] at *; omega)
      · skip
        refine ⟨(show 0 ≤ (w32 ((w32 (40 * (Hj 64 18))) + ((j : Nat) : Int))) ∧ (w32 ((w32 (40 * (Hj 64 18))) + ((j : Nat) : Int))) < ((80 : Nat) : Int) from by first | omega | (rw [show (w32 ((w32 (40 * (Hj 64 18))) + ((j : Nat) : Int))) = (40 * (Hj 64 18)) + ((j : Nat) : Int) from by rw [w32_i (x := (40 * (Hj 64 18))) (by omega) (by omega), w32_i (x := (40 * (Hj 64 18)) + ((j : Nat) : Int)) (by omega) (by omega)]]; omega) | (simp (disch := omega) only [w32_i]; omega)), ?_⟩
        refine ⟨fun (c2 : ¬ (Hj 77 (Int.toNat (w32 ((w32 (40 * (Hj 64 18))) + ((j : Nat) : Int))))) = 1) => ?_, fun (c2 : (Hj 77 (Int.toNat (w32 ((w32 (40 * (Hj 64 18))) + ((j : Nat) : Int))))) = 1) => ?_⟩
        · skip
          refine (show W2 o_X12 M_X12_barOf (inN [106, 107]) (q + 20) Q 7 [some (mR 69), some (mI b), some (mI x), some (mI (w32 (((j : Nat) : Int) + 1)))] [] Hj from ?_)
          rw [w32_nat (by omega)]
          exact iht (j + 1) (by omega) (fs_nx hno (by unfold pR; rw [decide_eq_false (show ¬ G1 77 (40 * (G1 64 18).toNat + j) = 1 by have q := c2; rw [eix, hj 77 (by decide)] at q; exact q)]; rfl)) Hj hj
        · skip
          refine ⟨(show 0 ≤ (w32 ((w32 (40 * (Hj 64 18))) + ((j : Nat) : Int))) ∧ (w32 ((w32 (40 * (Hj 64 18))) + ((j : Nat) : Int))) < ((80 : Nat) : Int) from by first | omega | (rw [show (w32 ((w32 (40 * (Hj 64 18))) + ((j : Nat) : Int))) = (40 * (Hj 64 18)) + ((j : Nat) : Int) from by rw [w32_i (x := (40 * (Hj 64 18))) (by omega) (by omega), w32_i (x := (40 * (Hj 64 18)) + ((j : Nat) : Int)) (by omega) (by omega)]]; omega) | (simp (disch := omega) only [w32_i]; omega)), ?_⟩
          refine ⟨fun (c3 : ¬ (Hj 78 (Int.toNat (w32 ((w32 (40 * (Hj 64 18))) + ((j : Nat) : Int))))) = x) => ?_, fun (c3 : (Hj 78 (Int.toNat (w32 ((w32 (40 * (Hj 64 18))) + ((j : Nat) : Int))))) = x) => ?_⟩
          · skip
            refine (show W2 o_X12 M_X12_barOf (inN [106, 107]) (q + 20) Q 7 [some (mR 69), some (mI b), some (mI x), some (mI (w32 (((j : Nat) : Int) + 1)))] [] Hj from ?_)
            rw [w32_nat (by omega)]
            exact iht (j + 1) (by omega) (fs_nx hno (by unfold pR; rw [decide_eq_false (show ¬ G1 78 (40 * (G1 64 18).toNat + j) = x by have q := c3; rw [eix, hj 78 (by decide)] at q; exact q)]; simp)) Hj hj
          · skip
            refine sp_X12_holds (x := (w32 ((w32 (40 * (Hj 64 18))) + ((j : Nat) : Int)))) (q := q + 9) (N := (G1 83 (40 * (G1 64 18).toNat + j) - G1 82 (40 * (G1 64 18).toNat + j)).toNat) (l0 := 600 * (G1 64 18).toNat + (G1 82 (40 * (G1 64 18).toNat + j)).toNat) (by omega) hb9 (by rw [e18, w32_i (x := 40 * G1 64 18) (by omega) (by omega), w32_i (by omega) (by omega)]; omega) (by rw [eix, hj 82 (by decide), hj 83 (by decide)]; exact (hRW j (by omega) (Or.inl (by have q := c2; rw [eix, hj 77 (by decide)] at q; exact q))).1) (by rw [eix, hj 82 (by decide), hj 83 (by decide)]) (by rw [eix, e18, hj 82 (by decide)]) (fun i hi => lW_to ((hRW j (by omega) (Or.inl (by have q := c2; rw [eix, hj 77 (by decide)] at q; exact q))).2 i hi) (hj _ (by decide)) (hj _ (by decide)) (hj _ (by decide)) (hj _ (by decide)) (hj _ (by decide)) (hj _ (by decide))) (insub (by decide)) (fun H2 qH2 => ?_)
            have hH2 : ∀ k, k ≠ 107 → H2 k = G1 k := fun k hk => (qH2 k hk).trans (hj k hk)
            rw [show hRs (lor Hj) (litV Hj b) (600 * (G1 64 18).toNat + (G1 82 (40 * (G1 64 18).toNat + j)).toNat) (G1 83 (40 * (G1 64 18).toNat + j) - G1 82 (40 * (G1 64 18).toNat + j)).toNat = hRl G1 b j from by rw [← hRl_to (b := b) (c := j) hj]; unfold hRl; rw [hj 64 (by decide), hj 82 (by decide), hj 83 (by decide)]]
            refine (show W2 o_X12 M_X12_barOf (inN [106, 107]) (q + 20) Q 70 [some (mR 69), some (mI b), some (mI x), some (mI ((j : Nat) : Int))] [mI (b01 (hRl G1 b j))] H2 from ?_)
            refine w2_vc [7, 70] 400 oo_X12 q_X12_barOf ?_
            refine ⟨fun (c4 : (b01 (hRl G1 b j)) = 0) => ?_, fun (c4 : ¬ (b01 (hRl G1 b j)) = 0) => ?_⟩
            · skip
              refine (show W2 o_X12 M_X12_barOf (inN [106, 107]) (q + 20) Q 7 [some (mR 69), some (mI b), some (mI x), some (mI (w32 (((j : Nat) : Int) + 1)))] [] H2 from ?_)
              rw [w32_nat (by omega)]
              exact iht (j + 1) (by omega) (fs_nx hno (by unfold pR; rw [b01_z' rfl c4]; simp)) H2 hH2
            · skip
              refine (show Q (some (mI ((j : Nat) : Int))) H2 from ?_)
              rw [show ((j : Nat) : Int) = fs (pR G1 1 b x) n from (fs_at hno (by unfold pR; rw [decide_eq_true (show G1 77 (40 * (G1 64 18).toNat + j) = 1 by have q := c2; rw [eix, hj 77 (by decide)] at q; exact q), decide_eq_true (show G1 78 (40 * (G1 64 18).toNat + j) = x by have q := c3; rw [eix, hj 78 (by decide)] at q; exact q), b01_n' rfl c4]; rfl) (by omega)).symm]
              exact hQ _ hH2
theorem sp_X12_barOf {D : Nat → Bool} {q : Nat} {G : mG} {b x : Int} {n : Nat} {Q : Option mV → mG → Prop} (hlv : 0 ≤ G 64 18 ∧ G 64 18 ≤ 1) (hb9 : 0 ≤ b ∧ b < 9) (hn : (n : Int) = G 76 (G 64 18).toNat) (h40 : n ≤ 40) (hRW : rW G) (hD : ∀ k, D k = false → inN [106, 107] k = false) (hQ : ∀ H', (∀ k, k ≠ 106 → k ≠ 107 → H' k = G k) → Q (some (mI (fs (pR (e_X12_asksBoard G b) 1 b x) n))) H') : P2 D (q + 20) M_X12_barOf [mR 69, mI b, mI x] G Q := by
  refine MP.to (D2 := inN [106, 107]) (Q2 := Q) ?_ hD (fun v G' q _ => q)
  refine p2_vc [7] 400 oo_X12 q_X12_barOf (by decide) rfl (Nat.le_of_ble_eq_true rfl) ?_
  refine sp_X12_asksBoard (hb9) (insub (by decide)) ?_
  refine (show W2 o_X12 M_X12_barOf (inN [106, 107]) (q + 20) Q 7 [some (mR 69), some (mI b), some (mI x), some (mI 0)] [] (e_X12_asksBoard G b) from ?_)
  exact barOf_loop (by rw [fr_X12_asksBoard (by decide)]; exact hlv) hb9 (by rw [fr_X12_asksBoard (by decide), fr_X12_asksBoard (by decide)]; exact hn) h40 (rW_ne hRW (fun k h1 h2 => fr_X12_asksBoard (fun a ha => by simp only [List.mem_cons, List.not_mem_nil, or_false] at ha; omega))) (fun H2 h2 => hQ _ (fun k h1 h3 => (h2 k h3).trans (fr_X12_asksBoard (fun a ha => by simp only [List.mem_cons, List.not_mem_nil, or_false] at ha; omega)))) n 0 (by omega) (fun i hi => absurd hi (by omega)) _ (fun _ _ => rfl)
