/-! ===== the reference's search: the loop, by boards left and options left ===== -/
section RFM
variable {G : mG} {f nn mm : Int} {n q : Nat} {Q : Option mV → mG → Prop}
/-- the best way is kept -/
theorem rf_copy {H0 : mG} (hn9 : n ≤ 9) (h44 : H0 64 44 = (n : Int)) (hk : ∀ H' : mG, (∀ i, i < n → H' 113 i = H0 112 i) → (∀ k, k ≠ 113 → H' k = H0 k) → rfD q Q f nn mm 64 ((n : Int) - 1) H') :
    ∀ t j, j + t = n → ∀ H1 : mG, (∀ i, i < j → H1 113 i = H0 112 i) → (∀ k, k ≠ 113 → H1 k = H0 k) → W2 o_X12 M_X12_finds (inN [64, 104, 105, 106, 107, 108, 109, 110, 111, 112, 113, 114, 115, 116, 117]) (q + 30) Q 145 [some (mR 69), some (mI f), some (mI nn), some (mI mm), some (mI ((n : Nat) : Int)), some (mI ((j : Nat) : Int))] [] H1 := by
  intro t
  induction t with
  | zero =>
    intro j hj H1 h1 h2
    refine fi_145 (b := 0) hn9 (by rw [h2 64 (by decide)]; exact h44) (j := j) (by omega) (fun _ => ?_) (fun c => absurd c (by omega))
    rw [w32_b1 (by omega)]
    exact hk H1 (fun i hi => h1 i (by omega)) h2
  | succ t ih =>
    intro j hj H1 h1 h2
    refine fi_145 (b := 0) hn9 (by rw [h2 64 (by decide)]; exact h44) (j := j) (by omega) (fun c => absurd c (by omega)) (fun _ => ?_)
    refine ih (j + 1) (by omega) _ (fun i hi => ?_) (fun k hk => ?_)
    · rw [st_nat]
      by_cases hij : i = j
      · subst hij; rw [gs_at, h2 112 (by decide)]
      · rw [gs_at_ne hij]; exact h1 i (by omega)
    · rw [gs_ne hk]; exact h2 k hk
/-- behind j options of board b -/
def rfI (G : mG) (f mm : Int) (n m b : Nat) (wv ov : Int) (lf pk : Nat → Int) (A : sA) (H : mG) (j : Nat) (H1 : mG) : Prop :=
  rfX G H1 ∧ H1 116 b = wv ∧ H1 117 b = ov ∧ H1 111 b = (j : Int) - 1 ∧ (∀ i, i < b → H1 112 i = pk i) ∧ rfA n (fF (rfP G f mm) m b (16 * wv - ov) (rfH G pk b) lf pk A j) H1 ∧ (∀ i, i < b → H1 111 i = H 111 i ∧ H1 116 i = H 116 i ∧ H1 117 i = H 117 i)
theorem rfA_to {A : sA} {H1 H2 : mG} (h : rfA n A H1) (h64 : H2 64 = H1 64) (h113 : H2 113 = H1 113) : rfA n A H2 := by
  unfold rfA
  rw [h64, h113]
  exact h
set_option maxHeartbeats 4000000 in
theorem rf_main (hF : rfF G f n) : ∀ (m b : Nat), b + m = n → ∀ (wv ov : Int) (lf pk : Nat → Int) (A : sA) (H : mG), rfS G n b wv ov lf pk A H → H 111 b = -1 →
    (∀ H' : mG, rfS G n b wv ov lf pk (proc (rfP G f mm) m b (16 * wv - ov) (rfH G pk b) lf pk A) H' → (∀ i, i < b → H' 111 i = H 111 i ∧ H' 116 i = H 116 i ∧ H' 117 i = H 117 i) → rfD q Q f nn mm 64 ((b : Int) - 1) H') → rfD q Q f nn mm 64 ((b : Nat) : Int) H := by
  have hn9 := hF.1
  intro m
  induction m with
  | zero =>
    intro b hb wv ov lf pk A H hS hat hk
    have hbn : b = n := by omega
    subst hbn
    obtain ⟨hX, h116, h117, hT, hpk, hA⟩ := hS
    have h44 : H 64 44 = (b : Int) := (hX.2 44 (by decide) (by decide)).trans hF.2.1
    have hp0 : proc (rfP G f mm) 0 b (16 * wv - ov) (rfH G pk b) lf pk A = if A.1 < 16 * wv - ov then (16 * wv - ov, pk) else A := rfl
    rw [hp0] at hk
    obtain ⟨hA1, hA2, hA3, hA4⟩ := hA
    refine fi_leaf (b := 0) hn9 h44 (fun c => ?_) (fun c => ?_)
    · rw [st_nat, h116.1, h117.1] at c
      rw [w32_b1 (by omega)]
      rw [if_neg (by omega)] at hk
      exact hk H ⟨hX, h116, h117, hT, hpk, hA1, hA2, hA3, hA4⟩ (fun _ _ => ⟨rfl, rfl, rfl⟩)
    · rw [st_nat, h116.1, h117.1] at c
      rw [if_pos (by omega)] at hk
      rw [st_nat, h116.1, h117.1]
      have hX2 : rfX G (gs (gs H 64 70 wv) 64 71 ov) := (hX.b (Or.inl rfl)).b (Or.inr rfl)
      refine rf_copy hn9 (by rw [gs_at_ne (by decide), gs_at_ne (by decide)]; exact h44) (fun H' c1 c2 => ?_) b 0 (by omega) _ (fun i hi => absurd hi (by omega)) (fun _ _ => rfl)
      have e0 : ∀ k, k ≠ 113 → k ≠ 64 → H' k = H k := fun k h1 h2 => by rw [c2 k h1, gs_ne h2, gs_ne h2]
      refine hk H' ⟨⟨fun k hk2 => by rw [c2 k (hk2 113 (by simp))]; exact hX2.1 k hk2, fun j h1 h2 => by rw [c2 64 (by decide)]; exact hX2.2 j h1 h2⟩, by rw [e0 116 (by decide) (by decide)]; exact h116, by rw [e0 117 (by decide) (by decide)]; exact h117, ⟨rfT_to hT.1 (e0 114 (by decide) (by decide)), hT.2⟩, fun i hi => by rw [e0 112 (by decide) (by decide)]; exact hpk i hi, ?_⟩ (fun i _ => by rw [e0 111 (by decide) (by decide), e0 116 (by decide) (by decide), e0 117 (by decide) (by decide)]; exact ⟨rfl, rfl, rfl⟩)
      have e70 : H' 64 70 = wv := by rw [c2 64 (by decide), gs_at_ne (by decide), gs_at]
      have e71 : H' 64 71 = ov := by rw [c2 64 (by decide), gs_at]
      refine ⟨?_, ?_, ?_, fun i hi => ?_⟩
      · show 16 * wv - ov = _; rw [e70, e71]
      · rw [e70]; omega
      · rw [e71]; omega
      · rw [c1 i hi, gs_ne (by decide), gs_ne (by decide)]; exact (hpk i hi).1
  | succ m ih =>
    intro b hb wv ov lf pk A H hS hat hk
    obtain ⟨hX0, h116, h117, ⟨hT0, hB⟩, hpk, hA0⟩ := hS
    have hbn : b < n := by omega
    have hch := hF.2.2.2.2.1 b hbn
    have hb1 : Unit → w32 (((b : Nat) : Int) + 1) = ((b + 1 : Nat) : Int) := fun _ => w32_nat (by omega)
    have hpr : proc (rfP G f mm) (m + 1) b (16 * wv - ov) (rfH G pk b) lf pk A = fF (rfP G f mm) m b (16 * wv - ov) (rfH G pk b) lf pk A ((G 108 b).toNat + 1) := rfl
    rw [hpr] at hk
    have c331 : ∀ j : Nat, j < (G 108 b).toNat + 1 → (∀ H' : mG, rfI G f mm n m b wv ov lf pk A H (j + 1) H' → (H' 112 b = -1 ∨ rfM G n (H' 112 b)) → rfT G n (sUse lf (H' 112 b)) H' → rfD q Q f nn mm 64 ((b : Nat) : Int) H') → ∀ w : Int, rfC G b j = w → sOk (rfP G f mm) b (rfH G pk b) lf w = true → (w = -1 ∨ rfM G n w) → ∀ H3 : mG, rfX G H3 → H3 116 b = wv → H3 117 b = ov → H3 111 b = (j : Int) → H3 112 b = w → (∀ i, i < b → H3 112 i = pk i) → rfT G n (sUse lf w) H3 → rfA n (fF (rfP G f mm) m b (16 * wv - ov) (rfH G pk b) lf pk A j) H3 → (∀ i, i < b → H3 111 i = H 111 i ∧ H3 116 i = H 116 i ∧ H3 117 i = H 117 i) → rfD q Q f nn mm 331 ((b : Nat) : Int) H3 := by
      intro j hj hnext w hw hok hwm H3 hX3 a116 a117 a111 a112 apk aT aA afr
      have hww := rfW_r hF hwm
      have hoo := rfO_r G f mm b w
      have hsg : sgn (rfP G f mm) b j = 16 * rfW G w - rfO G f mm b w := by show 16 * rfW G (rfC G b j) - rfO G f mm b (rfC G b j) = _; rw [hw]
      have hfs : fF (rfP G f mm) m b (16 * wv - ov) (rfH G pk b) lf pk A (j + 1) = proc (rfP G f mm) m (b + 1) (16 * (wv + rfW G w) - (ov + rfO G f mm b w)) (rfN G w) (sUse lf w) (setN pk b w) (fF (rfP G f mm) m b (16 * wv - ov) (rfH G pk b) lf pk A j) := by
        rw [fF_s]
        have e1 : scl (rfP G f mm) b j = w := hw
        rw [e1, hok, hsg]
        show proc (rfP G f mm) m (b + 1) (16 * wv - ov + (16 * rfW G w - rfO G f mm b w)) (rfN G w) (sUse lf w) (setN pk b w) _ = _
        rw [show 16 * wv - ov + (16 * rfW G w - rfO G f mm b w) = 16 * (wv + rfW G w) - (ov + rfO G f mm b w) by omega]
      refine rf_331 hF hX3 hbn a112 hwm ⟨a116, h116.2⟩ ⟨a117, h117.2⟩ ?_
      have hX5 : rfX G (gs (gs H3 116 (b + 1) (wv + rfW G w)) 117 (b + 1) (ov + rfO G f mm b w)) := (hX3.s (by decide)).s (by decide)
      have k111 : (gs (gs H3 116 (b + 1) (wv + rfW G w)) 117 (b + 1) (ov + rfO G f mm b w)) 111 = H3 111 := by rw [gs_ne (by decide), gs_ne (by decide)]
      have k112 : (gs (gs H3 116 (b + 1) (wv + rfW G w)) 117 (b + 1) (ov + rfO G f mm b w)) 112 = H3 112 := by rw [gs_ne (by decide), gs_ne (by decide)]
      have k113 : (gs (gs H3 116 (b + 1) (wv + rfW G w)) 117 (b + 1) (ov + rfO G f mm b w)) 113 = H3 113 := by rw [gs_ne (by decide), gs_ne (by decide)]
      have k114 : (gs (gs H3 116 (b + 1) (wv + rfW G w)) 117 (b + 1) (ov + rfO G f mm b w)) 114 = H3 114 := by rw [gs_ne (by decide), gs_ne (by decide)]
      have k64 : (gs (gs H3 116 (b + 1) (wv + rfW G w)) 117 (b + 1) (ov + rfO G f mm b w)) 64 = H3 64 := by rw [gs_ne (by decide), gs_ne (by decide)]
      have k116 : (gs (gs H3 116 (b + 1) (wv + rfW G w)) 117 (b + 1) (ov + rfO G f mm b w)) 116 (b + 1) = wv + rfW G w := by rw [gs_ne (by decide), gs_at]
      have k117 : (gs (gs H3 116 (b + 1) (wv + rfW G w)) 117 (b + 1) (ov + rfO G f mm b w)) 117 (b + 1) = ov + rfO G f mm b w := gs_at _ _ _ _
      have l116 : ∀ i, i ≠ b + 1 → (gs (gs H3 116 (b + 1) (wv + rfW G w)) 117 (b + 1) (ov + rfO G f mm b w)) 116 i = H3 116 i := fun i hi => by rw [gs_ne (by decide), gs_at_ne hi]
      have l117 : ∀ i, i ≠ b + 1 → (gs (gs H3 116 (b + 1) (wv + rfW G w)) 117 (b + 1) (ov + rfO G f mm b w)) 117 i = H3 117 i := fun i hi => by rw [gs_at_ne hi, gs_ne (by decide)]
      generalize gs (gs H3 116 (b + 1) (wv + rfW G w)) 117 (b + 1) (ov + rfO G f mm b w) = H5 at *
      have h8 := hF.2.2.2.2.2.2.2.1 b hbn
      have e115 : H5 115 = G 115 := hX5.k 115 (by decide)
      obtain ⟨hA1, hA2, hA3, hA4⟩ := rfA_to aA k64 k113
      have hh := rf_hope (m := mm) hF m (b + 1) (by omega) (rfN G w) (sUse lf w)
      refine fi_441 (n := n) (mo := wv + rfW G w + G 115 (b + 1)) hn9 ((hX5.2 44 (by decide) (by decide)).trans hF.2.1) hbn (hb1 ()) ?_ (fun c => ?_) (fun c => ?_)
      · rw [hb1 (), st_nat, k116, e115, w32_i (by omega) (by omega)]
      · rw [hb1 (), st_nat, k117] at c
        refine hnext H5 ⟨hX5, by rw [l116 b (by omega)]; exact a116, by rw [l117 b (by omega)]; exact a117, by rw [k111, a111]; omega, fun i hi => by rw [k112]; exact apk i hi, ?_, fun i hi => ?_⟩ (by rw [k112, a112]; exact hwm) (by rw [k112, a112]; exact rfT_to aT k114)
        · rw [hfs, proc_dom (dom_le hh (by omega))]
          exact ⟨hA1, hA2, hA3, hA4⟩
        · rw [k111, l116 i (by omega), l117 i (by omega)]
          exact afr i hi
      · rw [hb1 (), st_nat]
        have m111 : ∀ i, i ≠ b + 1 → (gs H5 111 (b + 1) (-1)) 111 i = H5 111 i := fun i hi => gs_at_ne hi
        refine ih (b + 1) (by omega) (wv + rfW G w) (ov + rfO G f mm b w) (sUse lf w) (setN pk b w) (fF (rfP G f mm) m b (16 * wv - ov) (rfH G pk b) lf pk A j) _ ⟨hX5.s (by decide), ?_, ?_, ⟨rfT_to aT (by rw [gs_ne (by decide)]; exact k114), ?_⟩, fun i hi => ?_, rfA_to (H1 := H5) ⟨hA1, hA2, hA3, hA4⟩ (gs_ne (by decide)) (gs_ne (by decide))⟩ (gs_at _ _ _ _) (fun H' hS' hfr' => ?_)
        · rw [gs_ne (by decide)]; exact ⟨k116, by omega, by omega⟩
        · rw [gs_ne (by decide)]; exact ⟨k117, by omega, by omega⟩
        · rcases hwm with h1 | h1
          · rw [h1, sUse_none]; exact hB
          · refine rfB_use hF hB h1 ?_
            have hf2 : sFree lf w = true := by
              unfold sOk at hok
              cases hq : sFree lf w with
              | true => rfl
              | false => rw [hq] at hok; cases hok
            have h2 := rfM_r hF h1
            unfold sFree at hf2
            rw [decide_eq_false (by omega), decide_eq_true (show w < 40 by omega)] at hf2
            simpa using hf2
        · rw [gs_ne (by decide), k112]
          unfold setN
          by_cases hib : i = b
          · rw [if_pos hib, hib]; exact ⟨a112, hwm⟩
          · rw [if_neg hib]; exact ⟨apk i (by omega), (hpk i (by omega)).2⟩
        · obtain ⟨s1, s2, s3, ⟨s4, s5⟩, s6, s7⟩ := hS'
          have hsw : setN pk b w b = w := by unfold setN; rw [if_pos rfl]
          have eb : H' 112 b = w := by rw [(s6 b (by omega)).1, hsw]
          rw [show ((b + 1 : Nat) : Int) - 1 = (b : Int) by omega]
          refine hnext H' ⟨s1, ?_, ?_, ?_, fun i hi => ?_, ?_, fun i hi => ?_⟩ (by rw [eb]; exact hwm) (by rw [eb]; exact s4)
          · rw [(hfr' b (by omega)).2.1, gs_ne (by decide), l116 b (by omega)]; exact a116
          · rw [(hfr' b (by omega)).2.2, gs_ne (by decide), l117 b (by omega)]; exact a117
          · rw [(hfr' b (by omega)).1, m111 b (by omega), k111, a111]; omega
          · rw [(s6 i (by omega)).1]; unfold setN; rw [if_neg (by omega)]
          · rw [hfs]
            have hH : rfH G (setN pk b w) (b + 1) = rfN G w := by show rfN G (setN pk b w b) = _; rw [hsw]
            rw [hH] at s7
            exact s7
          · rw [(hfr' i (by omega)).1, (hfr' i (by omega)).2.1, (hfr' i (by omega)).2.2, m111 i (by omega), k111, gs_ne (by decide), l116 i (by omega), gs_ne (by decide), l117 i (by omega)]
            exact afr i hi
    have c218 : ∀ j : Nat, j ≤ (G 108 b).toNat + 1 → (j < (G 108 b).toNat + 1 → ∀ H' : mG, rfI G f mm n m b wv ov lf pk A H (j + 1) H' → (H' 112 b = -1 ∨ rfM G n (H' 112 b)) → rfT G n (sUse lf (H' 112 b)) H' → rfD q Q f nn mm 64 ((b : Nat) : Int) H') → ∀ H1 : mG, rfI G f mm n m b wv ov lf pk A H j H1 → rfT G n lf H1 → rfD q Q f nn mm 218 ((b : Nat) : Int) H1 := by
      intro j hj hnext H1 hI hT1
      obtain ⟨i1, i2, i3, i4, i5, i6, i7⟩ := hI
      have ha : Unit → w32 ((H1 111 b) + 1) = (j : Int) := fun _ => by rw [i4, w32_i (by omega) (by omega)]; omega
      have e108 : H1 108 = G 108 := i1.k 108 (by decide)
      have e109 : H1 109 = G 109 := i1.k 109 (by decide)
      have hcx : Unit → w32 ((w32 (40 * ((b : Nat) : Int))) + (j : Int)) = ((40 * b + j : Nat) : Int) := fun _ => by
        rw [w32_i (x := 40 * ((b : Nat) : Int)) (by omega) (by omega), w32_i (by omega) (by omega)]; omega
      have hX2 : rfX G (gs (gs H1 111 b (j : Int)) 112 b (-1)) := (i1.s (by decide)).s (by decide)
      have p5 : ∀ i, i < b → H1 112 i = pk i ∧ (pk i = -1 ∨ rfM G n (pk i)) := fun i hi => ⟨i5 i hi, (hpk i hi).2⟩
      refine fi_218 (n := n) (j := j) (cw := G 109 (40 * b + j)) (ok := sOk (rfP G f mm) b (rfH G pk b) lf (G 109 (40 * b + j))) hn9 ((i1.2 44 (by decide) (by decide)).trans hF.2.1) hbn (by rw [e108]; exact hch) (ha ()) (by omega) (by rw [st_nat, ha ()]; exact hcx ()) (by rw [st_nat, ha (), hcx (), st_nat, e109]) (fun hc => ?_) (fun hc => ?_) (fun hc hok => ?_) (fun hc hok => ?_) (fun hc => ?_)
      · rw [st_nat, e108] at hc
        have hM : rfM G n (G 109 (40 * b + j)) := ⟨b, j, hbn, hc, rfl⟩
        have hm := rf_may (mm := mm) (M := gs (gs H1 111 b (w32 ((H1 111 b) + 1))) 112 b (-1)) hF hbn hM hT1 hB (fun i hi => by rw [gs_at_ne (by omega), gs_ne (by decide)]; exact p5 i hi) (by rw [gs_ne (by decide), gs_ne (by decide)]; exact i1.2 18 (by decide) (by decide)) (by rw [gs_ne (by decide), gs_ne (by decide)]; exact i1.k 98 (by decide)) (by rw [gs_ne (by decide), gs_ne (by decide)]; exact i1.k 78 (by decide)) (by rw [gs_ne (by decide), gs_ne (by decide)]; exact i1.k 79 (by decide)) (by rw [gs_ne (by decide), gs_ne (by decide)]; exact i1.k 110 (by decide)) (by rw [gs_ne (by decide), gs_ne (by decide)])
        exact ⟨hm.1, by omega, rfM_r hF hM, hm.2.1, hm.2.2⟩
      · rw [st_nat, e108] at hc
        rw [w32_b1 (by omega), st_nat, ha ()]
        have hjj : j = (G 108 b).toNat + 1 := by omega
        rw [hjj] at i6
        refine hk _ ⟨i1.s (by decide), by rw [gs_ne (by decide)]; exact ⟨i2, h116.2⟩, by rw [gs_ne (by decide)]; exact ⟨i3, h117.2⟩, ⟨rfT_to hT1 (gs_ne (by decide)), hB⟩, fun i hi => by rw [gs_ne (by decide)]; exact p5 i hi, rfA_to i6 (gs_ne (by decide)) (gs_ne (by decide))⟩ (fun i hi => ?_)
        rw [gs_at_ne (by omega), gs_ne (by decide), gs_ne (by decide)]
        exact i7 i hi
      · rw [st_nat, e108] at hc
        rw [st_nat, ha ()]
        refine hnext (by omega) _ ⟨hX2, ?_, ?_, ?_, fun i hi => ?_, ?_, fun i hi => ?_⟩ (by rw [gs_at]; exact Or.inl rfl) (by rw [gs_at, sUse_none]; exact rfT_to hT1 (by rw [gs_ne (by decide), gs_ne (by decide)]))
        · rw [gs_ne (by decide), gs_ne (by decide)]; exact i2
        · rw [gs_ne (by decide), gs_ne (by decide)]; exact i3
        · rw [gs_ne (by decide), gs_at]; omega
        · rw [gs_at_ne (by omega), gs_ne (by decide)]; exact i5 i hi
        · rw [fF_s]
          have e1 : scl (rfP G f mm) b j = G 109 (40 * b + j) := by show rfC G b j = _; unfold rfC; rw [if_pos hc]
          rw [e1, hok]
          exact rfA_to i6 (by rw [gs_ne (by decide), gs_ne (by decide)]) (by rw [gs_ne (by decide), gs_ne (by decide)])
        · rw [gs_ne (by decide), gs_at_ne (by omega), gs_ne (by decide), gs_ne (by decide), gs_ne (by decide), gs_ne (by decide)]
          exact i7 i hi
      · rw [st_nat, e108] at hc
        rw [st_nat, ha ()]
        have hM : rfM G n (G 109 (40 * b + j)) := ⟨b, j, hbn, hc, rfl⟩
        have hMr := rfM_r hF hM
        have hBw := hB _ hM
        have hTw := hT1 _ hM
        rw [w32_i (x := H1 114 (Int.toNat (G 109 (40 * b + j))) + 1) (by omega) (by omega)]
        have hz : (gs (gs (gs H1 111 b (j : Int)) 112 b (-1)) 112 b (G 109 (40 * b + j))) 114 = H1 114 := by rw [gs_ne (by decide), gs_ne (by decide), gs_ne (by decide)]
        refine c331 j (by omega) (hnext (by omega)) (G 109 (40 * b + j)) (by unfold rfC; rw [if_pos hc]) hok (Or.inr hM) _ ((hX2.s (by decide)).s (by decide)) ?_ ?_ ?_ ?_ (fun i hi => ?_) ?_ ?_ (fun i hi => ?_)
        · rw [gs_ne (by decide), gs_ne (by decide), gs_ne (by decide), gs_ne (by decide)]; exact i2
        · rw [gs_ne (by decide), gs_ne (by decide), gs_ne (by decide), gs_ne (by decide)]; exact i3
        · rw [gs_ne (by decide), gs_ne (by decide), gs_ne (by decide), gs_at]
        · rw [gs_ne (by decide), gs_at]
        · rw [gs_ne (by decide), gs_at_ne (by omega), gs_at_ne (by omega), gs_ne (by decide)]; exact i5 i hi
        · have := rfT_take (H := gs (gs (gs H1 111 b (j : Int)) 112 b (-1)) 112 b (G 109 (40 * b + j))) hF (rfT_to hT1 hz) hM
          rw [hz] at this
          exact this
        · exact rfA_to i6 (by rw [gs_ne (by decide), gs_ne (by decide), gs_ne (by decide), gs_ne (by decide)]) (by rw [gs_ne (by decide), gs_ne (by decide), gs_ne (by decide), gs_ne (by decide)])
        · rw [gs_ne (by decide), gs_ne (by decide), gs_ne (by decide), gs_at_ne (by omega), gs_ne (by decide), gs_ne (by decide), gs_ne (by decide), gs_ne (by decide), gs_ne (by decide), gs_ne (by decide), gs_ne (by decide), gs_ne (by decide)]
          exact i7 i hi
      · rw [st_nat, e108] at hc
        rw [st_nat, ha ()]
        refine c331 j (by omega) (hnext (by omega)) (-1) (by unfold rfC; rw [if_neg (by omega)]) ?_ (Or.inl rfl) _ hX2 ?_ ?_ ?_ ?_ (fun i hi => ?_) ?_ ?_ (fun i hi => ?_)
        · have e1 : sow (rfP G f mm) (-1) = -1 := by show rfN G (-1) = _; unfold rfN; rw [if_pos rfl]
          unfold sOk
          rw [e1]
          have e2 : sap (rfP G f mm) (rfH G pk b) (-1) = false := by show decide _ = false; exact decide_eq_false (fun q => absurd q.2.1 (by decide))
          rw [e2]
          simp [sFree]
        · rw [gs_ne (by decide), gs_ne (by decide)]; exact i2
        · rw [gs_ne (by decide), gs_ne (by decide)]; exact i3
        · rw [gs_ne (by decide), gs_at]
        · rw [gs_at]
        · rw [gs_at_ne (by omega), gs_ne (by decide)]; exact i5 i hi
        · rw [sUse_none]; exact rfT_to hT1 (by rw [gs_ne (by decide), gs_ne (by decide)])
        · exact rfA_to i6 (by rw [gs_ne (by decide), gs_ne (by decide)]) (by rw [gs_ne (by decide), gs_ne (by decide)])
        · rw [gs_ne (by decide), gs_at_ne (by omega), gs_ne (by decide), gs_ne (by decide), gs_ne (by decide), gs_ne (by decide)]
          exact i7 i hi
    have c64 : ∀ j : Nat, j ≤ (G 108 b).toNat + 1 → (j < (G 108 b).toNat + 1 → ∀ H' : mG, rfI G f mm n m b wv ov lf pk A H (j + 1) H' → (H' 112 b = -1 ∨ rfM G n (H' 112 b)) → rfT G n (sUse lf (H' 112 b)) H' → rfD q Q f nn mm 64 ((b : Nat) : Int) H') → ∀ H1 : mG, rfI G f mm n m b wv ov lf pk A H j H1 → ((j = 0 ∧ rfT G n lf H1) ∨ (0 < j ∧ (H1 112 b = -1 ∨ rfM G n (H1 112 b)) ∧ rfT G n (sUse lf (H1 112 b)) H1)) → rfD q Q f nn mm 64 ((b : Nat) : Int) H1 := by
      intro j hj hnext H1 hI hT1
      have i1 := hI.1
      have i4 := hI.2.2.2.1
      refine fi_64 (n := n) hn9 ((i1.2 44 (by decide) (by decide)).trans hF.2.1) hbn ?_ (fun c => ?_) (fun c1 c2 => ?_)
      · rw [st_nat]
        rcases hT1 with ⟨h0, _⟩ | ⟨_, h2 | h2, _⟩
        · exact Or.inl (by rw [i4]; omega)
        · exact Or.inr (Or.inl h2)
        · exact Or.inr (Or.inr (rfM_r hF h2))
      · rw [st_nat] at c
        refine c218 j hj hnext H1 hI ?_
        rcases hT1 with ⟨_, h1⟩ | ⟨h0, _, h3⟩
        · exact h1
        · have hc : H1 112 b = -1 := by rcases c with c | c; omega; exact c
          rw [hc, sUse_none] at h3
          exact h3
      · rw [st_nat] at c1 c2
        rw [st_nat]
        rcases hT1 with ⟨h0, _⟩ | ⟨h0, h2 | h2, h3⟩
        · omega
        · exact absurd h2 c2
        · have hMr := rfM_r hF h2
          have hBw := hB _ h2
          have hTw := h3 _ h2
          unfold sUse at hTw
          rw [if_pos (by omega)] at hTw
          rw [w32_i (x := H1 114 (Int.toNat (H1 112 b)) - 1) (by omega) (by omega)]
          obtain ⟨j1, j2, j3, j4, j5, j6, j7⟩ := hI
          refine c218 j hj hnext _ ⟨j1.s (by decide), ?_, ?_, ?_, fun i hi => ?_, rfA_to j6 (gs_ne (by decide)) (gs_ne (by decide)), fun i hi => ?_⟩ (rfT_back hF h3 h2)
          · rw [gs_ne (by decide)]; exact j2
          · rw [gs_ne (by decide)]; exact j3
          · rw [gs_ne (by decide)]; exact j4
          · rw [gs_ne (by decide)]; exact j5 i hi
          · rw [gs_ne (by decide), gs_ne (by decide), gs_ne (by decide)]; exact j7 i hi
    have all : ∀ t j : Nat, j + t = (G 108 b).toNat + 1 → ∀ H1 : mG, rfI G f mm n m b wv ov lf pk A H j H1 → ((j = 0 ∧ rfT G n lf H1) ∨ (0 < j ∧ (H1 112 b = -1 ∨ rfM G n (H1 112 b)) ∧ rfT G n (sUse lf (H1 112 b)) H1)) → rfD q Q f nn mm 64 ((b : Nat) : Int) H1 := by
      intro t
      induction t with
      | zero => intro j hj; exact c64 j (by omega) (fun h => absurd h (by omega))
      | succ t iht => intro j hj; exact c64 j (by omega) (fun _ H' h1 h2 h3 => iht (j + 1) (by omega) H' h1 (Or.inr ⟨by omega, h2, h3⟩))
    exact all _ 0 (Nat.zero_add _) H ⟨hX0, h116.1, h117.1, by rw [hat]; rfl, fun i hi => (hpk i hi).1, hA0, fun _ _ => ⟨rfl, rfl, rfl⟩⟩ (Or.inl ⟨rfl, hT0⟩)
end RFM
