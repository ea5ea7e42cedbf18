/-! ===== the class's search: each step ===== -/
def fF (P : sP) (m b : Nat) (g ah : Int) (lf pk : Nat → Int) (A : sA) (j : Nat) : sA := fd (fun i A => bif sOk P b ah lf (scl P b i) then proc P m (b + 1) (g + sgn P b i) (sow P (scl P b i)) (sUse lf (scl P b i)) (setN pk b (scl P b i)) A else A) A j
theorem fF_s {P : sP} {m b : Nat} {g ah : Int} {lf pk : Nat → Int} {A : sA} {j : Nat} : fF P m b g ah lf pk A (j + 1) = bif sOk P b ah lf (scl P b j) then proc P m (b + 1) (g + sgn P b j) (sow P (scl P b j)) (sUse lf (scl P b j)) (setN pk b (scl P b j)) (fF P m b g ah lf pk A j) else fF P m b g ah lf pk A j := rfl
section FIL
variable {c : Nat} {G0 : mG} {n : Nat} {lf0 : Nat → Int} {b0 : Nat}
theorem fl_leaf {H : mG} (hS : sStat G0 H) (g ah : Int) : fPost c G0 n 0 n g ah H (e_X8_keep H g) := by
  obtain ⟨k1, k2⟩ := keep_eq H g
  refine ⟨⟨fun k hk => ?_, fun j hj => ?_⟩, fr_X8_keep (by decide), fun i _ _ => by rw [fr_X8_keep (by decide)], ?_, fun i hi => ?_, fun r _ b' h1 h2 => absurd h1 (by omega), fun r _ _ => ?_⟩
  · rw [fr_X8_keep (fun a ha => hk a (by simp only [List.mem_cons, List.not_mem_nil, or_false] at ha ⊢; omega))]
    exact hS.1 k hk
  · rw [frp_X8_keep_29 (fun a ha => by simp only [List.mem_cons, List.not_mem_nil, or_false] at ha; omega)]
    exact hS.2 j hj
  · rw [k1]
    unfold proc
    by_cases h : H 29 15 < g
    · rw [if_pos h, if_neg (by omega)]
    · rw [if_neg h, if_pos (by omega)]
  · rw [k2 i hi]
    unfold proc
    by_cases h : H 29 15 < g
    · rw [if_pos h, if_neg (by omega)]
    · rw [if_neg h, if_pos (by omega)]
  · rw [fr_X8_keep (k := 38) (by decide), fr_X8_keep (k := 39) (by decide)]
    exact ⟨rfl, rfl⟩
theorem fl_out {H : mG} {m b : Nat} {g ah : Int} (hb : b + (m + 1) = n) (hS : sStat G0 H) (hv : vS ah (H 33)) (hI : SI c G0 n b H) {r : Nat} (hr : r < 512) (hk : kv (cP c G0) (tkH G0) (G0 c 12).toNat (H 33) b ah = H 38 r) (hg : g ≤ H 39 r) : fPost c G0 n (m + 1) b g ah H H := by
  have hd := hI r hr b (Nat.le_refl _) (by omega) ah (H 33) hv hk
  rw [show n - b = m + 1 by omega] at hd
  have e : proc (cP c G0) (m + 1) b g ah (H 33) (H 35) (H 29 15, H 36) = (H 29 15, H 36) := proc_dom (dom_le hd (by show _ ≤ H 29 15 - g; omega))
  exact ⟨hS, rfl, fun _ _ _ => rfl, by rw [e], fun i _ => by rw [e], hI, fun _ _ _ => ⟨rfl, rfl⟩⟩
def fI (c : Nat) (G0 : mG) (n : Nat) (m b : Nat) (g ah : Int) (H H1 : mG) (j : Nat) (Hj : mG) : Prop :=
  sStat G0 Hj ∧ Hj 33 = H 33 ∧ (∀ i, i < 9 → (i < b ∨ n ≤ i) → Hj 35 i = H 35 i) ∧
  Hj 29 15 = (fF (cP c G0) m b g ah (H 33) (H 35) (H 29 15, H 36) j).1 ∧
  (∀ i, i < 9 → Hj 36 i = (fF (cP c G0) m b g ah (H 33) (H 35) (H 29 15, H 36) j).2 i) ∧
  SI c G0 n (b + 1) Hj ∧ UN c G0 n (b + 1) H1 Hj
/-- the heap behind isOutdone -/
def oH (c : Nat) (G0 : mG) (b : Nat) (g ah : Int) (H H1 : mG) : Prop := H1 = H ∨ ∃ ro, ro < 512 ∧ H1 = gs (gs H 38 ro (kv (cP c G0) (tkH G0) (G0 c 12).toNat (H 33) b ah)) 39 ro g
theorem sStat_o {b : Nat} {g ah : Int} {H H1 : mG} (hS : sStat G0 H) (ho : oH c G0 b g ah H H1) : sStat G0 H1 ∧ H1 33 = H 33 ∧ H1 35 = H 35 ∧ H1 36 = H 36 ∧ H1 29 = H 29 := by
  rcases ho with rfl | ⟨ro, _, rfl⟩
  · exact ⟨hS, rfl, rfl, rfl, rfl⟩
  · refine ⟨⟨fun k hk => ?_, fun j hj => ?_⟩, ?_, ?_, ?_, ?_⟩
    · rw [gs_ne (hk 39 (by decide)), gs_ne (hk 38 (by decide))]
      exact hS.1 k hk
    · rw [gs_ne (by decide), gs_ne (by decide)]
      exact hS.2 j hj
    all_goals rw [gs_ne (by decide), gs_ne (by decide)]
theorem fI_0 {m b : Nat} {g ah : Int} {H H1 : mG} (hn : n ≤ 9) (hnc : (G0 c 12).toNat ≤ 40) (hb : b + (m + 1) = n) (hS : sStat G0 H) (hv : vS ah (H 33)) (hI : SI c G0 n b H) (ho : oH c G0 b g ah H H1) : fI c G0 n m b g ah H H1 0 H1 := by
  obtain ⟨e1, e2, e3, e4, e5⟩ := sStat_o hS ho
  refine ⟨e1, e2, fun i _ _ => by rw [e3], by rw [e5]; rfl, fun i _ => by rw [e4]; rfl, ?_, fun _ _ _ => ⟨rfl, rfl⟩⟩
  intro r hr b' h1 h2 ah' lf' hv' hk
  rw [e5]
  rcases ho with rfl | ⟨ro, hro, rfl⟩
  · exact hI r hr b' (by omega) h2 ah' lf' hv' hk
  · by_cases hrr : r = ro
    · subst hrr
      rw [gs_ne (by decide), gs_at] at hk
      have := (kv_inj hnc (by omega) (by omega) hv' hv hk).1
      omega
    · rw [gs_ne (by decide), gs_at_ne hrr] at hk
      rw [gs_at_ne hrr, gs_ne (by decide)]
      exact hI r hr b' (by omega) h2 ah' lf' hv' hk
theorem fI_no {m b j : Nat} {g ah : Int} {H H1 Hj : mG} (h : fI c G0 n m b g ah H H1 j Hj) (ho : sOk (cP c G0) b ah (H 33) (scl (cP c G0) b j) = false) : fI c G0 n m b g ah H H1 (j + 1) Hj := by
  unfold fI at *
  rw [fF_s, ho]
  exact h
theorem fI_bd {m b j : Nat} {g ah : Int} {H H1 Hj : mG} (hF : sF c G0 n lf0 b0) (hb0 : b0 ≤ b) (hb : b + (m + 1) = n) (hl : ∀ w, w < 40 → 0 ≤ H 33 w ∧ H 33 w ≤ lf0 w) (h : fI c G0 n m b g ah H H1 j Hj) (hc : g + sgn (cP c G0) b j + G0 37 (b + 1) ≤ Hj 29 15) : fI c G0 n m b g ah H H1 (j + 1) Hj := by
  cases ho : sOk (cP c G0) b ah (H 33) (scl (cP c G0) b j) with
  | false => exact fI_no h ho
  | true =>
    obtain ⟨f1, f2, f3, f4, f5, f6, f7, f8, f9, f10, f11, f12, f13⟩ := hF
    have hd := (f13 (b + 1) (by omega) (by omega)).1
    rw [show n - (b + 1) = m by omega] at hd
    have e : proc (cP c G0) m (b + 1) (g + sgn (cP c G0) b j) (sow (cP c G0) (scl (cP c G0) b j)) (sUse (H 33) (scl (cP c G0) b j)) (setN (H 35) b (scl (cP c G0) b j)) (fF (cP c G0) m b g ah (H 33) (H 35) (H 29 15, H 36) j) = fF (cP c G0) m b g ah (H 33) (H 35) (H 29 15, H 36) j := by
      refine proc_dom (fun v hv => ?_)
      have h1 := hd v (rc_mono cP_ap (Or.inr rfl) (fun i hi => by
        have := hl i hi
        unfold sUse
        split <;> omega) hv)
      rw [← h.2.2.2.1]
      omega
    unfold fI at *
    rw [fF_s, ho]
    simp only [cond_true]
    rw [e]
    exact h
theorem fI_take {m b j : Nat} {g ah : Int} {H H1 Hj : mG} (hF : sF c G0 n lf0 b0) (hb : b + (m + 1) = n) (hj : j < sop (cP c G0) b) (hl : ∀ w, w < 40 → 0 ≤ H 33 w ∧ H 33 w ≤ lf0 w) (h : fI c G0 n m b g ah H H1 j Hj) (ho : sOk (cP c G0) b ah (H 33) (scl (cP c G0) b j) = true) :
    (sStat G0 (gs (e_X8_use Hj (scl (cP c G0) b j) (-1)) 35 b (scl (cP c G0) b j)) ∧ (∀ w, w < 40 → 0 ≤ (gs (e_X8_use Hj (scl (cP c G0) b j) (-1)) 35 b (scl (cP c G0) b j)) 33 w ∧ (gs (e_X8_use Hj (scl (cP c G0) b j) (-1)) 35 b (scl (cP c G0) b j)) 33 w ≤ lf0 w) ∧ SI c G0 n (b + 1) (gs (e_X8_use Hj (scl (cP c G0) b j) (-1)) 35 b (scl (cP c G0) b j))) ∧
    ∀ H3, fPost c G0 n m (b + 1) (g + sgn (cP c G0) b j) (sow (cP c G0) (scl (cP c G0) b j)) (gs (e_X8_use Hj (scl (cP c G0) b j) (-1)) 35 b (scl (cP c G0) b j)) H3 → fI c G0 n m b g ah H H1 (j + 1) (e_X8_use H3 (scl (cP c G0) b j) 1) := by
  obtain ⟨f1, f2, f3, f4, f5, f6, f7, f8, f9, f10, f11, f12, f13⟩ := hF
  obtain ⟨i1, i2, i3, i4, i5, i6, i7⟩ := h
  have hw : scl (cP c G0) b j < 40 := (f6 b j (by omega) hj).1.2
  have hl9 : ∀ i, i < 40 → 0 ≤ Hj 33 i ∧ Hj 33 i ≤ 9999 := fun i hi => by
    rw [i2]
    have := hl i hi
    have := f12 i hi
    omega
  have u1 : (e_X8_use Hj (scl (cP c G0) b j) (-1)) 33 = sUse (H 33) (scl (cP c G0) b j) := by rw [use_eq hw hl9, i2]
  generalize hww : scl (cP c G0) b j = w at *
  have x33 : (gs (e_X8_use Hj w (-1)) 35 b w) 33 = sUse (H 33) w := by rw [gs_ne (by decide), u1]
  have x38 : (gs (e_X8_use Hj w (-1)) 35 b w) 38 = Hj 38 := by rw [gs_ne (by decide), fr_X8_use (by decide)]
  have x39 : (gs (e_X8_use Hj w (-1)) 35 b w) 39 = Hj 39 := by rw [gs_ne (by decide), fr_X8_use (by decide)]
  have x36 : (gs (e_X8_use Hj w (-1)) 35 b w) 36 = Hj 36 := by rw [gs_ne (by decide), fr_X8_use (by decide)]
  have x29 : (gs (e_X8_use Hj w (-1)) 35 b w) 29 = Hj 29 := by rw [gs_ne (by decide), fr_X8_use (by decide)]
  have x35 : ∀ i, (gs (e_X8_use Hj w (-1)) 35 b w) 35 i = if i = b then w else Hj 35 i := fun i => by
    rw [gs_self, fr_X8_use (by decide)]
  refine ⟨⟨⟨fun k hk => ?_, fun q hq => ?_⟩, fun i hi => ?_, fun r hr b' h1 h2 ah' lf' hv' hk => ?_⟩, ?_⟩
  · rw [gs_ne (hk 35 (by decide)), fr_X8_use (fun a ha => hk a (by simp only [List.mem_cons, List.not_mem_nil, or_false] at ha ⊢; omega))]
    exact i1.1 k hk
  · rw [x29]; exact i1.2 q hq
  · rw [x33]
    have h0 := hl i hi
    unfold sUse
    by_cases hiw : (i : Int) = w
    · rw [if_pos hiw]
      unfold sOk sFree at ho
      rw [Bool.and_eq_true_iff, Bool.or_eq_true_iff, Bool.and_eq_true_iff] at ho
      rcases ho.1 with q | q
      · have := of_decide_eq_true q; omega
      · have := of_decide_eq_true q.2
        rw [show w.toNat = i by omega] at this
        omega
    · rw [if_neg hiw]; exact h0
  · rw [x38] at hk
    rw [x29, x39]
    exact i6 r hr b' h1 h2 ah' lf' hv' hk
  · intro H3 hp
    obtain ⟨p1, p2, p3, p4, p5, p6, p7⟩ := hp
    rw [x33] at p2 p4 p5
    rw [x29, x36] at p4 p5
    have hpk := proc_pk (P := cP c G0) (n := n) (N := 9) (m := m) (b := b + 1) (by omega) (g := g + sgn (cP c G0) b j) (ah := sow (cP c G0) w) (lf := sUse (H 33) w) (pk := (gs (e_X8_use Hj w (-1)) 35 b w) 35) (pk' := setN (H 35) b w) (A := (Hj 29 15, Hj 36)) (B := fF (cP c G0) m b g ah (H 33) (H 35) (H 29 15, H 36) j)
      (fun i hi hi2 => by
        rw [x35]
        unfold setN
        by_cases hib : i = b
        · rw [if_pos hib, if_pos hib]
        · rw [if_neg hib, if_neg hib]; exact i3 i hi (by omega)) i4 i5
    refine ⟨⟨fun k hk => ?_, fun q hq => ?_⟩, unuse_eq hw (fun i hi => by have := hl i hi; have := f12 i hi; omega) p2, fun i hi hi2 => ?_, ?_, fun i hi => ?_, fun r hr b' h1 h2 ah' lf' hv' hk => ?_, fun r hr hno => ?_⟩
    · rw [fr_X8_use (fun a ha => hk a (by simp only [List.mem_cons, List.not_mem_nil, or_false] at ha ⊢; omega))]
      exact p1.1 k hk
    · rw [fr_X8_use (by decide)]; exact p1.2 q hq
    · rw [fr_X8_use (by decide), p3 i hi (by omega), x35, if_neg (by omega)]
      exact i3 i hi hi2
    · rw [fr_X8_use (by decide), p4, hpk.1, fF_s, hww, ho]
      rfl
    · rw [fr_X8_use (by decide), p5 i hi, hpk.2 i hi, fF_s, hww, ho]
      rfl
    · rw [fr_X8_use (by decide)] at hk
      rw [fr_X8_use (by decide), fr_X8_use (by decide)]
      exact p6 r hr b' h1 h2 ah' lf' hv' hk
    · rw [fr_X8_use (by decide)] at hno ⊢
      rw [fr_X8_use (by decide)]
      obtain ⟨q1, q2⟩ := p7 r hr hno
      rw [x38] at q1
      rw [x39] at q2
      rw [q1] at hno
      obtain ⟨q3, q4⟩ := i7 r hr hno
      exact ⟨q1.trans q3, q2.trans q4⟩
theorem fI_end {m b : Nat} {g ah : Int} {H H1 Hj : mG} (hF : sF c G0 n lf0 b0) (hb : b + (m + 1) = n) (hS : sStat G0 H) (hv : vS ah (H 33)) (hI : SI c G0 n b H) (ho : oH c G0 b g ah H H1) (h : fI c G0 n m b g ah H H1 (sop (cP c G0) b) Hj) : fPost c G0 n (m + 1) b g ah H Hj := by
  obtain ⟨i1, i2, i3, i4, i5, i6, i7⟩ := h
  obtain ⟨f1, f2, f3, f4, f5, f6, f7, f8, f9, f10, f11, f12, f13⟩ := hF
  have hnc : (G0 c 12).toNat ≤ 40 := by omega
  have hge := proc_ge (P := cP c G0) (m := m + 1) (b := b) (g := g) (ah := ah) (lf := H 33) (pk := H 35) (A := (H 29 15, H 36))
  have hmost : Hj 29 15 = (proc (cP c G0) (m + 1) b g ah (H 33) (H 35) (H 29 15, H 36)).1 := i4
  have hself : ∀ r b' ah' lf', r < 512 → b' = b → vS ah' lf' → kv (cP c G0) (tkH G0) (G0 c 12).toNat lf' b' ah' = Hj 38 r → Hj 38 r = H1 38 r ∧ Hj 39 r = H1 39 r := by
    intro r b' ah' lf' hr hbb hv' hk
    refine i7 r hr (fun b2 h1 h2 ah2 lf2 hv2 hk2 => ?_)
    have := (kv_inj hnc (by omega) (by omega) hv' hv2 (hk.trans hk2.symm)).1
    omega
  refine ⟨i1, i2, i3, i4, i5, fun r hr b' h1 h2 ah' lf' hv' hk => ?_, fun r hr hno => ?_⟩
  · by_cases hbb : b' = b
    · obtain ⟨q1, q2⟩ := hself r b' ah' lf' hr hbb hv' hk
      subst hbb
      rw [q1] at hk
      rw [q2]
      have own : kv (cP c G0) (tkH G0) (G0 c 12).toNat lf' b' ah' = kv (cP c G0) (tkH G0) (G0 c 12).toNat (H 33) b' ah → dom (cP c G0) (n - b') b' ah' lf' (Hj 29 15 - g) := by
        intro hkk v hrc
        obtain ⟨_, e2, e3⟩ := kv_inj hnc (by omega) (by omega) hv' hv hkk
        rw [show n - b' = m + 1 by omega] at hrc
        have hr2 := rc_eq (P := cP c G0) (n := n) (tk := tkH G0) (fun b w hb hw => ⟨(f8 b w hb hw).1, (f8 b w hb hw).2.1⟩) (fun b i hb hi h0 => ⟨(f6 b i hb hi).1.2, f9 b i hb hi h0⟩) (m := m + 1) (b := b') hb (ah' := ah) (lf' := H 33) e2 (fun w hw ht => by
          by_cases hwn : w < (G0 c 12).toNat
          · exact e3 w hwn ht
          · have := f10 b' w (by omega) (by omega) hw; omega) hrc
        have := hge.2 v hr2
        omega
      have old : H 38 r = kv (cP c G0) (tkH G0) (G0 c 12).toNat lf' b' ah' → dom (cP c G0) (n - b') b' ah' lf' (Hj 29 15 - H 39 r) := by
        intro hkk
        refine dom_le (hI r hr b' (Nat.le_refl _) h2 ah' lf' hv' hkk.symm) ?_
        have h3 : H 29 15 ≤ Hj 29 15 := by rw [hmost]; exact hge.1
        omega
      rcases ho with rfl | ⟨ro, hro, rfl⟩
      · exact old hk.symm
      · by_cases hrr : r = ro
        · subst hrr
          rw [gs_ne (by decide), gs_at] at hk
          rw [gs_at]
          exact own hk
        · rw [gs_ne (by decide), gs_at_ne hrr] at hk
          rw [gs_at_ne hrr, gs_ne (by decide)]
          exact old hk.symm
    · exact i6 r hr b' (by omega) h2 ah' lf' hv' hk
  · obtain ⟨q1, q2⟩ := i7 r hr (fun b' h1 h2 => hno b' (by omega) h2)
    rcases ho with rfl | ⟨ro, hro, rfl⟩
    · exact ⟨q1, q2⟩
    · by_cases hrr : r = ro
      · subst hrr
        rw [gs_ne (by decide), gs_at] at q1
        exact absurd q1.symm (hno b (Nat.le_refl _) (by omega) ah (H 33) hv)
      · rw [gs_ne (by decide), gs_at_ne hrr] at q1
        rw [gs_at_ne hrr, gs_ne (by decide)] at q2
        exact ⟨q1, q2⟩
end FIL
