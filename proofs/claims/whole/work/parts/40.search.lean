/-! ===== the reference's search comes to the first best way ===== -/
def rfL (G : mG) : Nat := 40 * (G 64 18).toNat
def rfW (G : mG) (w : Int) : Int := if w = -1 then 0 else G 81 (rfL G + w.toNat)
def rfO (G : mG) (f m : Int) (b : Nat) (w : Int) : Int := if ¬ m = 0 ∧ G 118 b = 0 ∧ ¬ w = G 105 (9 * f.toNat + b) then 1 else 0
def rfC (G : mG) (b i : Nat) : Int := if (i : Int) < G 108 b then G 109 (40 * b + i) else -1
def rfN (G : mG) (w : Int) : Int := if w = -1 then -1 else G 78 (rfL G + w.toNat)
def rfP (G : mG) (f m : Int) : sP := (fun b => (G 108 b).toNat + 1, fun b i => rfC G b i, fun b i => 16 * rfW G (rfC G b i) - rfO G f m b (rfC G b i), fun w => rfN G w, fun b => decide (¬ G 98 b = 0), fun x y => decide (0 ≤ x ∧ 0 ≤ y ∧ ¬ G 110 (8 * x.toNat + y.toNat) = 0))
/-- w is an option of a board -/
def rfM (G : mG) (n : Nat) (w : Int) : Prop := ∃ b i : Nat, b < n ∧ (i : Int) < G 108 b ∧ G 109 (40 * b + i) = w
/-- what the search rests on -/
def rfF (G : mG) (f : Int) (n : Nat) : Prop :=
  n ≤ 9 ∧ G 64 44 = (n : Int) ∧ (0 ≤ G 64 18 ∧ G 64 18 ≤ 1) ∧ (0 ≤ f ∧ f < 26) ∧ (∀ b, b < n → 0 ≤ G 108 b ∧ G 108 b ≤ 40) ∧
  (∀ w, rfM G n w → (0 ≤ w ∧ w < 40) ∧ (0 ≤ G 81 (rfL G + w.toNat) ∧ G 81 (rfL G + w.toNat) ≤ 9999) ∧ (0 ≤ G 78 (rfL G + w.toNat) ∧ G 78 (rfL G + w.toNat) < 8)) ∧
  (∀ b i : Nat, b < n → (i : Int) < G 108 b → G 81 (rfL G + (G 109 (40 * b + i)).toNat) ≤ G 115 b - G 115 (b + 1)) ∧
  (∀ b, b < n → 0 ≤ G 115 (b + 1) ∧ G 115 (b + 1) ≤ G 115 b ∧ G 115 b ≤ 100000) ∧ G 115 n = 0 ∧ G 98 0 = 0
theorem rfO_r (G : mG) (f m : Int) (b : Nat) (w : Int) : rfO G f m b w = 0 ∨ rfO G f m b w = 1 := by
  unfold rfO
  split
  · exact Or.inr rfl
  · exact Or.inl rfl
theorem rfW_r {G : mG} {f : Int} {n : Nat} {w : Int} (hF : rfF G f n) (hw : w = -1 ∨ rfM G n w) : 0 ≤ rfW G w ∧ rfW G w ≤ 9999 := by
  unfold rfW
  by_cases h : w = -1
  · rw [if_pos h]; omega
  · rw [if_neg h]
    exact (hF.2.2.2.2.2.1 w (by rcases hw with h1 | h1; exact absurd h1 h; exact h1)).2.1
theorem rf_hope {G : mG} {f m : Int} {n : Nat} (hF : rfF G f n) : ∀ (t b : Nat), b + t = n → ∀ (ah : Int) (lf : Nat → Int), dom (rfP G f m) t b ah lf (16 * G 115 b) := by
  obtain ⟨f1, f2, f3, f4, f5, f6, f7, f8, f9, f10⟩ := hF
  refine hope_dom f9 (fun b i hb hi => ?_)
  show 16 * rfW G (rfC G b i) - rfO G f m b (rfC G b i) ≤ _
  have h1 := rfO_r G f m b (rfC G b i)
  have h8 := f8 b hb
  unfold rfC at *
  by_cases hc : (i : Int) < G 108 b
  · rw [if_pos hc] at *
    have h7 := f7 b i hb hc
    have h6 := (f6 _ ⟨b, i, hb, hc, rfl⟩).1
    have e : rfW G (G 109 (40 * b + i)) = G 81 (rfL G + (G 109 (40 * b + i)).toNat) := by unfold rfW; rw [if_neg (by omega)]
    rw [e]
    omega
  · rw [if_neg hc] at *
    have e : rfW G (-1) = 0 := by unfold rfW; rw [if_pos rfl]
    rw [e]
    omega
/-- what the search may change -/
def rfX (G H : mG) : Prop := (∀ k, (∀ a ∈ ([64, 111, 112, 113, 114, 116, 117] : List Nat), k ≠ a) → H k = G k) ∧ ∀ j, j ≠ 70 → j ≠ 71 → H 64 j = G 64 j
theorem rfX.k {G H : mG} (h : rfX G H) (k : Nat) (hk : [64, 111, 112, 113, 114, 116, 117].all (fun a => !(Nat.beq a k)) = true) : H k = G k :=
  h.1 k (fun a ha he => by
    have := List.all_eq_true.mp hk a ha
    rw [he] at this
    simp [Nat.beq_refl] at this)
theorem rfX.s {G H : mG} (h : rfX G H) {k j : Nat} {x : Int} (hk : k ∈ ([111, 112, 113, 114, 116, 117] : List Nat)) : rfX G (gs H k j x) := by
  refine ⟨fun a ha => ?_, fun i h1 h2 => ?_⟩
  · rw [gs_ne (ha k (List.mem_cons_of_mem _ hk))]
    exact h.1 a ha
  · simp only [List.mem_cons, List.not_mem_nil, or_false] at hk
    rw [gs_ne (by omega)]
    exact h.2 i h1 h2
theorem rfX.b {G H : mG} (h : rfX G H) {j : Nat} {x : Int} (hj : j = 70 ∨ j = 71) : rfX G (gs H 64 j x) := by
  refine ⟨fun a ha => ?_, fun i h1 h2 => ?_⟩
  · rw [gs_ne (ha 64 (by simp))]
    exact h.1 a ha
  · rw [gs_at_ne (by omega)]
    exact h.2 i h1 h2
def rfT (G : mG) (n : Nat) (lf : Nat → Int) (H : mG) : Prop := ∀ w, rfM G n w → H 114 w.toNat + lf w.toNat = G 79 (rfL G + w.toNat)
def rfB (G : mG) (n : Nat) (lf : Nat → Int) : Prop := ∀ w, rfM G n w → 0 ≤ lf w.toNat ∧ lf w.toNat ≤ G 79 (rfL G + w.toNat) ∧ G 79 (rfL G + w.toNat) ≤ 9999
def rfA (n : Nat) (A : sA) (H : mG) : Prop := A.1 = 16 * H 64 70 - H 64 71 ∧ (-1 ≤ H 64 70 ∧ H 64 70 ≤ 100000) ∧ (0 ≤ H 64 71 ∧ H 64 71 ≤ 9) ∧ ∀ i, i < n → H 113 i = A.2 i
def rfS (G : mG) (n b : Nat) (wv ov : Int) (lf pk : Nat → Int) (A : sA) (H : mG) : Prop :=
  rfX G H ∧ (H 116 b = wv ∧ 0 ≤ wv ∧ wv ≤ 9999 * (b : Int)) ∧ (H 117 b = ov ∧ 0 ≤ ov ∧ ov ≤ (b : Int)) ∧ (rfT G n lf H ∧ rfB G n lf) ∧ (∀ i, i < b → H 112 i = pk i ∧ (pk i = -1 ∨ rfM G n (pk i))) ∧ rfA n A H
def rfH (G : mG) (pk : Nat → Int) : Nat → Int
  | 0 => -1
  | b + 1 => rfN G (pk b)
abbrev rfD (q : Nat) (Q : Option mV → mG → Prop) (f nn mm : Int) (pc : Nat) (bt : Int) (H : mG) : Prop := W2 o_X12 M_X12_finds (inN [64, 104, 105, 106, 107, 108, 109, 110, 111, 112, 113, 114, 115, 116, 117]) (q + 30) Q pc [some (mR 69), some (mI f), some (mI nn), some (mI mm), some (mI bt), none] [] H
theorem w32_b1 {b : Nat} (h : b < 1000) : w32 (((b : Nat) : Int) + (-1)) = (b : Int) - 1 := by rw [w32_i (by omega) (by omega)]; omega
section RFS
variable {G H : mG} {f nn mm : Int} {n q b : Nat} {Q : Option mV → mG → Prop}
theorem rf_331 (hF : rfF G f n) (hX : rfX G H) (hb : b < n) {w wv ov : Int} (hw : H 112 b = w) (hwm : w = -1 ∨ rfM G n w) (h116 : H 116 b = wv ∧ 0 ≤ wv ∧ wv ≤ 9999 * (b : Int)) (h117 : H 117 b = ov ∧ 0 ≤ ov ∧ ov ≤ (b : Int))
    (hk : rfD q Q f nn mm 441 ((b : Nat) : Int) (gs (gs H 116 (b + 1) (wv + rfW G w)) 117 (b + 1) (ov + rfO G f mm b w))) : rfD q Q f nn mm 331 ((b : Nat) : Int) H := by
  have hn9 := hF.1
  have hf := hF.2.2.2.1
  have h44 : H 64 44 = (n : Int) := (hX.2 44 (by decide) (by decide)).trans hF.2.1
  have hb1 : Unit → w32 (((b : Nat) : Int) + 1) = ((b + 1 : Nat) : Int) := fun _ => w32_nat (by omega)
  have e18 : H 64 18 = G 64 18 := hX.2 18 (by decide) (by decide)
  have hlv := hF.2.2.1
  have key : rfD q Q f nn mm 383 ((b : Nat) : Int) (gs H 116 (b + 1) (wv + rfW G w)) := by
    have e118 : gs H 116 (b + 1) (wv + rfW G w) 118 = G 118 := by rw [gs_ne (by decide)]; exact hX.k 118 (by decide)
    have e112 : gs H 116 (b + 1) (wv + rfW G w) 112 = H 112 := gs_ne (by decide)
    have e105 : gs H 116 (b + 1) (wv + rfW G w) 105 = G 105 := by rw [gs_ne (by decide)]; exact hX.k 105 (by decide)
    have e117 : gs H 116 (b + 1) (wv + rfW G w) 117 = H 117 := gs_ne (by decide)
    have hox : Unit → w32 ((w32 (9 * f)) + ((b : Nat) : Int)) = ((9 * f.toNat + b : Nat) : Int) := fun _ => by
      rw [w32_i (x := 9 * f) (by omega) (by omega), w32_i (by omega) (by omega)]; omega
    refine fi_383 (n := n) hn9 (by rw [gs_ne (by decide)]; exact h44) hb (hb1 ()) (by rw [hox ()]; omega) (fun hc => ?_) (fun c1 c2 c3 => ?_)
    · rw [hox (), st_nat, st_nat, e118, e112, e105, hw] at hc
      have e : rfO G f mm b w = 0 := by
        unfold rfO
        rw [if_neg (fun q => by rcases hc with h | h | h; exact q.1 h; exact h q.2.1; exact q.2.2 h)]
      rw [e] at hk
      rw [hb1 (), st_nat, st_nat, e117, h117.1, w32_i (by omega) (by omega)]
      exact hk
    · rw [hox (), st_nat, st_nat, e112, e105, hw] at c3
      rw [st_nat, e118] at c2
      have e : rfO G f mm b w = 1 := by unfold rfO; rw [if_pos ⟨c1, c2, c3⟩]
      rw [e] at hk
      rw [hb1 (), st_nat, st_nat, e117, h117.1, w32_i (by omega) (by omega)]
      exact hk
  have hww := rfW_r hF hwm
  have hwx : ¬ w = -1 → w32 ((w32 (40 * (H 64 18))) + w) = ((rfL G + w.toNat : Nat) : Int) ∧ 0 ≤ w ∧ w < 40 := by
    intro hne
    have h6 := (hF.2.2.2.2.2.1 w (by rcases hwm with h1 | h1; exact absurd h1 hne; exact h1)).1
    rw [e18, w32_i (x := 40 * G 64 18) (by omega) (by omega), w32_i (by omega) (by omega)]
    unfold rfL
    omega
  refine fi_331 (n := n) hn9 h44 hb (hb1 ()) ?_ (fun c1 => ?_) (fun c1 => ?_)
  · rw [st_nat, hw]
    by_cases hne : w = -1
    · exact Or.inl hne
    · refine Or.inr ?_
      have h1 := hwx hne
      rw [h1.1]
      unfold rfL
      omega
  · rw [st_nat, hw] at c1
    have e : rfW G w = 0 := by unfold rfW; rw [if_pos c1]
    rw [e] at key
    rw [hb1 (), st_nat, st_nat, h116.1, w32_i (by omega) (by omega)]
    exact key
  · rw [st_nat, hw] at c1
    have e : rfW G w = G 81 (rfL G + w.toNat) := by unfold rfW; rw [if_neg c1]
    rw [e] at hww
    rw [e] at key
    rw [hb1 (), st_nat, st_nat, hw, (hwx c1).1, st_nat, hX.k 81 (by decide), h116.1, w32_i (by omega) (by omega)]
    exact key
theorem sUse_none (lf : Nat → Int) : sUse lf (-1) = lf := by
  funext i
  unfold sUse
  rw [if_neg (by omega)]
theorem rfM_r (hF : rfF G f n) {w : Int} (hw : rfM G n w) : 0 ≤ w ∧ w < 40 := (hF.2.2.2.2.2.1 w hw).1
theorem rfT_take (hF : rfF G f n) {lf : Nat → Int} {w : Int} (hT : rfT G n lf H) (hw : rfM G n w) : rfT G n (sUse lf w) (gs H 114 w.toNat (H 114 w.toNat + 1)) := by
  intro v hv
  have h1 := rfM_r hF hw
  have h2 := rfM_r hF hv
  have h3 := hT v hv
  by_cases he : v = w
  · subst he
    rw [gs_at]
    unfold sUse
    rw [if_pos (by omega)]
    omega
  · rw [gs_at_ne (by omega)]
    unfold sUse
    rw [if_neg (by omega)]
    exact h3
theorem rfT_back (hF : rfF G f n) {lf : Nat → Int} {w : Int} (hT : rfT G n (sUse lf w) H) (hw : rfM G n w) : rfT G n lf (gs H 114 w.toNat (H 114 w.toNat - 1)) := by
  intro v hv
  have h1 := rfM_r hF hw
  have h2 := rfM_r hF hv
  have h3 := hT v hv
  unfold sUse at h3
  by_cases he : v = w
  · subst he
    rw [gs_at]
    rw [if_pos (by omega)] at h3
    omega
  · rw [gs_at_ne (by omega)]
    rw [if_neg (by omega)] at h3
    exact h3
theorem rfT_to {lf : Nat → Int} {H' : mG} (hT : rfT G n lf H) (h : H' 114 = H 114) : rfT G n lf H' := fun w hw => by rw [h]; exact hT w hw
theorem rfB_use {lf : Nat → Int} {w : Int} (hF : rfF G f n) (hB : rfB G n lf) (hw : rfM G n w) (h0 : 0 < lf w.toNat) : rfB G n (sUse lf w) := by
  intro v hv
  have h1 := rfM_r hF hw
  have h2 := rfM_r hF hv
  have h3 := hB v hv
  unfold sUse
  by_cases he : v = w
  · subst he
    rw [if_pos (by omega)]
    omega
  · rw [if_neg (by omega)]
    exact h3
/-- what mayTake says is what the plan asks -/
theorem rf_may (hF : rfF G f n) (hb : b < n) {w : Int} (hw : rfM G n w) {lf pk : Nat → Int} (hT : rfT G n lf H) (hB : rfB G n lf) {M : mG} (hpk : ∀ i, i < b → M 112 i = pk i ∧ (pk i = -1 ∨ rfM G n (pk i))) (e18 : M 64 18 = G 64 18) (e98 : M 98 = G 98) (e78 : M 78 = G 78) (e79 : M 79 = G 79) (e110 : M 110 = G 110) (e114 : M 114 = H 114) :
    (0 ≤ M 64 18 ∧ M 64 18 ≤ 1) ∧
    (M 98 b = 0 ∨ (1 ≤ ((b : Nat) : Int) ∧ (M 112 (Int.toNat (w32 (((b : Nat) : Int) - 1))) = -1 ∨ (0 ≤ M 112 (Int.toNat (w32 (((b : Nat) : Int) - 1))) ∧ M 112 (Int.toNat (w32 (((b : Nat) : Int) - 1))) < 40 ∧ 0 ≤ w32 ((w32 (8 * (M 78 (Int.toNat (w32 ((w32 (40 * (M 64 18))) + (M 112 (Int.toNat (w32 (((b : Nat) : Int) - 1)))))))))) + (M 78 (Int.toNat (w32 ((w32 (40 * (M 64 18))) + w))))) ∧ w32 ((w32 (8 * (M 78 (Int.toNat (w32 ((w32 (40 * (M 64 18))) + (M 112 (Int.toNat (w32 (((b : Nat) : Int) - 1)))))))))) + (M 78 (Int.toNat (w32 ((w32 (40 * (M 64 18))) + w))))) < 64)))) ∧
    f_X12_mayTake M ((b : Nat) : Int) w = b01 (sOk (rfP G f mm) b (rfH G pk b) lf w) := by
  obtain ⟨f1, f2, f3, f4, f5, f6, f7, f8, f9, f10⟩ := hF
  have ix : ∀ v, rfM G n v → w32 ((w32 (40 * (G 64 18))) + v) = ((rfL G + v.toNat : Nat) : Int) := by
    intro v hv
    have h1 := (f6 v hv).1
    rw [w32_i (x := 40 * G 64 18) (by omega) (by omega), w32_i (by omega) (by omega)]
    unfold rfL
    omega
  have hw6 := f6 w hw
  have hTw := hT w hw
  have hBw := hB w hw
  have eN : ∀ v, rfM G n v → rfN G v = G 78 (rfL G + v.toNat) := by
    intro v hv
    have h1 := (f6 v hv).1
    unfold rfN
    rw [if_neg (by omega)]
  have efree : sFree lf w = decide (0 < lf w.toNat) := by
    unfold sFree
    rw [decide_eq_false (by omega), decide_eq_true (show w < 40 by omega)]
    simp
  have eok : sOk (rfP G f mm) b (rfH G pk b) lf w = (decide (0 < lf w.toNat) && !(decide (¬ G 98 b = 0) && decide (0 ≤ rfH G pk b ∧ 0 ≤ rfN G w ∧ ¬ G 110 (8 * (rfH G pk b).toNat + (rfN G w).toNat) = 0))) := by
    unfold sOk
    rw [efree]
    rfl
  rw [eok]
  unfold f_X12_mayTake
  rw [e18, e98, e78, e79, e110, e114, st_nat, ix w hw, st_nat]
  have ha : H 114 w.toNat = G 79 (rfL G + w.toNat) ↔ ¬ 0 < lf w.toNat := by omega
  by_cases h98 : G 98 b = 0
  · refine ⟨f3, Or.inl h98, ?_⟩
    rw [if_pos h98]
    by_cases h0 : 0 < lf w.toNat
    · rw [if_pos (by omega)]; simp [h0, h98, b01]
    · rw [if_neg (by omega)]; simp [h0, b01]
  · rw [if_neg h98]
    cases b with
    | zero => exact absurd f10 h98
    | succ b' =>
      have eb : Unit → Int.toNat (w32 (((b' + 1 : Nat) : Int) - 1)) = b' := fun _ => by rw [w32_i (by omega) (by omega)]; omega
      have e112 : M 112 b' = pk b' := (hpk b' (by omega)).1
      have hH : rfH G pk (b' + 1) = rfN G (pk b') := rfl
      rw [eb (), e112, hH]
      rcases (hpk b' (by omega)).2 with hp | hp
      · refine ⟨f3, Or.inr ⟨by omega, Or.inl hp⟩, ?_⟩
        have eNn : rfN G (pk b') = -1 := by unfold rfN; rw [if_pos hp]
        rw [if_neg (show ¬ ¬ pk b' = -1 from fun q => q hp), eNn]
        by_cases h0 : 0 < lf w.toNat
        · rw [if_pos (show ¬ H 114 w.toNat = G 79 (rfL G + w.toNat) by omega)]; simp [h0, b01]
        · rw [if_neg (show ¬ ¬ H 114 w.toNat = G 79 (rfL G + w.toNat) by omega)]; simp [h0, b01]
      · have hp6 := f6 _ hp
        rw [ix _ hp, st_nat, eN _ hp, eN _ hw]
        have eq : Unit → w32 (w32 (8 * G 78 (rfL G + (pk b').toNat)) + G 78 (rfL G + w.toNat)) = ((8 * (G 78 (rfL G + (pk b').toNat)).toNat + (G 78 (rfL G + w.toNat)).toNat : Nat) : Int) := fun _ => by
          rw [w32_i (x := 8 * G 78 (rfL G + (pk b').toNat)) (by omega) (by omega), w32_i (by omega) (by omega)]; omega
        rw [eq (), st_nat]
        refine ⟨f3, Or.inr ⟨by omega, Or.inr ⟨by omega, by omega, by omega, by omega⟩⟩, ?_⟩
        rw [if_pos (show ¬ pk b' = -1 by omega)]
        by_cases h0 : 0 < lf w.toNat
        · rw [if_pos (by omega)]
          by_cases hq : G 110 (8 * (G 78 (rfL G + (pk b').toNat)).toNat + (G 78 (rfL G + w.toNat)).toNat) = 0
          · rw [if_neg (fun q => q hq)]; simp [h0, hq, b01]
          · rw [if_pos hq]
            have h1 : 0 ≤ G 78 (rfL G + (pk b').toNat) := by omega
            have h2 : 0 ≤ G 78 (rfL G + w.toNat) := by omega
            simp [hq, h98, h1, h2, b01]
        · rw [if_neg (by omega)]; simp [h0, b01]
end RFS
