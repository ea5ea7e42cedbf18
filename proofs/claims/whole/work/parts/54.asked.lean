/-! ===== what is asked: given, lacks, state ===== -/
theorem mDiv_nn {a p : Int} (ha : 0 ≤ a) (ha2 : a < 1000000) (hp : 1 ≤ p) : 0 ≤ mDiv a p ∧ mDiv a p ≤ a := by
  unfold mDiv
  have h1 : 0 ≤ Int.tdiv a p := Int.tdiv_nonneg ha (by omega)
  have h2 : Int.tdiv a p ≤ a := by
    rw [Int.tdiv_eq_ediv_of_nonneg ha]
    exact Int.ediv_le_self p ha
  rw [w32_i (by omega) (by omega)]
  exact ⟨h1, h2⟩
/-- a loop that looks for the first -/
theorem fe_fs {g : Nat → Unit → Unit ⊕ Int} {p : Nat → Bool} {r : Nat → Int} {n : Nat} (h : ∀ j, j < n → g j () = bif p j then Sum.inr (r j) else Sum.inl ()) : (fs p n = -1 ∧ fe g () n = Sum.inl ()) ∨ ∃ j, j < n ∧ p j = true ∧ fs p n = (j : Int) ∧ fe g () n = Sum.inr (r j) := by
  induction n with
  | zero => exact Or.inl ⟨rfl, rfl⟩
  | succ n ih =>
    have ih := ih (fun j hj => h j (by omega))
    rw [fe_s]
    unfold fs
    rcases ih with ⟨e1, e2⟩ | ⟨j, j1, j2, e1, e2⟩
    · rw [e2, if_pos e1]
      show (_ ∧ g n () = _) ∨ ∃ j, _ ∧ _ ∧ _ ∧ g n () = _
      rw [h n (by omega)]
      cases hp : p n with
      | false => exact Or.inl ⟨rfl, rfl⟩
      | true => exact Or.inr ⟨n, by omega, hp, rfl, rfl⟩
    · rw [e2, if_neg (by omega)]
      exact Or.inr ⟨j, by omega, j2, e1, rfl⟩
section ASK
variable {c : Nat} {G : mG} {f : Int} {n nk : Nat}
theorem ix_g {b : Nat} (hf : 0 ≤ f ∧ f < 26) (hb : b < 9) : w32 ((w32 (9 * f)) + (b : Int)) = ((9 * f.toNat + b : Nat) : Int) ∧ w32 ((w32 (f * 9)) + (b : Int)) = ((9 * f.toNat + b : Nat) : Int) := by
  rw [w32_i (x := 9 * f) (by omega) (by omega), w32_i (x := f * 9) (by omega) (by omega), w32_i (by omega) (by omega), w32_i (by omega) (by omega)]
  omega
theorem cl_of {H : mG} {b : Nat} (hf : 0 ≤ f ∧ f < 26) (hb : b < 9) : f_X4_clauseOf H (b : Int) f = H 22 (9 * f.toNat + b) := by
  have := fa_X4_hasRow H (b : Int) f
  unfold f_X4_clauseOf
  rw [if_neg (by omega), (ix_g hf hb).2, st_nat]
theorem ix_k (hl : 0 ≤ G 64 18 ∧ G 64 18 ≤ 1) {v : Int} (hv : 0 ≤ v ∧ v < 40) : w32 ((w32 (40 * (G 64 18))) + v) = ((40 * (G 64 18).toNat + v.toNat : Nat) : Int) := by
  rw [w32_i (x := 40 * G 64 18) (by omega) (by omega), w32_i (by omega) (by omega)]
  omega
theorem made_f (hf : 0 ≤ f ∧ f < 26) : f_X4_isMade G f = if G 23 f.toNat = 0 then 0 else 1 := by
  have := fa_X11_isFortnight G f
  unfold f_X4_isMade
  rw [if_neg (by omega)]
theorem made_no (hf : ¬ (0 ≤ f ∧ f < 26)) : f_X4_isMade G f = 0 := by
  have := fa_X11_isFortnight G f
  unfold f_X4_isMade
  rw [if_pos (by omega)]
/-- the day that is due, on both sides -/
theorem due_eq (h : Cpl c G) (hn : G 1 6 = (n : Int)) (hf : 0 ≤ f ∧ f < 26) {b : Nat} (hb : b < n) {H : mG} (hH : ∀ k, k ∈ ([1, 2, 7, 22] : List Nat) → H k = G k) : f_X11_dueOf H (b : Int) f = if G 22 (9 * f.toNat + b) = -1 then -1 else mDiv (fd (fun j s => if ¬ G 2 j = G 2 b then s else (if G 22 (9 * f.toNat + j) = -1 then s else w32 (s + 1))) 0 b) (G 7 (G 2 b).toNat) := by
  obtain ⟨p1, p2, ⟨p3, p4, p5, p6, p7, p8⟩, p9, p10, p11, p12, p13, p14⟩ := h.1.1
  have hd : ∀ j : Nat, j < n → f_X0_districtOf H (j : Int) = G 2 j := by
    intro j hj
    have := fa_X0_has H (j : Int)
    rw [hH 1 (by decide)] at this
    unfold f_X0_districtOf
    rw [if_neg (by omega), st_nat, hH 2 (by decide)]
  have hcl : ∀ j : Nat, j < 9 → f_X4_clauseOf H (j : Int) f = G 22 (9 * f.toNat + j) := fun j hj => by rw [cl_of hf hj, hH 22 (by decide)]
  have h2b := p9 b
  have hpa : f_X0_paceOf H (G 2 b) = G 7 (G 2 b).toNat := by
    have := fa_X0_isDistrict H (G 2 b)
    unfold f_X0_paceOf
    rw [if_neg (by omega), hH 7 (by decide)]
  have h7 := p12 (G 2 b).toNat (by omega)
  unfold f_X11_dueOf
  rw [hcl b (by omega), hd b hb, hpa]
  by_cases hv : G 22 (9 * f.toNat + b) = -1
  · rw [if_neg (fun q => q hv), if_pos hv]
  · rw [if_pos hv, if_neg hv, if_neg (by omega), st_nat]
    have e : fd (g_X11_dueOf_30 H (b : Int) f) 0 b = fd (fun j s => if ¬ G 2 j = G 2 b then s else (if G 22 (9 * f.toNat + j) = -1 then s else w32 (s + 1))) 0 b := by
      refine fd_congr (fun j s hj => ?_)
      unfold g_X11_dueOf_30
      rw [hd j (by omega), hd b hb, hcl j (by omega)]
    rw [e]
theorem due_r (h : Cpl c G) (hn : G 1 6 = (n : Int)) (hf : 0 ≤ f ∧ f < 26) (hm : G 23 f.toNat = 1) {b : Nat} (hb : b < n) {H : mG} (hH : ∀ k, k ∈ ([94, 99, 105] : List Nat) → H k = G k) : f_X12_due H (b : Int) f = mDiv (fd (fun j s => if ¬ G 2 j = G 2 b then s else (if G 22 (9 * f.toNat + j) = -1 then s else w32 (s + 1))) 0 b) (G 7 (G 2 b).toNat) := by
  obtain ⟨p1, p2, ⟨p3, p4, p5, p6, p7, p8⟩, p9, p10, p11, p12, p13, p14⟩ := h.1.1
  have hg := (h.2.2.2.1.2.2 f.toNat (by omega)).2.2.2.2 hm
  unfold f_X12_due
  rw [st_nat, hH 94 (by decide), hH 99 (by decide), p3, p8]
  have e : fd (g_X12_due_5 H (b : Int) f) 0 b = fd (fun j s => if ¬ G 2 j = G 2 b then s else (if G 22 (9 * f.toNat + j) = -1 then s else w32 (s + 1))) 0 b := by
    refine fd_congr (fun j s hj => ?_)
    unfold g_X12_due_5
    rw [st_nat, st_nat, (ix_g hf (show j < 9 by omega)).1, st_nat, hH 94 (by decide), hH 105 (by decide), p3, hg j (by omega)]
  rw [e]
theorem cnt_r {p q : Nat → Prop} [DecidablePred p] [DecidablePred q] (m : Nat) (hm : m ≤ 100) : 0 ≤ fd (fun j s => if ¬ p j then s else (if q j then s else w32 (s + 1))) (0 : Int) m ∧ fd (fun j s => if ¬ p j then s else (if q j then s else w32 (s + 1))) (0 : Int) m ≤ (m : Int) := by
  induction m with
  | zero => exact ⟨Int.le_refl _, Int.le_refl _⟩
  | succ m ih =>
    have ih := ih (by omega)
    rw [fd_s]
    by_cases h1 : p m
    · rw [if_neg (fun z => z h1)]
      by_cases h2 : q m
      · rw [if_pos h2]; omega
      · rw [if_neg h2, w32_i (by omega) (by omega)]; omega
    · rw [if_pos h1]; omega
theorem pm_given (h : Cpl c G) (b f w : Int) : bth 60 M_X11_given M_X12_given [mI b, mI f, mI w] G := by
  have hc := Cpl_c h
  have hl := Cpl_l h
  obtain ⟨p1, p2, ⟨p3, p4, p5, p6, p7, p8⟩, p9, p10, p11, p12, p13, p14⟩ := h.1.1
  obtain ⟨d1, d2, d3, d4, d5, d6, d7, d8, d9⟩ := h.2.2.1
  obtain ⟨q1, q2, q3⟩ := h.2.2.2.1
  refine bth_mk (fun _ z => sp_X11_given hc (Cpl_p h) d1.2 d3.2 h.2.2.2.2.1 h.1.2.1.1.2 p1.2 z) (fun _ z => sp_X12_given hl (by rw [p2]; exact p1) (by rw [h.1.2.1.2.1]; exact h.1.2.1.1.2) (fun i _ => by rw [p3]; exact p9 i) (fun i hi => by rw [p8]; exact (p12 i hi).1) q2 (by rw [d2]; exact d1.2) (by rw [d4]; exact d3.2) z) ?_ ⟨c, h⟩
  have f1 := fa_X0_has G b
  have f2 := fa_X12_isBoard G b
  rw [p2] at f2
  have f3 := fa_X12_isFortnight G f
  unfold f_X12_given f_X11_given
  by_cases z1 : 0 ≤ b ∧ b < G 1 6
  · by_cases z2 : 0 ≤ f ∧ f < 26
    · rw [if_neg (show ¬ f_X12_isBoard G b = 0 by omega), if_neg (show ¬ f_X12_isFortnight G f = 0 by omega), if_neg (show ¬ f_X0_has G b = 0 by omega), made_f z2, q1]
      obtain ⟨bn, hbn⟩ : ∃ bn : Nat, b = (bn : Int) := ⟨b.toNat, by omega⟩
      obtain ⟨n, hn⟩ : ∃ n : Nat, G 1 6 = (n : Int) := ⟨(G 1 6).toNat, by omega⟩
      subst hbn
      have hb9 : bn < 9 := by omega
      obtain ⟨t1, t2, t3, t4, t5⟩ := q3 f.toNat (by omega)
      by_cases z3 : G 23 f.toNat = 0
      · rw [if_pos z3, if_pos z3, if_neg (show ¬ ¬ (0 : Int) = 0 from fun y => y rfl)]
      · have hm : G 23 f.toNat = 1 := by omega
        have eg := t5 hm bn (by omega)
        rw [if_neg z3, if_neg z3, if_pos (show ¬ (1 : Int) = 0 by decide), (ix_g z2 hb9).1, st_nat, eg, cl_of z2 hb9]
        have t3b := t3 bn hb9
        generalize hv : G 22 (9 * f.toNat + bn) = v at *
        by_cases w0 : w = 0
        · rw [if_neg (by omega), if_pos (by omega), if_pos w0, if_pos w0]
        · by_cases w1 : w = 1
          · rw [if_neg (by omega), if_pos (by omega), if_neg w0, if_pos w1, if_neg w0, if_pos w1]
            by_cases hv1 : v = -1
            · rw [if_neg (show ¬ ¬ v = -1 from fun y => y hv1), hv1, fa_own_none]
            · rw [if_pos hv1]
              obtain ⟨k, hk⟩ : ∃ k : Nat, v = (k : Int) := ⟨v.toNat, by omega⟩
              rw [hk, ix_k hl (by omega), st_nat, st_nat, at_owner d3.2 (by omega)]
              exact (d6 k (by omega)).1.1
          · by_cases w2 : w = 2
            · rw [if_neg (by omega), if_pos (by omega), if_neg w0, if_neg w1, if_pos w2, if_neg w0, if_neg w1, if_pos w2]
              by_cases hv1 : v = -1
              · rw [if_neg (show ¬ ¬ v = -1 from fun y => y hv1), hv1]
                have := fa_X1_hasClause c G (-1)
                unfold f_X1_worthOf
                rw [if_pos (by omega)]
              · rw [if_pos hv1]
                obtain ⟨k, hk⟩ : ∃ k : Nat, v = (k : Int) := ⟨v.toNat, by omega⟩
                rw [hk, ix_k hl (by omega), st_nat, st_nat, at_worth d3.2 (by omega)]
                have hk6 := (d6 k (by omega)).2
                have hk18 : G (c + 4) k = 18 := by
                  rw [hk] at t3b
                  rcases t3b with y | y
                  · omega
                  · have := y.2.2.1; rw [st_nat] at this; exact this
                omega
            · by_cases w3 : w = 3
              · rw [if_neg (by omega), if_pos (by omega), if_neg w0, if_neg w1, if_neg w2, if_neg w0, if_neg w1, if_neg w2, if_pos w3, due_eq h hn z2 (by omega) (fun _ _ => rfl), hv, due_r h hn z2 hm (by omega) (fun _ _ => rfl)]
                by_cases hv1 : v = -1
                · rw [if_neg (show ¬ ¬ v = -1 from fun y => y hv1), if_pos hv1]
                · rw [if_pos hv1, if_neg hv1]
              · by_cases y1 : w < 0
                · rw [if_pos y1, if_neg w0, if_neg w1, if_neg w2, if_neg w3]
                · rw [if_neg y1, if_neg (show ¬ w ≤ 3 by omega), if_neg w0, if_neg w1, if_neg w2, if_neg w3]
    · rw [if_neg (by omega), if_pos (by omega), if_neg (by omega), made_no z2, if_neg (show ¬ ¬ (0 : Int) = 0 from fun y => y rfl)]
  · rw [if_pos (by omega), if_pos (by omega)]
end ASK
