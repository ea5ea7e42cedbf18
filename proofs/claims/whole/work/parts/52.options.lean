/-! ===== the class's options are the reference's choices ===== -/
theorem lost_eq {G : mG} {b f n : Int} : f_X12_isLost G b f n = b01 (fl (G 100) (G 101) (G 102) b f n.toNat) := by
  have key : ∀ m, (fe (g_X12_isLost_3 G b f n) () m = Sum.inl () ∧ fl (G 100) (G 101) (G 102) b f m = false) ∨ (fe (g_X12_isLost_3 G b f n) () m = Sum.inr 1 ∧ fl (G 100) (G 101) (G 102) b f m = true) := by
    intro m
    induction m with
    | zero => exact Or.inl ⟨rfl, rfl⟩
    | succ m ih =>
      rw [fe_s]
      rcases ih with ⟨e1, e2⟩ | ⟨e1, e2⟩
      · rw [e1]
        show (g_X12_isLost_3 G b f n m () = _ ∧ (fl (G 100) (G 101) (G 102) b f m || (decide (G 100 m = 4) && (decide (G 101 m = b) && decide (G 102 m ≤ f)))) = false) ∨ (g_X12_isLost_3 G b f n m () = _ ∧ (fl (G 100) (G 101) (G 102) b f m || (decide (G 100 m = 4) && (decide (G 101 m = b) && decide (G 102 m ≤ f)))) = true)
        rw [e2]
        unfold g_X12_isLost_3
        rw [st_nat]
        by_cases h1 : G 100 m = 4
        · rw [if_neg (fun q => q h1)]
          by_cases h2 : G 101 m = b
          · rw [if_neg (fun q => q h2)]
            by_cases h3 : f < G 102 m
            · rw [if_pos h3, decide_eq_false (show ¬ G 102 m ≤ f by omega)]; simp
            · rw [if_neg h3, decide_eq_true h1, decide_eq_true h2, decide_eq_true (show G 102 m ≤ f by omega)]; simp
          · rw [if_pos h2, decide_eq_false h2]; simp
        · rw [if_pos h1, decide_eq_false h1]; simp
      · rw [e1]
        show (_ ∧ (fl (G 100) (G 101) (G 102) b f m || (decide (G 100 m = 4) && (decide (G 101 m = b) && decide (G 102 m ≤ f)))) = false) ∨ (_ ∧ (fl (G 100) (G 101) (G 102) b f m || (decide (G 100 m = 4) && (decide (G 101 m = b) && decide (G 102 m ≤ f)))) = true)
        rw [e2]
        exact Or.inr ⟨rfl, rfl⟩
  unfold f_X12_isLost
  rcases key n.toNat with ⟨e1, e2⟩ | ⟨e1, e2⟩
  · rw [e1, e2]; rfl
  · rw [e1, e2]; rfl
/-- a class heap beside the coupled one: boards, facts, contracts and what is given are the same -/
def opX (c : Nat) (G s : mG) : Prop := (∀ k, k < 13 → k ≠ 0 → s k = G k) ∧ s 22 = G 22 ∧ ∀ i, i < 12 → s (c + i) = G (c + i)
/-- the reference's first bar, by clause -/
def opV (G : mG) (nk b w : Nat) : Int := fs (pR (e_X12_asksBoard G ((b : Nat) : Int)) 1 ((b : Nat) : Int) (G 78 (rfL G + w))) nk
section OPT
variable {c : Nat} {G : mG} {f nf : Int} {n nk : Nat}
theorem op_force (h : Cpl c G) {x : Int} (hx : 0 ≤ x ∧ x < G c 11) : f_X1_isInForce c G x f = f_X12_isForce G x f := by
  have hl := Cpl_l h
  obtain ⟨d1, d2, d3, d4, d5, d6, d7, d8, d9⟩ := h.2.2.1
  obtain ⟨k, hk⟩ : ∃ k : Nat, x = (k : Int) := ⟨x.toNat, by omega⟩
  subst hk
  have hh := fa_X1_hasCampaign c G (k : Int)
  have e := d5 k (by omega)
  have ix : w32 ((w32 (8 * (G 64 18))) + (k : Int)) = ((8 * (G 64 18).toNat + k : Nat) : Int) := by
    rw [w32_i (x := 8 * G 64 18) (by omega) (by omega), w32_i (by omega) (by omega)]; omega
  unfold f_X1_isInForce f_X12_isForce
  rw [if_neg (by omega), st_nat, ix, st_nat, e.1, e.2]
/-- the reference's first bar is what every such heap says -/
theorem op_bv (h : Cpl c G) (hn : G 1 6 = (n : Int)) (hnk : (nk : Int) = G c 12) {b w : Nat} (hb : b < n) {Hj : mG} (hX : lsX G Hj) : fs (pR (e_X12_asksBoard Hj ((b : Nat) : Int)) 1 ((b : Nat) : Int) (G 78 (rfL G + w))) nk = opV G nk b w := by
  have hb9 : (0 : Int) ≤ ((b : Nat) : Int) ∧ ((b : Nat) : Int) < G 1 6 := by omega
  have h9 := h.1.1.1
  obtain ⟨r1, r2, r3, r4, r5, r6, r7, r8⟩ := regard_eq (G := G) (b := ((b : Nat) : Int)) ⟨hb9.1, hb9.2, by omega⟩
  have hc := Cpl_c h
  rw [opV, ← bar_eq h hb9 hnk (fun i hi => r8 _ (by omega)) r1 r2 r3 r4 r5 r6 r7 (fun k hk => hX k (fun a ha => by simp only [List.mem_cons, List.not_mem_nil, or_false] at hk ha; omega)) (by rw [hX.k 64 (by decide)])]
  exact bar_eq h hb9 hnk (fun i hi => r8 _ (by omega)) r1 r2 r3 r4 r5 r6 r7 (fun k hk => rfl) rfl
theorem op_sw (h : Cpl c G) (hn : G 1 6 = (n : Int)) (hnk : (nk : Int) = G c 12) {b w : Nat} (hb : b < n) (hw : w < nk) {s R : mG} (hs : opX c G s) (hR : ∀ k, k ≠ 24 → k ≠ 30 → R k = s k) (u1 : R 24 1 = G 2 b) (u2 : R 24 2 = G 3 b) (u3 : R 24 3 = G 4 b) (u4 : R 24 4 = G 5 b) (u5 : R 24 5 = 0) (u6 : R 24 6 = 0) (u7 : R 24 7 = 0) : sw c R ((b : Nat) : Int) f w = lsC G f (opV G nk b) b w := by
  have hc := Cpl_c h
  have h9 := h.1.1.1
  have hB := h.1.1
  obtain ⟨d1, d2, d3, d4, d5, d6, d7, d8, d9⟩ := h.2.2.1
  have eR : ∀ i, i < 12 → R (c + i) = G (c + i) := fun i hi => by rw [hR _ (by omega) (by omega)]; exact hs.2.2 i hi
  have e0 : R c = G c := eR 0 (by omega)
  have hwR : (w : Int) < R c 12 := by rw [e0]; omega
  have h12 : R c 12 ≤ 40 := by rw [e0]; omega
  have hk := d6 w (by omega)
  have hhas : f_X0_has R ((b : Nat) : Int) = 1 := by
    have := fa_X0_has R ((b : Nat) : Int)
    rw [hR 1 (by decide) (by decide), hs.1 1 (by decide) (by decide)] at this
    omega
  have ed : f_X0_districtOf R ((b : Nat) : Int) = G 2 b := by
    unfold f_X0_districtOf
    rw [hhas, if_neg (by decide), st_nat, hR 2 (by decide) (by decide), hs.1 2 (by decide) (by decide)]
  have hfo : f_X1_isInForce c R (G (c + 5) w) f = f_X12_isForce G (G (c + 5) w) f := by
    rw [force_to (x := G (c + 5) w) e0 (eR 1 (by omega)) (eR 2 (by omega))]
    exact op_force h hk.1.2
  have hbar : bC c R (G (c + 5) w) = opV G nk b w := by
    unfold bC
    rw [opV, ← show G 78 (rfL G + w) = G (c + 5) w from hk.1.1]
    exact bar_eq h ⟨by omega, by omega⟩ hnk eR u1 u2 u3 u4 u5 u6 u7 (fun k hk => rfl) rfl
  unfold sw lsC
  rw [at_kind h12 hwR, at_district h12 hwR, at_owner h12 hwR, eR 4 (by omega), eR 5 (by omega), eR 7 (by omega), ed, hfo, hbar, hB.2.2.1.1, show G 78 (rfL G + w) = G (c + 5) w from hk.1.1]
  have es : (G (c + 4) w = 18) ↔ (G 77 (rfL G + w) = 0) := by
    have := hk.2
    unfold rfL
    omega
  by_cases hz : G 77 (rfL G + w) = 0
  · have e80 : G 80 (rfL G + w) = G (c + 7) w := by
      have := hk.2
      unfold rfL at *
      omega
    rw [decide_eq_true (es.mpr hz), decide_eq_true hz, e80]
    cases decide (G (c + 7) w = G 2 b) <;> simp
  · rw [decide_eq_false hz, decide_eq_false (fun q => hz (es.mp q))]
    rfl
end OPT
