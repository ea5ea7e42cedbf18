/-! ===== takers: how many boards from one on have an option ===== -/
/-- how often w is among the options of board b -/
def oc (G : mG) (b w : Nat) : Int := cn (fun i => decide (G 31 (5 * b + i) = (w : Int))) (G 30 b).toNat
def tkM (G : mG) : Nat → Nat → Nat → Int
  | 0, _, _ => 0
  | m + 1, b, w => tkM G m (b + 1) w + oc G b w
theorem ct_copy {G s : mG} {j b : Nat} (hA : w32 (mMin ((e_fill_34 G 0) 29 4) 9 - 1) - ((j : Nat) : Int) = (b : Int)) (hb : b < 9) : ∀ m, m ≤ 40 → (∀ w, w < m → (fd (g_X8_countTakers_31 G j s) s m) 34 (40 * b + w) = s 34 (40 * (b + 1) + w)) ∧ (∀ i, (i < 40 * b ∨ 40 * b + m ≤ i) → (fd (g_X8_countTakers_31 G j s) s m) 34 i = s 34 i) ∧ ∀ k, k ≠ 34 → (fd (g_X8_countTakers_31 G j s) s m) k = s k := by
  intro m
  induction m with
  | zero => intro _; exact ⟨fun w hw => absurd hw (by omega), fun _ _ => rfl, fun _ _ => rfl⟩
  | succ m ih =>
    intro hm
    obtain ⟨i1, i2, i3⟩ := ih (by omega)
    rw [fd_s]
    generalize fd (g_X8_countTakers_31 G j s) s m = z at *
    have e1 : w32 (w32 ((w32 (mMin ((e_fill_34 G 0) 29 4) 9 - 1) - ((j : Nat) : Int)) * 40) + ((m : Nat) : Int)) = ((40 * b + m : Nat) : Int) := by
      rw [hA, w32_i (x := (b : Int) * 40) (by omega) (by omega), w32_i (by omega) (by omega)]; omega
    have e2 : w32 (w32 (w32 ((w32 (mMin ((e_fill_34 G 0) 29 4) 9 - 1) - ((j : Nat) : Int)) * 40) + 40) + ((m : Nat) : Int)) = ((40 * (b + 1) + m : Nat) : Int) := by
      rw [hA, w32_i (x := (b : Int) * 40) (by omega) (by omega), w32_i (x := (b : Int) * 40 + 40) (by omega) (by omega), w32_i (by omega) (by omega)]; omega
    unfold g_X8_countTakers_31
    rw [e1, e2, st_nat, st_nat]
    refine ⟨fun w hw => ?_, fun i hi => ?_, fun k hk => by rw [gs_ne hk]; exact i3 k hk⟩
    · by_cases hwm : w = m
      · rw [hwm, gs_at]; exact i2 _ (by omega)
      · rw [gs_at_ne (by omega)]; exact i1 w (by omega)
    · rw [gs_at_ne (by omega)]; exact i2 i (by omega)
theorem ct_add {G s : mG} {j b : Nat} (hA : w32 (mMin ((e_fill_34 G 0) 29 4) 9 - 1) - ((j : Nat) : Int) = (b : Int)) (hb : b < 9) {s0 : mG} (h30 : s0 30 = G 30) (h31 : s0 31 = G 31) (hop : 0 ≤ G 30 b ∧ G 30 b ≤ 5) (hcl : ∀ i, i < (G 30 b).toNat → G 31 (5 * b + i) < 40) (hr : ∀ w, w < 40 → 0 ≤ s0 34 (40 * b + w) ∧ s0 34 (40 * b + w) ≤ 1000) :
    (∀ w, w < 40 → (brk (fe (g_X8_countTakers_64 G j s) s0 5)) 34 (40 * b + w) = s0 34 (40 * b + w) + oc G b w) ∧ (∀ i, (i < 40 * b ∨ 40 * b + 40 ≤ i) → (brk (fe (g_X8_countTakers_64 G j s) s0 5)) 34 i = s0 34 i) ∧ ∀ k, k ≠ 34 → (brk (fe (g_X8_countTakers_64 G j s) s0 5)) k = s0 k := by
  have key : ∀ m, m ≤ (G 30 b).toNat → ∃ z, fe (g_X8_countTakers_64 G j s) s0 m = Sum.inl z ∧ (∀ w, w < 40 → z 34 (40 * b + w) = s0 34 (40 * b + w) + cn (fun i => decide (G 31 (5 * b + i) = (w : Int))) m) ∧ (∀ i, (i < 40 * b ∨ 40 * b + 40 ≤ i) → z 34 i = s0 34 i) ∧ ∀ k, k ≠ 34 → z k = s0 k := by
    intro m
    induction m with
    | zero => intro _; exact ⟨s0, rfl, fun w _ => (Int.add_zero _).symm, fun _ _ => rfl, fun _ _ => rfl⟩
    | succ m ih =>
      intro hm
      obtain ⟨z, hz, i1, i2, i3⟩ := ih (by omega)
      rw [fe_inl hz]
      have e30 : z 30 = G 30 := (i3 30 (by decide)).trans h30
      have e31 : z 31 = G 31 := (i3 31 (by decide)).trans h31
      have eb : Int.toNat (w32 (mMin ((e_fill_34 G 0) 29 4) 9 - 1) - ((j : Nat) : Int)) = b := by rw [hA]; omega
      have e5 : w32 (w32 ((w32 (mMin ((e_fill_34 G 0) 29 4) 9 - 1) - ((j : Nat) : Int)) * 5) + ((m : Nat) : Int)) = ((5 * b + m : Nat) : Int) := by
        rw [hA, w32_i (x := (b : Int) * 5) (by omega) (by omega), w32_i (by omega) (by omega)]; omega
      have e40 : ∀ x : Int, 0 ≤ x → x < 40 → w32 (w32 ((w32 (mMin ((e_fill_34 G 0) 29 4) 9 - 1) - ((j : Nat) : Int)) * 40) + x) = ((40 * b + x.toNat : Nat) : Int) := by
        intro x h1 h2
        rw [hA, w32_i (x := (b : Int) * 40) (by omega) (by omega), w32_i (by omega) (by omega)]; omega
      have hc := hcl m (by omega)
      unfold g_X8_countTakers_64
      rw [eb, e30, e5, st_nat, e31, if_neg (by omega), if_neg (by omega)]
      have cns : ∀ w : Nat, cn (fun i => decide (G 31 (5 * b + i) = (w : Int))) (m + 1) = cn (fun i => decide (G 31 (5 * b + i) = (w : Int))) m + b01 (decide (G 31 (5 * b + m) = (w : Int))) := fun w => rfl
      by_cases hneg : G 31 (5 * b + m) < 0
      · rw [if_pos hneg]
        refine ⟨z, rfl, fun w hw => ?_, i2, i3⟩
        rw [cns, i1 w hw, decide_eq_false (by omega)]
        show _ = _ + (_ + 0)
        omega
      · rw [if_neg hneg, if_neg (by omega), e40 _ (by omega) hc, st_nat]
        refine ⟨_, rfl, fun w hw => ?_, fun i hi => ?_, fun k hk => by rw [gs_ne hk]; exact i3 k hk⟩
        · rw [cns]
          by_cases hw2 : G 31 (5 * b + m) = (w : Int)
          · have ew : (G 31 (5 * b + m)).toNat = w := by omega
            have hcn := cn_r (fun i => decide (G 31 (5 * b + i) = (w : Int))) m
            have h0 := hr w hw
            rw [ew, gs_at, i1 w hw, w32_i (by omega) (by omega), decide_eq_true hw2]
            show _ = _ + (_ + 1)
            omega
          · rw [gs_at_ne (by omega), i1 w hw, decide_eq_false hw2]
            show _ = _ + (_ + 0)
            omega
        · rw [gs_at_ne (by omega)]; exact i2 i hi
  obtain ⟨z, hz, i1, i2, i3⟩ := key _ (Nat.le_refl _)
  have e30 : z 30 = G 30 := (i3 30 (by decide)).trans h30
  have eb : Int.toNat (w32 (mMin ((e_fill_34 G 0) 29 4) 9 - 1) - ((j : Nat) : Int)) = b := by rw [hA]; omega
  have hend : brk (fe (g_X8_countTakers_64 G j s) s0 5) = z := by
    by_cases h5 : (G 30 b).toNat = 5
    · rw [← h5, hz]; rfl
    · have h1 : fe (g_X8_countTakers_64 G j s) s0 ((G 30 b).toNat + 1) = Sum.inr z := by
        rw [fe_inl hz]
        unfold g_X8_countTakers_64
        rw [eb, e30, if_pos (by omega)]
      have h2 := fe_inr h1 (5 - ((G 30 b).toNat + 1))
      rw [show (G 30 b).toNat + 1 + (5 - ((G 30 b).toNat + 1)) = 5 by omega] at h2
      rw [h2]; rfl
  rw [hend]
  exact ⟨i1, i2, i3⟩
theorem takers_eq {G : mG} {n : Nat} (hn : n ≤ 9) (h4 : G 29 4 = (n : Int)) (hop : ∀ b, b < n → 0 ≤ G 30 b ∧ G 30 b ≤ 5) (hcl : ∀ b i, b < n → i < (G 30 b).toNat → G 31 (5 * b + i) < 40) :
    (∀ b w, b ≤ n → w < 40 → (e_X8_countTakers G) 34 (40 * b + w) = tkM G (n - b) b w) ∧ ∀ k, k ≠ 34 → (e_X8_countTakers G) k = G k := by
  have oc_r : ∀ b w, b < n → 0 ≤ oc G b w ∧ oc G b w ≤ 5 := by
    intro b w hb
    have := cn_r (fun i => decide (G 31 (5 * b + i) = (w : Int))) (G 30 b).toNat
    have := hop b hb
    unfold oc
    omega
  have tk_r : ∀ m b w, b + m ≤ n → 0 ≤ tkM G m b w ∧ tkM G m b w ≤ 5 * (m : Int) := by
    intro m
    induction m with
    | zero => intro b w _; exact ⟨Int.le_refl _, by show (0 : Int) ≤ _; omega⟩
    | succ m ih =>
      intro b w hb
      have h1 := ih (b + 1) w (by omega)
      have h2 := oc_r b w (by omega)
      show 0 ≤ tkM G m (b + 1) w + oc G b w ∧ tkM G m (b + 1) w + oc G b w ≤ _
      omega
  have hA : ∀ j : Nat, j < n → w32 (mMin ((e_fill_34 G 0) 29 4) 9 - 1) - ((j : Nat) : Int) = ((n - 1 - j : Nat) : Int) := by
    intro j hj
    rw [fr_fill_34 (by decide), h4, mMin_l (by omega), w32_i (by omega) (by omega)]; omega
  have key := fd_inv (g := g_X8_countTakers_20 G) (a := e_fill_34 G 0) (n := n) (fun j s => (∀ b w, n - j ≤ b → b ≤ n → w < 40 → s 34 (40 * b + w) = tkM G (n - b) b w) ∧ ∀ k, k ≠ 34 → s k = G k)
    ⟨fun b w h1 h2 hw => by
        have hb : b = n := by omega
        rw [hb, Nat.sub_self, e_fill_34_eq, gf_at (by omega)]
        rfl, fun k hk => fr_fill_34 (fun a ha => by simp only [List.mem_cons, List.not_mem_nil, or_false] at ha; omega)⟩
    (by
      intro j s hj hI
      obtain ⟨i1, i2⟩ := hI
      obtain ⟨b, hbj⟩ : ∃ b, n - 1 - j = b := ⟨_, rfl⟩
      have hAj := hA j hj
      rw [hbj] at hAj
      have hb9 : b < 9 := by omega
      obtain ⟨c1, c2, c3⟩ := ct_copy (G := G) (s := s) (j := j) (b := b) hAj hb9 40 (Nat.le_refl _)
      have row : ∀ w, w < 40 → (fd (g_X8_countTakers_31 G j s) s 40) 34 (40 * b + w) = tkM G (n - (b + 1)) (b + 1) w := fun w hw => by rw [c1 w hw]; exact i1 (b + 1) w (by omega) (by omega) hw
      obtain ⟨a1, a2, a3⟩ := ct_add (G := G) (s := s) (j := j) (b := b) hAj hb9 (s0 := fd (g_X8_countTakers_31 G j s) s 40) ((c3 30 (by decide)).trans (i2 30 (by decide))) ((c3 31 (by decide)).trans (i2 31 (by decide))) (hop b (by omega)) (fun i hi => hcl b i (by omega) hi) (fun w hw => by
        rw [row w hw]
        have := tk_r (n - (b + 1)) (b + 1) w (by omega)
        omega)
      show (∀ b w, n - (j + 1) ≤ b → b ≤ n → w < 40 → (brk (fe (g_X8_countTakers_64 G j s) (fd (g_X8_countTakers_31 G j s) s 40) 5)) 34 (40 * b + w) = tkM G (n - b) b w) ∧ ∀ k, k ≠ 34 → (brk (fe (g_X8_countTakers_64 G j s) (fd (g_X8_countTakers_31 G j s) s 40) 5)) k = G k
      refine ⟨fun b' w h1 h2 hw => ?_, fun k hk => by rw [a3 k hk, c3 k hk]; exact i2 k hk⟩
      by_cases hbb : b' = b
      · rw [hbb, a1 w hw, row w hw, show n - b = (n - (b + 1)) + 1 by omega]
        rfl
      · rw [a2 _ (by omega), c2 _ (by omega)]
        exact i1 b' w (by omega) h2 hw)
  unfold e_X8_countTakers
  rw [h4, st_nat]
  exact ⟨fun b w hb hw => key.1 b w (by omega) hb hw, key.2⟩
