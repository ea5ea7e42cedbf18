/-! ===== the class's search: what it keeps on its way ===== -/
theorem proc_val {P : sP} {m b : Nat} {g ah : Int} {lf pk : Nat → Int} {A : sA} : (proc P m b g ah lf pk A).1 = A.1 ∨ ∃ v, rc P m b ah lf v ∧ (proc P m b g ah lf pk A).1 = g + v := by
  induction m generalizing b g ah lf pk A with
  | zero =>
    unfold proc
    by_cases h : A.1 < g
    · rw [if_pos h]; exact Or.inr ⟨0, rfl, by show g = g + 0; omega⟩
    · rw [if_neg h]; exact Or.inl rfl
  | succ m ih =>
    unfold proc
    refine fd_inv (g := fun i A => bif sOk P b ah lf (scl P b i) then proc P m (b + 1) (g + sgn P b i) (sow P (scl P b i)) (sUse lf (scl P b i)) (setN pk b (scl P b i)) A else A) (a := A) (n := sop P b) (fun j s => s.1 = A.1 ∨ ∃ v, rc P (m + 1) b ah lf v ∧ s.1 = g + v) (Or.inl rfl) ?_
    intro j s hj hI
    show (bif sOk P b ah lf (scl P b j) then proc P m (b + 1) (g + sgn P b j) (sow P (scl P b j)) (sUse lf (scl P b j)) (setN pk b (scl P b j)) s else s).1 = A.1 ∨ ∃ v, rc P (m + 1) b ah lf v ∧ (bif sOk P b ah lf (scl P b j) then proc P m (b + 1) (g + sgn P b j) (sow P (scl P b j)) (sUse lf (scl P b j)) (setN pk b (scl P b j)) s else s).1 = g + v
    cases ho : sOk P b ah lf (scl P b j) with
    | false => exact hI
    | true =>
      simp only [cond_true]
      rcases ih (b := b + 1) (g := g + sgn P b j) (ah := sow P (scl P b j)) (lf := sUse lf (scl P b j)) (pk := setN pk b (scl P b j)) (A := s) with h | ⟨v, h1, h2⟩
      · rw [h]; exact hI
      · exact Or.inr ⟨v + sgn P b j, ⟨j, hj, ho, by rw [show v + sgn P b j - sgn P b j = v by omega]; exact h1⟩, by rw [h2]; omega⟩
theorem rc_bd {P : sP} {n : Nat} (hg : ∀ b i, b < n → i < sop P b → -1 ≤ sgn P b i ∧ sgn P b i ≤ 160000) {m b : Nat} (hb : b + m = n) {ah : Int} {lf : Nat → Int} {v : Int} (h : rc P m b ah lf v) : -(m : Int) ≤ v ∧ v ≤ 160000 * (m : Int) := by
  induction m generalizing b ah lf v with
  | zero => have h : v = 0 := h; omega
  | succ m ih =>
    obtain ⟨i, hi, _, hr⟩ := h
    have h1 := ih (by omega) hr
    have h2 := hg b i (by omega) hi
    omega
/-- to leave all boards from b on empty is a way -/
theorem rc_ex {P : sP} {n : Nat} (h0 : ∀ b, b < n → ∃ i, i < sop P b ∧ scl P b i = -1) (hap : ∀ b x, (sbe P b && sap P x (sow P (-1))) = false) {m b : Nat} (hb : b + m = n) {ah : Int} {lf : Nat → Int} : ∃ v, rc P m b ah lf v := by
  induction m generalizing b ah lf with
  | zero => exact ⟨0, rfl⟩
  | succ m ih =>
    obtain ⟨i, hi, hc⟩ := h0 b (by omega)
    obtain ⟨v, hv⟩ := ih (b := b + 1) (by omega) (ah := sow P (scl P b i)) (lf := sUse lf (scl P b i))
    refine ⟨v + sgn P b i, i, hi, ?_, by rw [show v + sgn P b i - sgn P b i = v by omega]; exact hv⟩
    rw [hc]
    unfold sOk
    rw [hap]
    rfl
theorem fd_z {α : Type} (g : Nat → α → α) (a : α) : fd g a 0 = a := rfl
def cP (c : Nat) (G : mG) : sP := (fun b => (G 30 b).toNat, fun b i => G 31 (5 * b + i), fun b i => G 32 (5 * b + i), fun w => f_X1_ownerOf c G w, fun b => decide (f_X0_isBesideOneAhead G ((b : Nat) : Int) = 1), fun x y => decide (f_X1_areApart c G x y = 1))
def tkH (G : mG) (b w : Nat) : Int := G 34 (40 * b + w)
def kv (P : sP) (tk : Nat → Nat → Int) (nc : Nat) (lf : Nat → Int) (b : Nat) (ah : Int) : Int := kS tk lf b (bif sbe P b then ah + 1 else 0) nc * 9 + (b : Int)
def vS (ah : Int) (lf : Nat → Int) : Prop := (-1 ≤ ah ∧ ah < 8) ∧ ∀ w, w < 40 → 0 ≤ lf w
theorem kv_inj {P : sP} {tk : Nat → Nat → Int} {nc : Nat} (hnc : nc ≤ 40) {lf lf' : Nat → Int} {b b' : Nat} {ah ah' : Int} (hb : b < 9) (hb' : b' < 9) (hv : vS ah lf) (hv' : vS ah' lf') (h : kv P tk nc lf b ah = kv P tk nc lf' b' ah') : b = b' ∧ (sbe P b = true → ah' = ah) ∧ ∀ w, w < nc → 0 < tk b w → mMin (tk b w) (lf w) = mMin (tk b w) (lf' w) := by
  unfold kv at h
  have h9 := rad_inj (t := 8) (by omega) ⟨by omega, by omega⟩ ⟨by omega, by omega⟩ (show kS tk lf b (bif sbe P b then ah + 1 else 0) nc * (8 + 1) + (b : Int) = kS tk lf' b' (bif sbe P b' then ah' + 1 else 0) nc * (8 + 1) + (b' : Int) from h)
  obtain ⟨h1, h2⟩ := h9
  have hbb : b = b' := by omega
  subst hbb
  obtain ⟨e1, e2⟩ := kS_inj (fun w hw => ⟨hv.2 w (by omega), hv'.2 w (by omega)⟩) h1
  refine ⟨rfl, fun hbe => ?_, e2⟩
  rw [hbe] at e1
  simp only [cond_true] at e1
  omega
/-- what the search leaves as it is -/
def sStat (G0 H : mG) : Prop := (∀ k, (∀ a ∈ ([29, 33, 35, 36, 38, 39] : List Nat), k ≠ a) → H k = G0 k) ∧ ∀ j, j ≠ 15 → H 29 j = G0 29 j
theorem sStat.k {G0 H : mG} (h : sStat G0 H) (k : Nat) (hk : [29, 33, 35, 36, 38, 39].all (fun a => !(Nat.beq a k)) = true) : H k = G0 k :=
  h.1 k (fun a ha he => by
    have := List.all_eq_true.mp hk a ha
    rw [he] at this
    simp [Nat.beq_refl] at this)
/-- the numbers that the search rests on -/
def sF (c : Nat) (G0 : mG) (n : Nat) (lf0 : Nat → Int) (b0 : Nat) : Prop :=
  n ≤ 9 ∧ G0 29 4 = (n : Int) ∧ G0 29 3 = ((c + 5 : Nat) : Int) ∧ (0 ≤ G0 c 12 ∧ G0 c 12 ≤ 40) ∧
  (∀ b, b < n → 0 ≤ G0 30 b ∧ G0 30 b ≤ 5) ∧
  (∀ b i, b < n → i < (G0 30 b).toNat → (-1 ≤ G0 31 (5 * b + i) ∧ G0 31 (5 * b + i) < 40) ∧ (-1 ≤ G0 32 (5 * b + i) ∧ G0 32 (5 * b + i) ≤ 160000)) ∧
  (∀ x, -1 ≤ f_X1_ownerOf c G0 x ∧ f_X1_ownerOf c G0 x < 8) ∧
  (∀ b w, b < n → w < 40 → 0 ≤ tkH G0 (b + 1) w ∧ tkH G0 (b + 1) w ≤ tkH G0 b w ∧ tkH G0 b w ≤ 9) ∧
  (∀ b i, b < n → i < (G0 30 b).toNat → 0 ≤ G0 31 (5 * b + i) → tkH G0 (b + 1) (G0 31 (5 * b + i)).toNat + 1 ≤ tkH G0 b (G0 31 (5 * b + i)).toNat) ∧
  (∀ b w, b < n → (G0 c 12).toNat ≤ w → w < 40 → tkH G0 b w = 0) ∧
  (∀ b, b < n → sm (tkH G0) b (G0 c 12).toNat ≤ 36) ∧
  (∀ w, w < 40 → 0 ≤ lf0 w ∧ lf0 w ≤ 9999) ∧
  (∀ b, b0 < b → b ≤ n → dom (cP c G0) (n - b) b (-1) lf0 (G0 37 b) ∧ -10 ≤ G0 37 b ∧ G0 37 b ≤ 2000000)
theorem f_own_to {c : Nat} {G H : mG} (h0 : H c = G c) (h5 : H (c + 5) = G (c + 5)) (x : Int) : f_X1_ownerOf c H x = f_X1_ownerOf c G x := by
  unfold f_X1_ownerOf f_X1_hasClause
  rw [h0, h5]
theorem f_bes_to {G H : mG} (h1 : H 1 = G 1) (h6 : H 6 = G 6) (x : Int) : f_X0_isBesideOneAhead H x = f_X0_isBesideOneAhead G x := by
  unfold f_X0_isBesideOneAhead f_X0_has
  rw [h1, h6]
theorem f_apt_to {c : Nat} {G H : mG} (h0 : H c = G c) (h3 : H (c + 3) = G (c + 3)) (x y : Int) : f_X1_areApart c H x y = f_X1_areApart c G x y := by
  unfold f_X1_areApart f_X1_hasCampaign
  rw [h0, h3]
theorem fa_bes (G : mG) (x : Int) : f_X0_isBesideOneAhead G x = 1 ∨ f_X0_isBesideOneAhead G x = 0 := by
  unfold f_X0_isBesideOneAhead
  repeat' split
  all_goals omega
theorem cP_ap {c : Nat} {G : mG} (x : Int) : sap (cP c G) (-1) x = false := by
  show decide (f_X1_areApart c G (-1) x = 1) = false
  have h := fa_X1_hasCampaign c G (-1)
  refine decide_eq_false ?_
  unfold f_X1_areApart
  rw [if_pos (by omega)]
  decide
section SRC
variable {c : Nat} {G0 : mG} {n : Nat} {lf0 : Nat → Int} {b0 : Nat}
def SI (c : Nat) (G0 : mG) (n : Nat) (b : Nat) (H : mG) : Prop := ∀ r, r < 512 → ∀ b', b ≤ b' → b' < n → ∀ ah lf, vS ah lf → kv (cP c G0) (tkH G0) (G0 c 12).toNat lf b' ah = H 38 r → dom (cP c G0) (n - b') b' ah lf (H 29 15 - H 39 r)
def UN (c : Nat) (G0 : mG) (n : Nat) (b : Nat) (H H' : mG) : Prop := ∀ r, r < 512 → (∀ b', b ≤ b' → b' < n → ∀ ah lf, vS ah lf → kv (cP c G0) (tkH G0) (G0 c 12).toNat lf b' ah ≠ H' 38 r) → H' 38 r = H 38 r ∧ H' 39 r = H 39 r
def fPost (c : Nat) (G0 : mG) (n : Nat) (m b : Nat) (g ah : Int) (H G' : mG) : Prop :=
  sStat G0 G' ∧ G' 33 = H 33 ∧ (∀ i, i < 9 → (i < b ∨ n ≤ i) → G' 35 i = H 35 i) ∧
  G' 29 15 = (proc (cP c G0) m b g ah (H 33) (H 35) (H 29 15, H 36)).1 ∧
  (∀ i, i < 9 → G' 36 i = (proc (cP c G0) m b g ah (H 33) (H 35) (H 29 15, H 36)).2 i) ∧
  SI c G0 n b G' ∧ UN c G0 n b H G'
/-- the key as a number: nothing wraps -/
theorem key_eq (hc : c = 40 ∨ c = 52) (hF : sF c G0 n lf0 b0) {H : mG} (hS : sStat G0 H) {b : Nat} (hb : b < n) {ah : Int} (hv : vS ah (H 33)) : f_X8_keyOf c H ((b : Nat) : Int) ah = kv (cP c G0) (tkH G0) (G0 c 12).toNat (H 33) b ah := by
  obtain ⟨f1, f2, f3, f4, f5, f6, f7, f8, f9, f10, f11, f12, f13⟩ := hF
  have e34 := hS.k 34 (by decide)
  have ec : H c = G0 c := by rcases hc with rfl | rfl <;> exact hS.k _ (by decide)
  have ix : ∀ j : Nat, j < 40 → w32 (w32 (((b : Nat) : Int) * 40) + ((j : Nat) : Int)) = ((40 * b + j : Nat) : Int) := by
    intro j hj
    rw [w32_i (by rw [w32_i (by omega) (by omega)]; omega) (by rw [w32_i (by omega) (by omega)]; omega), w32_i (by omega) (by omega)]
    omega
  have hp36 : pd (tkH G0) b (G0 c 12).toNat ≤ 2 ^ 36 := Int.le_trans pd_two (by
    have h36 := f11 b hb
    have : (2 : Int) ^ sm (tkH G0) b (G0 c 12).toNat * 1 ≤ 2 ^ sm (tkH G0) b (G0 c 12).toNat * 2 ^ (36 - sm (tkH G0) b (G0 c 12).toNat) := by
      refine Int.mul_le_mul_of_nonneg_left ?_ (Int.le_of_lt (Int.pow_pos (by decide)))
      have hpp : (0 : Int) < 2 ^ (36 - sm (tkH G0) b (G0 c 12).toNat) := Int.pow_pos (by decide)
      omega
    rw [← Int.pow_add, show sm (tkH G0) b (G0 c 12).toNat + (36 - sm (tkH G0) b (G0 c 12).toNat) = 36 by omega] at this
    omega)
  have key : ∀ a : Int, 0 ≤ a → a ≤ 8 → ∀ k, k ≤ (G0 c 12).toNat → fd (g_X8_keyOf_23 c H ((b : Nat) : Int) ah) a k = kS (tkH G0) (H 33) b a k := by
    intro a ha1 ha2 k
    induction k with
    | zero => intro _; unfold kS; rw [fd_z, fd_z]
    | succ k ih =>
      intro hk
      rw [fd_s, ih (by omega)]
      show g_X8_keyOf_23 c H ((b : Nat) : Int) ah k (kS (tkH G0) (H 33) b a k) = (if 0 < tkH G0 b k then kS (tkH G0) (H 33) b a k * (tkH G0 b k + 1) + mMin (tkH G0 b k) (H 33 k) else kS (tkH G0) (H 33) b a k)
      unfold g_X8_keyOf_23
      rw [ix k (by omega), st_nat, st_nat, e34]
      rw [if_neg (show ¬ ((40 * b + k : Nat) : Int) < 0 by omega), if_neg (show ¬ ((400 : Nat) : Int) ≤ ((40 * b + k : Nat) : Int) by omega)]
      by_cases ht : 0 < tkH G0 b k
      · rw [if_pos ht, if_neg (show ¬ G0 34 (40 * b + k) ≤ 0 from Int.not_le.mpr ht)]
        have g9 := (f8 b k hb (by omega)).2.2
        have hm := mMin_r (t := tkH G0 b k) (l := H 33 k) (by omega) (hv.2 k (by omega))
        have hbd := kS_bd (tk := tkH G0) (lf := H 33) (b := b) (a := a) (n := k + 1) ha1 (fun w hw => hv.2 w (by omega))
        have hbk := kS_bd (tk := tkH G0) (lf := H 33) (b := b) (a := a) (n := k) ha1 (fun w hw => hv.2 w (by omega))
        have hks : kS (tkH G0) (H 33) b a (k + 1) = kS (tkH G0) (H 33) b a k * (tkH G0 b k + 1) + mMin (tkH G0 b k) (H 33 k) := by
          show (if 0 < tkH G0 b k then kS (tkH G0) (H 33) b a k * (tkH G0 b k + 1) + mMin (tkH G0 b k) (H 33 k) else kS (tkH G0) (H 33) b a k) = _
          exact if_pos ht
        have hple : pd (tkH G0) b (k + 1) ≤ pd (tkH G0) b (G0 c 12).toNat := by
          rw [show (G0 c 12).toNat = (k + 1) + ((G0 c 12).toNat - (k + 1)) by omega]
          exact pd_le
        have hpp := pd_pos (tk := tkH G0) (b := b) (n := k + 1)
        have hmul : (a + 1) * pd (tkH G0) b (k + 1) ≤ 9 * 2 ^ 36 := Int.mul_le_mul (by omega) (by omega) (by omega) (by omega)
        have h236 : (9 : Int) * 2 ^ 36 = 618475290624 := by decide
        have hq0 : 0 ≤ kS (tkH G0) (H 33) b a k * (tkH G0 b k + 1) := Int.mul_nonneg hbk.1 (by omega)
        have et : G0 34 (40 * b + k) = tkH G0 b k := rfl
        rw [et, w32_i (x := tkH G0 b k + 1) (by omega) (by omega)]
        rw [w64_id (x := kS (tkH G0) (H 33) b a k * (tkH G0 b k + 1)) ⟨by omega, by omega⟩]
        exact w64_id ⟨by omega, by omega⟩
      · rw [if_neg ht, if_pos (show G0 34 (40 * b + k) ≤ 0 from Int.not_lt.mp ht)]
  have fin1 : ∀ a : Int, 0 ≤ a → a ≤ 8 → w64 (w64 (fd (g_X8_keyOf_23 c H ((b : Nat) : Int) ah) a (Int.toNat (H c 12)) * 9) + ((b : Nat) : Int)) = kS (tkH G0) (H 33) b a (G0 c 12).toNat * 9 + (b : Int) := by
    intro a ha1 ha2
    rw [ec, key a ha1 ha2 _ (Nat.le_refl _)]
    have hbd := kS_bd (tk := tkH G0) (lf := H 33) (b := b) (a := a) (n := (G0 c 12).toNat) ha1 (fun w hw => hv.2 w (by omega))
    have hmul : (a + 1) * pd (tkH G0) b (G0 c 12).toNat ≤ 9 * 2 ^ 36 := Int.mul_le_mul (by omega) hp36 (by have := pd_pos (tk := tkH G0) (b := b) (n := (G0 c 12).toNat); omega) (by omega)
    have h236 : (9 : Int) * 2 ^ 36 = 618475290624 := by decide
    rw [w64_id (x := kS (tkH G0) (H 33) b a (G0 c 12).toNat * 9) ⟨by omega, by omega⟩]
    exact w64_id ⟨by omega, by omega⟩
  have hbes : f_X0_isBesideOneAhead H ((b : Nat) : Int) = f_X0_isBesideOneAhead G0 ((b : Nat) : Int) := f_bes_to (hS.k 1 (by decide)) (hS.k 6 (by decide)) _
  unfold f_X8_keyOf kv
  rw [hbes]
  rcases fa_bes G0 ((b : Nat) : Int) with hb1 | hb1
  · rw [if_neg (by omega), show sbe (cP c G0) b = true from decide_eq_true hb1, w32_i (x := ah + 1) (by have := hv.1; omega) (by have := hv.1; omega)]
    simp only [cond_true, ite_self]
    exact fin1 (ah + 1) (by have := hv.1; omega) (by have := hv.1; omega)
  · rw [if_pos hb1, show sbe (cP c G0) b = false from decide_eq_false (by omega)]
    simp only [cond_false, ite_self]
    exact fin1 0 (by omega) (by omega)
theorem outd (G : mG) (b y x : Int) : r_X8_isOutdone c G b y x = (0, G) ∨ ∃ r : Nat, r < 512 ∧ ((r_X8_isOutdone c G b y x = (1, G) ∧ G 38 r = f_X8_keyOf c G b x ∧ y ≤ G 39 r) ∨ r_X8_isOutdone c G b y x = (0, gs (gs G 38 r (f_X8_keyOf c G b x)) 39 r y)) := by
  unfold r_X8_isOutdone
  generalize w32 (mLushr (w64 (f_X8_keyOf c G b x * (-7046029254386353131))) 55) = R
  by_cases h1 : R < 0
  · rw [if_pos h1]; exact Or.inl rfl
  · rw [if_neg h1]
    by_cases h2 : ((512 : Nat) : Int) ≤ R
    · rw [if_pos h2]; exact Or.inl rfl
    · rw [if_neg h2, if_pos (show R < ((512 : Nat) : Int) by omega)]
      refine Or.inr ⟨R.toNat, by omega, ?_⟩
      by_cases h3 : mLcmp (G 38 R.toNat) (f_X8_keyOf c G b x) = 0
      · rw [if_neg (fun q => q h3)]
        by_cases h4 : G 39 R.toNat < y
        · rw [if_pos h4]; exact Or.inr rfl
        · rw [if_neg h4]
          refine Or.inl ⟨rfl, ?_, by omega⟩
          unfold mLcmp at h3
          split at h3
          · omega
          · split at h3
            · assumption
            · omega
      · rw [if_pos h3]; exact Or.inr rfl
theorem keep_eq (G : mG) (x : Int) : (e_X8_keep G x) 29 15 = (if x ≤ G 29 15 then G 29 15 else x) ∧ ∀ i, i < 9 → (e_X8_keep G x) 36 i = (if x ≤ G 29 15 then G 36 i else G 35 i) := by
  unfold e_X8_keep
  by_cases h : x ≤ G 29 15
  · rw [if_pos h, if_pos h]
    exact ⟨rfl, fun i _ => by rw [if_pos h]⟩
  · rw [if_neg h, if_neg h]
    have key := fd_inv (g := g_X8_keep_15 G x) (a := gs G 29 15 x) (n := 9) (fun j s => s 29 15 = x ∧ s 35 = G 35 ∧ ∀ i, i < j → s 36 i = G 35 i) ⟨gs_at _ _ _ _, gs_ne (by decide), fun i hi => absurd hi (by omega)⟩
      (by
        intro j s hj hI
        unfold g_X8_keep_15
        refine ⟨by rw [gs_ne (by decide)]; exact hI.1, by rw [gs_ne (by decide)]; exact hI.2.1, fun i hi => ?_⟩
        rw [st_nat]
        by_cases hij : i = j
        · rw [hij, gs_at, hI.2.1]
        · rw [gs_at_ne hij]; exact hI.2.2 i (by omega))
    exact ⟨key.1, fun i hi => by rw [if_neg h]; exact key.2.2 i hi⟩
theorem use_eq {H : mG} {w : Int} (hw : w < 40) (hl : ∀ i, i < 40 → 0 ≤ H 33 i ∧ H 33 i ≤ 9999) : (e_X8_use H w (-1)) 33 = sUse (H 33) w := by
  unfold e_X8_use
  by_cases h : w < 0
  · rw [if_pos h]
    funext i
    unfold sUse
    rw [if_neg (by omega)]
  · rw [if_neg h, if_neg (by omega), gs_self]
    funext i
    unfold sUse
    have := hl w.toNat (by omega)
    by_cases hi : i = w.toNat
    · rw [if_pos hi, if_pos (by omega), w32_i (by omega) (by omega), hi]; omega
    · rw [if_neg hi, if_neg (by omega)]
theorem unuse_eq {H : mG} {lf : Nat → Int} {w : Int} (hw : w < 40) (hl : ∀ i, i < 40 → 0 ≤ lf i ∧ lf i ≤ 9999) (h : H 33 = sUse lf w) : (e_X8_use H w 1) 33 = lf := by
  unfold e_X8_use
  by_cases hz : w < 0
  · rw [if_pos hz, h]
    funext i
    unfold sUse
    rw [if_neg (by omega)]
  · rw [if_neg hz, if_neg (by omega), gs_self]
    funext i
    have := hl w.toNat (by omega)
    by_cases hi : i = w.toNat
    · rw [if_pos hi, h]
      unfold sUse
      rw [if_pos (by omega), hi, w32_i (by omega) (by omega)]; omega
    · rw [if_neg hi, h]
      unfold sUse
      rw [if_neg (by omega)]
end SRC
