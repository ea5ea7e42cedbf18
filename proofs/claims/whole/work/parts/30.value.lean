/-! ===== printed by wip/whole/gen30.py: the reference weighs conditions ===== -/
/-- one step of the reference's code -/
def sgR (cd ci va : Nat → Int) (i : Nat) (S : List Int) : Option (List Int) :=
  if cd i < 2 then (if cd i = 0 then some (ci i :: S) else if 0 ≤ ci i ∧ ci i < 6 then some (va (ci i).toNat :: S) else none)
  else match S with
    | b :: a :: S' => some ((if cd i = 2 then w32 (a + b) else if cd i = 3 then w32 (a - b) else w32 (a * b)) :: S')
    | _ => none
def rnR (cd ci va : Nat → Int) (i0 : Nat) : Nat → Option (List Int)
  | 0 => some []
  | n + 1 => match rnR cd ci va i0 n with
    | some S => sgR cd ci va (i0 + n) S
    | none => none
theorem sgR_len {cd ci va : Nat → Int} {i : Nat} {S T : List Int} (h : sgR cd ci va i S = some T) : T.length ≤ S.length + 1 := by
  unfold sgR at h
  split at h
  · split at h
    · cases h; simp
    · split at h
      · cases h; simp
      · cases h
  · split at h
    · cases h; simp
    · cases h
theorem rnR_len {cd ci va : Nat → Int} {i0 n : Nat} {S : List Int} (h : rnR cd ci va i0 n = some S) : S.length ≤ n := by
  induction n generalizing S with
  | zero => cases h; simp
  | succ n ih =>
    unfold rnR at h
    cases hr : rnR cd ci va i0 n with
    | none => rw [hr] at h; cases h
    | some T =>
      rw [hr] at h
      have := sgR_len h
      have := ih hr
      omega
theorem rnR_pre {cd ci va : Nat → Int} {i0 n m : Nat} {S : List Int} (h : rnR cd ci va i0 (n + m) = some S) : ∃ T, rnR cd ci va i0 n = some T := by
  induction m generalizing S with
  | zero => exact ⟨S, h⟩
  | succ m ih =>
    have h2 : (match rnR cd ci va i0 (n + m) with | some S => sgR cd ci va (i0 + (n + m)) S | none => none) = some S := h
    cases hr : rnR cd ci va i0 (n + m) with
    | none => rw [hr] at h2; cases h2
    | some T => exact ih hr
/-- a pile whose top is the list's head -/
def pl : List Int → (Nat → Int) → Prop
  | [], _ => True
  | v :: S, r => r S.length = v ∧ pl S r
theorem pl_to {S : List Int} {r r' : Nat → Int} (h : pl S r) (he : ∀ i, i < S.length → r' i = r i) : pl S r' := by
  induction S with
  | nil => trivial
  | cons v S ih =>
    refine ⟨?_, ih h.2 (fun i hi => he i (by simp; omega))⟩
    rw [he S.length (by simp)]
    exact h.1
theorem pl_set {S : List Int} {G : mG} {k i : Nat} {x : Int} (h : pl S (G k)) (hi : S.length ≤ i) : pl S (gs G k i x k) :=
  pl_to h (fun q hq => gs_at_ne (by omega))
def vI (G : mG) (x : Int) (j : Nat) (s : Int × mG) : Prop := ∃ S, rnR (G 91) (G 92) (G 106) x.toNat j = some S ∧ s.1 = (S.length : Int) ∧ pl S (s.2 107) ∧ ∀ k, k ≠ 107 → s.2 k = G k
def g_X12_value_5 (G : mG) (x : Int) (y : Int) : Nat → (Int × mG) → (Int × mG) := fun j1 s1 => (if 2 ≤ (s1.2 91 (Int.toNat (x + ((j1 : Nat) : Int)))) then (if ¬ (s1.2 91 (Int.toNat (x + ((j1 : Nat) : Int)))) = 2 then (if ¬ (s1.2 91 (Int.toNat (x + ((j1 : Nat) : Int)))) = 3 then ((w32 (s1.1 + (-1))), (gs s1.2 107 (Int.toNat (w32 ((w32 (s1.1 + (-1))) - 1))) (w32 ((s1.2 107 (Int.toNat (w32 ((w32 (s1.1 + (-1))) - 1)))) * (s1.2 107 (Int.toNat (w32 (s1.1 + (-1))))))))) else ((w32 (s1.1 + (-1))), (gs s1.2 107 (Int.toNat (w32 ((w32 (s1.1 + (-1))) - 1))) (w32 ((s1.2 107 (Int.toNat (w32 ((w32 (s1.1 + (-1))) - 1)))) - (s1.2 107 (Int.toNat (w32 (s1.1 + (-1)))))))))) else ((w32 (s1.1 + (-1))), (gs s1.2 107 (Int.toNat (w32 ((w32 (s1.1 + (-1))) - 1))) (w32 ((s1.2 107 (Int.toNat (w32 ((w32 (s1.1 + (-1))) - 1)))) + (s1.2 107 (Int.toNat (w32 (s1.1 + (-1)))))))))) else (if ¬ (s1.2 91 (Int.toNat (x + ((j1 : Nat) : Int)))) = 0 then ((w32 (s1.1 + 1)), (gs s1.2 107 (Int.toNat s1.1) (s1.2 106 (Int.toNat (s1.2 92 (Int.toNat (x + ((j1 : Nat) : Int)))))))) else ((w32 (s1.1 + 1)), (gs s1.2 107 (Int.toNat s1.1) (s1.2 92 (Int.toNat (x + ((j1 : Nat) : Int))))))))
def r_X12_value (G : mG) (x : Int) (y : Int) : Int × mG := (((fd (g_X12_value_5 G x y) (0, G) (Int.toNat (y - x))).2 107 (Int.toNat 0)), (fd (g_X12_value_5 G x y) (0, G) (Int.toNat (y - x))).2)
theorem fr_g_X12_value_5 (G : mG) (x : Int) (y : Int) {k : Nat} (hk : ∀ a ∈ ([107] : List Nat), k ≠ a) (j : Nat) (s : Int × mG) : (g_X12_value_5 G x y j s).2 k = s.2 k := by
  unfold g_X12_value_5
  repeat' with_reducible first | apply ite_f | apply ite_f2 | apply ite_p | apply ite_p2
  all_goals first | (simp only [gs_ne (hk (107) (by simp))]; done) | rfl
theorem fr_X12_value {G : mG} {x : Int} {y : Int} {k : Nat} (hk : ∀ a ∈ ([107] : List Nat), k ≠ a) : (r_X12_value G x y).2 k = G k := by
  unfold r_X12_value
  repeat' with_reducible first | apply ite_f | apply ite_f2 | apply ite_p | apply ite_p2
  all_goals first | (simp only [gs_ne (hk (107) (by simp)), fd_fr2 (fr_g_X12_value_5 _ _ _ hk)]; done) | rfl
theorem vI_mk {G : mG} {x p : Int} {j : Nat} {S : List Int} {H : mG} (h : rnR (G 91) (G 92) (G 106) x.toNat j = some S) (hp : p = (S.length : Int)) (hl : pl S (H 107)) (hk : ∀ k, k ≠ 107 → H k = G k) : vI G x j (p, H) := ⟨S, h, hp, hl, hk⟩
theorem vI_n {G : mG} {x y : Int} {v : Int} {j : Nat} {s : Int × mG} (hx : 0 ≤ x ∧ y ≤ 1400 ∧ y - x ≤ 700) (hv : rnR (G 91) (G 92) (G 106) x.toNat (y - x).toNat = some [v]) (hj : j < (y - x).toNat) (hI : vI G x j s) :
    s.2 91 = G 91 ∧ s.2 92 = G 92 ∧ s.2 106 = G 106 ∧ 0 ≤ s.1 ∧ s.1 ≤ j ∧ (¬ G 91 (x + j).toNat < 2 → 2 ≤ s.1) ∧ (G 91 (x + j).toNat < 2 → ¬ G 91 (x + j).toNat = 0 → 0 ≤ G 92 (x + j).toNat ∧ G 92 (x + j).toNat < 6) := by
  obtain ⟨S, h1, h2, h3, h4⟩ := hI
  have hl := rnR_len h1
  have e : (y - x).toNat = (j + 1) + ((y - x).toNat - (j + 1)) := by omega
  rw [e] at hv
  obtain ⟨T, hT⟩ := rnR_pre hv
  unfold rnR at hT
  rw [h1] at hT
  have hi : x.toNat + j = (x + j).toNat := by omega
  rw [hi] at hT
  refine ⟨h4 91 (by decide), h4 92 (by decide), h4 106 (by decide), by omega, by omega, fun hc => ?_, fun hc hz => ?_⟩
  · simp only [sgR, if_neg hc] at hT
    cases S with
    | nil => cases hT
    | cons b S => cases S with
      | nil => cases hT
      | cons a S => rw [h2]; simp; omega
  · simp only [sgR, if_pos hc, if_neg hz] at hT
    by_cases hq : 0 ≤ G 92 (x + j).toNat ∧ G 92 (x + j).toNat < 6
    · exact hq
    · rw [if_neg hq] at hT; cases hT
theorem vI_s {G : mG} {x y : Int} {v : Int} (hx : 0 ≤ x ∧ y ≤ 1400 ∧ y - x ≤ 700) (hv : rnR (G 91) (G 92) (G 106) x.toNat (y - x).toNat = some [v]) (j : Nat) (s : Int × mG) (hj : j < (y - x).toNat) (hI : vI G x j s) : vI G x (j + 1) (g_X12_value_5 G x y j s) := by
  obtain ⟨n1, n2, n3, n4, n5, n6, n7⟩ := vI_n hx hv hj hI
  obtain ⟨S, h1, h2, h3, h4⟩ := hI
  have e : (y - x).toNat = (j + 1) + ((y - x).toNat - (j + 1)) := by omega
  rw [e] at hv
  obtain ⟨T, hT⟩ := rnR_pre hv
  have hT0 := hT
  unfold rnR at hT
  rw [h1] at hT
  have hi : x.toNat + j = (x + j).toNat := by omega
  rw [hi] at hT
  have hlen : s.1.toNat = S.length := by omega
  unfold g_X12_value_5
  rw [n1]
  by_cases hc : G 91 (x + j).toNat < 2
  · simp only [sgR, if_pos hc] at hT
    rw [if_neg (Int.not_le.mpr hc)]
    by_cases hz : G 91 (x + j).toNat = 0
    · rw [if_pos hz] at hT
      cases hT
      rw [if_neg (fun q => q hz), n2, hlen]
      refine vI_mk hT0 ?_ ⟨gs_at _ _ _ _, pl_set h3 (Nat.le_refl _)⟩ (fun k hk => by rw [gs_ne hk]; exact h4 k hk)
      rw [w32_i (by omega) (by omega), h2, List.length_cons]; omega
    · rw [if_neg hz, if_pos (n7 hc hz)] at hT
      cases hT
      rw [if_pos hz, n2, n3, hlen]
      refine vI_mk hT0 ?_ ⟨gs_at _ _ _ _, pl_set h3 (Nat.le_refl _)⟩ (fun k hk => by rw [gs_ne hk]; exact h4 k hk)
      rw [w32_i (by omega) (by omega), h2, List.length_cons]; omega
  · simp only [sgR, if_neg hc] at hT
    rw [if_pos (Int.not_lt.mp hc)]
    have n8 := n6 hc
    match S, h1, h2, h3, hlen, hT with
    | [], _, h2, _, _, _ => simp at h2; omega
    | [a], _, h2, _, _, _ => simp at h2; omega
    | b :: a :: S', h1, h2, h3, hlen, hT =>
      obtain ⟨p1, p2, p3⟩ := h3
      have hl2 : ((b :: a :: S').length : Int) = (S'.length : Int) + 2 := by rw [List.length_cons, List.length_cons]; omega
      rw [hl2] at h2
      have q1 : w32 (s.1 + (-1)) = (S'.length : Int) + 1 := by rw [w32_i (by omega) (by omega), h2]; omega
      have q2 : w32 (w32 (s.1 + (-1)) - 1) = (S'.length : Int) := by rw [q1, w32_i (by omega) (by omega)]; omega
      have q3 : ((S'.length : Int) + 1).toNat = (a :: S').length := by rw [List.length_cons]; omega
      have q4 : ((S'.length : Int)).toNat = S'.length := by omega
      cases hT
      have fin1 : ∀ z : Int, rnR (G 91) (G 92) (G 106) x.toNat (j + 1) = some (z :: S') → vI G x (j + 1) (w32 (s.1 + (-1)), gs s.2 107 (Int.toNat (w32 (w32 (s.1 + (-1)) - 1))) z) := by
        intro z hz
        refine vI_mk hz ?_ ?_ (fun k hk => by rw [gs_ne hk]; exact h4 k hk)
        · rw [q1, List.length_cons]; omega
        · show gs s.2 107 _ z 107 S'.length = z ∧ pl S' (gs s.2 107 _ z 107)
          rw [q2, q4]
          exact ⟨gs_at _ _ _ _, pl_set p3 (Nat.le_refl _)⟩
      have r1 : s.2 107 (Int.toNat (w32 (s.1 + (-1)))) = b := by rw [q1, q3]; exact p1
      have r2 : s.2 107 (Int.toNat (w32 (w32 (s.1 + (-1)) - 1))) = a := by rw [q2, q4]; exact p2
      rw [r1, r2]
      by_cases ho : G 91 (x + j).toNat = 2
      · rw [if_neg (fun q => q ho)]
        rw [if_pos ho] at hT0
        exact fin1 _ hT0
      · rw [if_pos ho]
        rw [if_neg ho] at hT0
        by_cases ho3 : G 91 (x + j).toNat = 3
        · rw [if_neg (fun q => q ho3)]
          rw [if_pos ho3] at hT0
          exact fin1 _ hT0
        · rw [if_pos ho3]
          rw [if_neg ho3] at hT0
          exact fin1 _ hT0

set_option maxHeartbeats 8000000 in
theorem sp_X12_value {D : Nat → Bool} {d : Nat} {G : mG} {x : Int} {y : Int} {Q : Option mV → mG → Prop} (v : Int) (hx : 0 ≤ x ∧ x ≤ y ∧ y ≤ 1400 ∧ y - x ≤ 700) (hv : rnR (G 91) (G 92) (G 106) x.toNat (y - x).toNat = some [v]) (hD : ∀ k, D k = false → inN [107] k = false) (h : Q (some (mI (r_X12_value G x y).1)) (r_X12_value G x y).2) : P2 D (d + 1) M_X12_value [mR 69, mI x, mI y] G Q := by
  unfold r_X12_value at h
  refine MP.to (D2 := inN [107]) (Q2 := Q) ?_ hD (fun v G' q _ => q)
  refine p2_vc [5, 60, 87, 101, 138] 400 oo_X12 q_X12_value (by decide) rfl (Nat.le_of_ble_eq_true rfl) ?_
  refine (show W2 o_X12 M_X12_value (inN [107]) (d + 1) Q 5 [some (mR 69), some (mI x), some (mI y), some (mI 0), some (mI x), none, none] [] G from ?_)
  refine Eq.mpr (congrArg (fun z0 => W2 o_X12 M_X12_value (inN [107]) (d + 1) Q 5 [some (mR 69), some (mI x), some (mI y), some (mI 0), some (mI z0), none, none] [] G) (show x = x + ((0 : Nat) : Int) from by omega)) ?_
  refine (show W2 o_X12 M_X12_value (inN [107]) (d + 1) Q 5 [some (mR 69), some (mI x), some (mI y), some (mI 0), some (mI (x + ((0 : Nat) : Int))), none, none] [] G from ?_)
  refine lupI (g_X12_value_5 G x y) (0, G) (fun j1 s1 => W2 o_X12 M_X12_value (inN [107]) (d + 1) Q 5 [some (mR 69), some (mI x), some (mI y), some (mI s1.1), some (mI (x + ((j1 : Nat) : Int))), none, none] [] s1.2) (vI G x) (Int.toNat (y - x)) ⟨⟨[], rfl, rfl, trivial, fun _ _ => rfl⟩, vI_s ⟨hx.1, hx.2.2⟩ hv⟩ (fun j1 s1 hj1 hI1 ih1 => ?_) (fun hI1 => ?_)
  · have ih1 : W2 o_X12 M_X12_value (inN [107]) (d + 1) Q 5 [some (mR 69), some (mI x), some (mI y), some (mI (g_X12_value_5 G x y j1 s1).1), some (mI (x + ((j1 + 1 : Nat) : Int))), none, none] [] (g_X12_value_5 G x y j1 s1).2 := ih1
    unfold g_X12_value_5 at ih1
    obtain ⟨n1, n2, n3, n4, n5, n6, n7⟩ := vI_n ⟨hx.1, hx.2.2⟩ hv hj1 hI1
    rw [← n1] at n6 n7
    rw [← n2] at n7
    refine w2_vc [5, 60, 87, 101, 138] 400 oo_X12 q_X12_value ?_
    refine ⟨fun (c1 : y ≤ (x + ((j1 : Nat) : Int))) => ?_, fun (c1 : (x + ((j1 : Nat) : Int)) < y) => ?_⟩
    · skip
      exfalso; first | omega | (rw [w32_i (by omega) (by omega)] at c1; omega) | (simp (disch := omega) only [w32_i] at *; omega)
    · skip
      refine ⟨(show 0 ≤ (x + ((j1 : Nat) : Int)) ∧ (x + ((j1 : Nat) : Int)) < ((1400 : Nat) : Int) from by first | omega | (simp (disch := omega) only [w32_i]; omega)), ?_⟩
      refine ⟨fun (c2 : 2 ≤ (s1.2 91 (Int.toNat (x + ((j1 : Nat) : Int))))) => ?_, fun (c2 : (s1.2 91 (Int.toNat (x + ((j1 : Nat) : Int)))) < 2) => ?_⟩
      · rw [if_pos c2] at ih1
        refine ⟨(show 0 ≤ (w32 ((w32 (s1.1 + (-1))) - 1)) ∧ (w32 ((w32 (s1.1 + (-1))) - 1)) < ((700 : Nat) : Int) from by first | omega | (rw [show (w32 ((w32 (s1.1 + (-1))) - 1)) = (s1.1 + (-1)) - 1 from by rw [w32_i (x := (s1.1 + (-1))) (by omega) (by omega), w32_i (x := (s1.1 + (-1)) - 1) (by omega) (by omega)]]; omega) | (simp (disch := omega) only [w32_i]; omega)), ?_⟩
        refine ⟨(show 0 ≤ (w32 (s1.1 + (-1))) ∧ (w32 (s1.1 + (-1))) < ((700 : Nat) : Int) from by first | omega | (simp (disch := omega) only [w32_i]; omega)), ?_⟩
        refine (show W2 o_X12 M_X12_value (inN [107]) (d + 1) Q 87 [some (mR 69), some (mI x), some (mI y), some (mI (w32 (s1.1 + (-1)))), some (mI (x + ((j1 : Nat) : Int))), some (mI (s1.2 107 (Int.toNat (w32 ((w32 (s1.1 + (-1))) - 1))))), some (mI (s1.2 107 (Int.toNat (w32 (s1.1 + (-1))))))] [] s1.2 from ?_)
        refine w2_vc [5, 60, 87, 101, 138] 400 oo_X12 q_X12_value ?_
        refine ⟨(show 0 ≤ (x + ((j1 : Nat) : Int)) ∧ (x + ((j1 : Nat) : Int)) < ((1400 : Nat) : Int) from by first | omega | (simp (disch := omega) only [w32_i]; omega)), ?_⟩
        refine (show W2 o_X12 M_X12_value (inN [107]) (d + 1) Q 101 [some (mR 69), some (mI x), some (mI y), some (mI (w32 (s1.1 + (-1)))), some (mI (x + ((j1 : Nat) : Int))), some (mI (s1.2 107 (Int.toNat (w32 ((w32 (s1.1 + (-1))) - 1))))), some (mI (s1.2 107 (Int.toNat (w32 (s1.1 + (-1))))))] [mI (s1.2 91 (Int.toNat (x + ((j1 : Nat) : Int)))), mI (w32 ((w32 (s1.1 + (-1))) - 1)), mR 112] s1.2 from ?_)
        refine w2_vc [5, 60, 87, 101, 138] 400 oo_X12 q_X12_value ?_
        refine ⟨fun (c3 : ¬ (s1.2 91 (Int.toNat (x + ((j1 : Nat) : Int)))) = 2) => ?_, fun (c3 : (s1.2 91 (Int.toNat (x + ((j1 : Nat) : Int)))) = 2) => ?_⟩
        · rw [if_pos c3] at ih1
          refine ⟨(show 0 ≤ (x + ((j1 : Nat) : Int)) ∧ (x + ((j1 : Nat) : Int)) < ((1400 : Nat) : Int) from by first | omega | (simp (disch := omega) only [w32_i]; omega)), ?_⟩
          refine ⟨fun (c4 : ¬ (s1.2 91 (Int.toNat (x + ((j1 : Nat) : Int)))) = 3) => ?_, fun (c4 : (s1.2 91 (Int.toNat (x + ((j1 : Nat) : Int)))) = 3) => ?_⟩
          · rw [if_pos c4] at ih1
            refine ⟨(show 0 ≤ (w32 ((w32 (s1.1 + (-1))) - 1)) ∧ (w32 ((w32 (s1.1 + (-1))) - 1)) < ((700 : Nat) : Int) from by first | omega | (rw [show (w32 ((w32 (s1.1 + (-1))) - 1)) = (s1.1 + (-1)) - 1 from by rw [w32_i (x := (s1.1 + (-1))) (by omega) (by omega), w32_i (x := (s1.1 + (-1)) - 1) (by omega) (by omega)]]; omega) | (simp (disch := omega) only [w32_i]; omega)), ?_⟩
            refine (show W2 o_X12 M_X12_value (inN [107]) (d + 1) Q 138 [some (mR 69), some (mI x), some (mI y), some (mI (w32 (s1.1 + (-1)))), some (mI (x + ((j1 : Nat) : Int))), some (mI (s1.2 107 (Int.toNat (w32 ((w32 (s1.1 + (-1))) - 1))))), some (mI (s1.2 107 (Int.toNat (w32 (s1.1 + (-1))))))] [] (gs s1.2 107 (Int.toNat (w32 ((w32 (s1.1 + (-1))) - 1))) (w32 ((s1.2 107 (Int.toNat (w32 ((w32 (s1.1 + (-1))) - 1)))) * (s1.2 107 (Int.toNat (w32 (s1.1 + (-1)))))))) from ?_)
            refine w2_vc [5, 60, 87, 101, 138] 400 oo_X12 q_X12_value ?_
            refine (show W2 o_X12 M_X12_value (inN [107]) (d + 1) Q 5 [some (mR 69), some (mI x), some (mI y), some (mI (w32 (s1.1 + (-1)))), some (mI (w32 ((x + ((j1 : Nat) : Int)) + 1))), some (mI (s1.2 107 (Int.toNat (w32 ((w32 (s1.1 + (-1))) - 1))))), some (mI (s1.2 107 (Int.toNat (w32 (s1.1 + (-1))))))] [] (gs s1.2 107 (Int.toNat (w32 ((w32 (s1.1 + (-1))) - 1))) (w32 ((s1.2 107 (Int.toNat (w32 ((w32 (s1.1 + (-1))) - 1)))) * (s1.2 107 (Int.toNat (w32 (s1.1 + (-1)))))))) from ?_)
            refine WP.fg (L' := [some (mR 69), some (mI x), some (mI y), some (mI (w32 (s1.1 + (-1)))), some (mI (w32 ((x + ((j1 : Nat) : Int)) + 1))), none, none]) ⟨rfl, rfl, rfl, rfl, rfl, trivial⟩ ?_
            rw [w32_up (by omega) (by omega)]
            exact ih1
          · rw [if_neg (fun q => q c4)] at ih1
            refine ⟨(show 0 ≤ (w32 ((w32 (s1.1 + (-1))) - 1)) ∧ (w32 ((w32 (s1.1 + (-1))) - 1)) < ((700 : Nat) : Int) from by first | omega | (rw [show (w32 ((w32 (s1.1 + (-1))) - 1)) = (s1.1 + (-1)) - 1 from by rw [w32_i (x := (s1.1 + (-1))) (by omega) (by omega), w32_i (x := (s1.1 + (-1)) - 1) (by omega) (by omega)]]; omega) | (simp (disch := omega) only [w32_i]; omega)), ?_⟩
            refine (show W2 o_X12 M_X12_value (inN [107]) (d + 1) Q 138 [some (mR 69), some (mI x), some (mI y), some (mI (w32 (s1.1 + (-1)))), some (mI (x + ((j1 : Nat) : Int))), some (mI (s1.2 107 (Int.toNat (w32 ((w32 (s1.1 + (-1))) - 1))))), some (mI (s1.2 107 (Int.toNat (w32 (s1.1 + (-1))))))] [] (gs s1.2 107 (Int.toNat (w32 ((w32 (s1.1 + (-1))) - 1))) (w32 ((s1.2 107 (Int.toNat (w32 ((w32 (s1.1 + (-1))) - 1)))) - (s1.2 107 (Int.toNat (w32 (s1.1 + (-1)))))))) from ?_)
            refine w2_vc [5, 60, 87, 101, 138] 400 oo_X12 q_X12_value ?_
            refine (show W2 o_X12 M_X12_value (inN [107]) (d + 1) Q 5 [some (mR 69), some (mI x), some (mI y), some (mI (w32 (s1.1 + (-1)))), some (mI (w32 ((x + ((j1 : Nat) : Int)) + 1))), some (mI (s1.2 107 (Int.toNat (w32 ((w32 (s1.1 + (-1))) - 1))))), some (mI (s1.2 107 (Int.toNat (w32 (s1.1 + (-1))))))] [] (gs s1.2 107 (Int.toNat (w32 ((w32 (s1.1 + (-1))) - 1))) (w32 ((s1.2 107 (Int.toNat (w32 ((w32 (s1.1 + (-1))) - 1)))) - (s1.2 107 (Int.toNat (w32 (s1.1 + (-1)))))))) from ?_)
            refine WP.fg (L' := [some (mR 69), some (mI x), some (mI y), some (mI (w32 (s1.1 + (-1)))), some (mI (w32 ((x + ((j1 : Nat) : Int)) + 1))), none, none]) ⟨rfl, rfl, rfl, rfl, rfl, trivial⟩ ?_
            rw [w32_up (by omega) (by omega)]
            exact ih1
        · rw [if_neg (fun q => q c3)] at ih1
          refine ⟨(show 0 ≤ (w32 ((w32 (s1.1 + (-1))) - 1)) ∧ (w32 ((w32 (s1.1 + (-1))) - 1)) < ((700 : Nat) : Int) from by first | omega | (rw [show (w32 ((w32 (s1.1 + (-1))) - 1)) = (s1.1 + (-1)) - 1 from by rw [w32_i (x := (s1.1 + (-1))) (by omega) (by omega), w32_i (x := (s1.1 + (-1)) - 1) (by omega) (by omega)]]; omega) | (simp (disch := omega) only [w32_i]; omega)), ?_⟩
          refine (show W2 o_X12 M_X12_value (inN [107]) (d + 1) Q 138 [some (mR 69), some (mI x), some (mI y), some (mI (w32 (s1.1 + (-1)))), some (mI (x + ((j1 : Nat) : Int))), some (mI (s1.2 107 (Int.toNat (w32 ((w32 (s1.1 + (-1))) - 1))))), some (mI (s1.2 107 (Int.toNat (w32 (s1.1 + (-1))))))] [] (gs s1.2 107 (Int.toNat (w32 ((w32 (s1.1 + (-1))) - 1))) (w32 ((s1.2 107 (Int.toNat (w32 ((w32 (s1.1 + (-1))) - 1)))) + (s1.2 107 (Int.toNat (w32 (s1.1 + (-1)))))))) from ?_)
          refine w2_vc [5, 60, 87, 101, 138] 400 oo_X12 q_X12_value ?_
          refine (show W2 o_X12 M_X12_value (inN [107]) (d + 1) Q 5 [some (mR 69), some (mI x), some (mI y), some (mI (w32 (s1.1 + (-1)))), some (mI (w32 ((x + ((j1 : Nat) : Int)) + 1))), some (mI (s1.2 107 (Int.toNat (w32 ((w32 (s1.1 + (-1))) - 1))))), some (mI (s1.2 107 (Int.toNat (w32 (s1.1 + (-1))))))] [] (gs s1.2 107 (Int.toNat (w32 ((w32 (s1.1 + (-1))) - 1))) (w32 ((s1.2 107 (Int.toNat (w32 ((w32 (s1.1 + (-1))) - 1)))) + (s1.2 107 (Int.toNat (w32 (s1.1 + (-1)))))))) from ?_)
          refine WP.fg (L' := [some (mR 69), some (mI x), some (mI y), some (mI (w32 (s1.1 + (-1)))), some (mI (w32 ((x + ((j1 : Nat) : Int)) + 1))), none, none]) ⟨rfl, rfl, rfl, rfl, rfl, trivial⟩ ?_
          rw [w32_up (by omega) (by omega)]
          exact ih1
      · rw [if_neg (Int.not_le.mpr c2)] at ih1
        refine ⟨(show 0 ≤ (x + ((j1 : Nat) : Int)) ∧ (x + ((j1 : Nat) : Int)) < ((1400 : Nat) : Int) from by first | omega | (simp (disch := omega) only [w32_i]; omega)), ?_⟩
        refine ⟨fun (c5 : ¬ (s1.2 91 (Int.toNat (x + ((j1 : Nat) : Int)))) = 0) => ?_, fun (c5 : (s1.2 91 (Int.toNat (x + ((j1 : Nat) : Int)))) = 0) => ?_⟩
        · rw [if_pos c5] at ih1
          refine ⟨(show 0 ≤ (x + ((j1 : Nat) : Int)) ∧ (x + ((j1 : Nat) : Int)) < ((1400 : Nat) : Int) from by first | omega | (simp (disch := omega) only [w32_i]; omega)), ?_⟩
          refine ⟨(show 0 ≤ (s1.2 92 (Int.toNat (x + ((j1 : Nat) : Int)))) ∧ (s1.2 92 (Int.toNat (x + ((j1 : Nat) : Int)))) < ((6 : Nat) : Int) from by first | omega | (simp (disch := omega) only [w32_i]; omega)), ?_⟩
          refine ⟨(show 0 ≤ s1.1 ∧ s1.1 < ((700 : Nat) : Int) from by first | omega | (simp (disch := omega) only [w32_i]; omega)), ?_⟩
          refine (show W2 o_X12 M_X12_value (inN [107]) (d + 1) Q 60 [some (mR 69), some (mI x), some (mI y), some (mI s1.1), some (mI (x + ((j1 : Nat) : Int))), none, none] [] (gs s1.2 107 (Int.toNat s1.1) (s1.2 106 (Int.toNat (s1.2 92 (Int.toNat (x + ((j1 : Nat) : Int))))))) from ?_)
          refine w2_vc [5, 60, 87, 101, 138] 400 oo_X12 q_X12_value ?_
          refine (show W2 o_X12 M_X12_value (inN [107]) (d + 1) Q 138 [some (mR 69), some (mI x), some (mI y), some (mI (w32 (s1.1 + 1))), some (mI (x + ((j1 : Nat) : Int))), none, none] [] (gs s1.2 107 (Int.toNat s1.1) (s1.2 106 (Int.toNat (s1.2 92 (Int.toNat (x + ((j1 : Nat) : Int))))))) from ?_)
          refine w2_vc [5, 60, 87, 101, 138] 400 oo_X12 q_X12_value ?_
          refine (show W2 o_X12 M_X12_value (inN [107]) (d + 1) Q 5 [some (mR 69), some (mI x), some (mI y), some (mI (w32 (s1.1 + 1))), some (mI (w32 ((x + ((j1 : Nat) : Int)) + 1))), none, none] [] (gs s1.2 107 (Int.toNat s1.1) (s1.2 106 (Int.toNat (s1.2 92 (Int.toNat (x + ((j1 : Nat) : Int))))))) from ?_)
          rw [w32_up (by omega) (by omega)]
          exact ih1
        · rw [if_neg (fun q => q c5)] at ih1
          refine ⟨(show 0 ≤ (x + ((j1 : Nat) : Int)) ∧ (x + ((j1 : Nat) : Int)) < ((1400 : Nat) : Int) from by first | omega | (simp (disch := omega) only [w32_i]; omega)), ?_⟩
          refine ⟨(show 0 ≤ s1.1 ∧ s1.1 < ((700 : Nat) : Int) from by first | omega | (simp (disch := omega) only [w32_i]; omega)), ?_⟩
          refine (show W2 o_X12 M_X12_value (inN [107]) (d + 1) Q 60 [some (mR 69), some (mI x), some (mI y), some (mI s1.1), some (mI (x + ((j1 : Nat) : Int))), none, none] [] (gs s1.2 107 (Int.toNat s1.1) (s1.2 92 (Int.toNat (x + ((j1 : Nat) : Int))))) from ?_)
          refine w2_vc [5, 60, 87, 101, 138] 400 oo_X12 q_X12_value ?_
          refine (show W2 o_X12 M_X12_value (inN [107]) (d + 1) Q 138 [some (mR 69), some (mI x), some (mI y), some (mI (w32 (s1.1 + 1))), some (mI (x + ((j1 : Nat) : Int))), none, none] [] (gs s1.2 107 (Int.toNat s1.1) (s1.2 92 (Int.toNat (x + ((j1 : Nat) : Int))))) from ?_)
          refine w2_vc [5, 60, 87, 101, 138] 400 oo_X12 q_X12_value ?_
          refine (show W2 o_X12 M_X12_value (inN [107]) (d + 1) Q 5 [some (mR 69), some (mI x), some (mI y), some (mI (w32 (s1.1 + 1))), some (mI (w32 ((x + ((j1 : Nat) : Int)) + 1))), none, none] [] (gs s1.2 107 (Int.toNat s1.1) (s1.2 92 (Int.toNat (x + ((j1 : Nat) : Int))))) from ?_)
          rw [w32_up (by omega) (by omega)]
          exact ih1
  · skip
    refine (show W2 o_X12 M_X12_value (inN [107]) (d + 1) Q 5 [some (mR 69), some (mI x), some (mI y), some (mI (fd (g_X12_value_5 G x y) (0, G) (Int.toNat (y - x))).1), some (mI (x + (((Int.toNat (y - x)) : Nat) : Int))), none, none] [] (fd (g_X12_value_5 G x y) (0, G) (Int.toNat (y - x))).2 from ?_)
    
    refine w2_vc [5, 60, 87, 101, 138] 400 oo_X12 q_X12_value ?_
    refine ⟨fun (c6 : y ≤ (x + (((Int.toNat (y - x)) : Nat) : Int))) => ?_, fun (c6 : (x + (((Int.toNat (y - x)) : Nat) : Int)) < y) => ?_⟩
    · skip
      refine ⟨(show 0 ≤ 0 ∧ 0 < ((700 : Nat) : Int) from by first | omega | (simp (disch := omega) only [w32_i]; omega)), ?_⟩
      exact h
    · skip
      exfalso; first | omega | (rw [w32_i (by omega) (by omega)] at c6; omega) | (simp (disch := omega) only [w32_i] at *; omega)
