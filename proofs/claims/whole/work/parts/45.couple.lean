/-! ===== the house and the reference side by side ===== -/
/-- a literal, over the rows that tell it -/
def litY (so le ri en cd ci va : Nat → Int) (mk : Int) (l : Nat) : Bool := if so l = 4 then decide (mAnd (mShr mk (ci (Int.toNat (le l)))) 1 = 1)
  else if so l = 0 then decide ((rV cd ci va (le l).toNat (ri l - le l).toNat) = (rV cd ci va (ri l).toNat (en l - ri l).toNat)) else if so l = 1 then decide (¬ (rV cd ci va (le l).toNat (ri l - le l).toNat) = (rV cd ci va (ri l).toNat (en l - ri l).toNat)) else if so l = 2 then decide ((rV cd ci va (le l).toNat (ri l - le l).toNat) < (rV cd ci va (ri l).toNat (en l - ri l).toNat)) else decide ((rV cd ci va (le l).toNat (ri l - le l).toNat) ≤ (rV cd ci va (ri l).toNat (en l - ri l).toNat))
def hRy (oo so le ri en cd ci va : Nat → Int) (mk : Int) (l0 n : Nat) : Bool := hRs (fun l => decide (¬ oo l = 0)) (litY so le ri en cd ci va mk) l0 n
theorem litV_y (G : mG) (b : Int) : litV G b = litY (G 86) (G 87) (G 88) (G 89) (G 91) (G 92) (G 106) (G 97 (Int.toNat b)) := rfl
theorem lor_y (G : mG) : lor G = fun l => decide (¬ G 90 l = 0) := rfl
/-- boards and paces -/
def cpB (G : mG) : Prop := (0 ≤ G 1 6 ∧ G 1 6 ≤ 9) ∧ G 64 44 = G 1 6 ∧ (G 94 = G 2 ∧ G 95 = G 3 ∧ G 96 = G 4 ∧ G 97 = G 5 ∧ G 98 = G 6 ∧ G 99 = G 7) ∧ (∀ i, 0 ≤ G 2 i ∧ G 2 i ≤ 5) ∧ (∀ i, 0 ≤ G 4 i ∧ G 4 i ≤ 1000) ∧ (∀ i, 0 ≤ G 5 i ∧ G 5 i ≤ 255) ∧ (∀ i, i < 6 → 1 ≤ G 7 i ∧ G 7 i ≤ 9) ∧ G 6 0 = 0 ∧ (∀ i, G 6 i = 0 ∨ G 6 i = 1)
/-- facts -/
def cpF (G : mG) : Prop := (0 ≤ G 8 4 ∧ G 8 4 ≤ 300) ∧ G 64 51 = G 8 4 ∧ (G 100 = G 9 ∧ G 101 = G 10 ∧ G 102 = G 11 ∧ G 103 = G 12) ∧ (∀ i, 0 ≤ G 9 i ∧ G 9 i ≤ 4) ∧ (∀ i, 0 ≤ G 12 i ∧ G 12 i ≤ 13)
/-- the tape, the last fault's place, the words that the reference keeps -/
def cpT (G : mG) : Prop := (0 ≤ G 13 1 ∧ G 13 1 ≤ 3000) ∧ G 64 2 = G 13 1 ∧ G 65 = G 14 ∧ G 64 17 = G 0 10
/-- which contracts are in force -/
def cpL (c : Nat) (G : mG) : Prop := (c = 40 ∧ G 64 18 = 0 ∧ G 0 8 = 45 ∧ G 0 9 = 57) ∨ (c = 52 ∧ G 64 18 = 1 ∧ G 0 8 = 57 ∧ G 0 9 = 45)
/-- clause k of side L -/
def cpK (c : Nat) (G : mG) (L k : Nat) : Prop := (G 78 (40 * L + k) = G (c + 5) k ∧ 0 ≤ G (c + 5) k ∧ G (c + 5) k < G c 11) ∧
  ((G 77 (40 * L + k) = 0 ∧ G (c + 4) k = 18 ∧ (G 79 (40 * L + k) = G (c + 6) k ∧ 1 ≤ G (c + 6) k ∧ G (c + 6) k ≤ 9) ∧ (G 80 (40 * L + k) = G (c + 7) k ∧ 0 ≤ G (c + 7) k ∧ G (c + 7) k ≤ 5) ∧ (G 81 (40 * L + k) = G (c + 8) k ∧ 0 ≤ G (c + 8) k ∧ G (c + 8) k ≤ 9999)) ∨
   (G 77 (40 * L + k) = 1 ∧ G (c + 4) k = 21 ∧ G (c + 6) k = 0) ∨
   (G 77 (40 * L + k) = 2 ∧ G (c + 4) k = 22 ∧ G (c + 6) k = 0 ∧ 0 ≤ G 79 (40 * L + k) ∧ G 79 (40 * L + k) < G c 11) ∨
   (G 77 (40 * L + k) = 3 ∧ G (c + 4) k = 23 ∧ G 79 (40 * L + k) = G (c + 6) k ∧ 0 ≤ G (c + 6) k ∧ G (c + 6) k ≤ 100))
/-- clause k is weighed alike -/
def cpW (c : Nat) (G : mG) (L k : Nat) : Prop := ∀ (E va : Nat → Int) (mk : Int), (0 ≤ mk ∧ mk ≤ 255) → E 1 = va 0 → E 2 = va 1 → E 3 = va 2 → E 4 = mk → E 5 = va 3 → E 6 = va 4 → E 7 = va 5 →
  hC E (G (c + 11)) (G (c + 9) k).toNat (G (c + 10) k - G (c + 9) k).toNat = hRy (G 90) (G 86) (G 87) (G 88) (G 89) (G 91) (G 92) va mk (600 * L + (G 82 (40 * L + k)).toNat) (G 83 (40 * L + k) - G 82 (40 * L + k)).toNat
/-- the contracts in force -/
def cpC (c : Nat) (G : mG) (L : Nat) : Prop :=
  (0 ≤ G c 11 ∧ G c 11 ≤ 8) ∧ G 72 L = G c 11 ∧ (0 ≤ G c 12 ∧ G c 12 ≤ 40) ∧ G 76 L = G c 12 ∧
  (∀ x : Nat, (x : Int) < G c 11 → G 74 (8 * L + x) = G (c + 1) x ∧ G 75 (8 * L + x) = G (c + 2) x) ∧
  (∀ k : Nat, (k : Int) < G c 12 → cpK c G L k) ∧
  (∀ k j : Nat, (k : Int) < G c 12 → (j : Int) < G c 12 → G (c + 4) k = 18 → G (c + 4) j = 18 → G (c + 5) k = G (c + 5) j → G (c + 7) k = G (c + 7) j → k = j) ∧
  (∀ x y : Nat, (x : Int) < G c 11 → (y : Int) < G c 11 → (G (c + 3) (8 * x + y) = 0 ∨ G (c + 3) (8 * x + y) = 1) ∧ (G (c + 3) (8 * x + y) = 1 ↔ ∃ k : Nat, (k : Int) < G c 12 ∧ G 77 (40 * L + k) = 2 ∧ ((G 78 (40 * L + k) = (x : Int) ∧ G 79 (40 * L + k) = (y : Int)) ∨ (G 78 (40 * L + k) = (y : Int) ∧ G 79 (40 * L + k) = (x : Int))))) ∧
  (∀ k : Nat, (k : Int) < G c 12 → (G (c + 4) k = 21 ∨ G (c + 4) k = 23) → cpW c G L k)
/-- what is given -/
def cpG (c : Nat) (G : mG) : Prop := G 104 = G 23 ∧ (∀ i, i < 234 → -1 ≤ G 105 i ∧ G 105 i < 40) ∧ ∀ f : Nat, f < 26 → (G 23 f = 0 ∨ G 23 f = 1) ∧ (G 23 f = 0 → ∀ b, b < 9 → G 22 (9 * f + b) = -1) ∧
  (∀ b : Nat, b < 9 → G 22 (9 * f + b) = -1 ∨ (0 ≤ G 22 (9 * f + b) ∧ G 22 (9 * f + b) < G c 12 ∧ G (c + 4) (G 22 (9 * f + b)).toNat = 18 ∧ G (c + 7) (G 22 (9 * f + b)).toNat = G 2 b)) ∧
  (∀ b : Nat, b < 9 → G 1 6 ≤ (b : Int) → G 22 (9 * f + b) = -1) ∧ (G 23 f = 1 → ∀ b : Nat, (b : Int) < G 1 6 → G 105 (9 * f + b) = G 22 (9 * f + b))
def Cpl (c : Nat) (G : mG) : Prop := (cpB G ∧ cpF G ∧ cpT G) ∧ cpL c G ∧ cpC c G (G 64 18).toNat ∧ cpG c G ∧ cB c G ∧ rW G
/-- cells that were not changed -/
def dj (U W : List Nat) : Bool := U.all (fun k => !(W.contains k))
theorem dj_k {U W : List Nat} {G H : mG} (hd : dj U W = true) (hW : ∀ k, ¬ k ∈ W → H k = G k) {k : Nat} (hk : U.contains k = true) : H k = G k := by
  refine hW k (fun hm => ?_)
  have h1 := List.all_eq_true.mp hd k (List.contains_iff_mem.mp hk)
  rw [List.contains_iff_mem.mpr hm] at h1
  cases h1
def cpUB : List Nat := [1, 2, 3, 4, 5, 6, 7, 94, 95, 96, 97, 98, 99]
def cpUF : List Nat := [8, 9, 10, 11, 12, 100, 101, 102, 103]
def cpUT : List Nat := [0, 13, 14, 65]
def cpUC : List Nat := [40, 41, 42, 43, 44, 45, 46, 47, 48, 49, 50, 51, 52, 53, 54, 55, 56, 57, 58, 59, 60, 61, 62, 63]
def cpUR : List Nat := [72, 74, 75, 76, 77, 78, 79, 80, 81, 82, 83, 86, 87, 88, 89, 90, 91, 92]
def cpUG : List Nat := [1, 2, 22, 23, 104, 105]
theorem cpUC_c {c i : Nat} (hc : c = 40 ∨ c = 52) (hi : i < 12) : cpUC.contains (c + i) = true := by
  refine List.contains_iff_mem.mpr ?_
  unfold cpUC
  simp only [List.mem_cons, List.not_mem_nil, or_false]
  omega
section CPT
variable {c : Nat} {G H : mG} {W : List Nat}
theorem cpB_to (h : cpB G) (hW : ∀ k, ¬ k ∈ W → H k = G k) (hd : dj cpUB W = true) (f44 : H 64 44 = G 64 44) : cpB H := by
  unfold cpB
  rw [f44, dj_k (k := 1) hd hW rfl, dj_k (k := 2) hd hW rfl, dj_k (k := 3) hd hW rfl, dj_k (k := 4) hd hW rfl, dj_k (k := 5) hd hW rfl, dj_k (k := 6) hd hW rfl, dj_k (k := 7) hd hW rfl, dj_k (k := 94) hd hW rfl, dj_k (k := 95) hd hW rfl, dj_k (k := 96) hd hW rfl, dj_k (k := 97) hd hW rfl, dj_k (k := 98) hd hW rfl, dj_k (k := 99) hd hW rfl]
  exact h
theorem cpF_to (h : cpF G) (hW : ∀ k, ¬ k ∈ W → H k = G k) (hd : dj cpUF W = true) (f51 : H 64 51 = G 64 51) : cpF H := by
  unfold cpF
  rw [f51, dj_k (k := 8) hd hW rfl, dj_k (k := 9) hd hW rfl, dj_k (k := 10) hd hW rfl, dj_k (k := 11) hd hW rfl, dj_k (k := 12) hd hW rfl, dj_k (k := 100) hd hW rfl, dj_k (k := 101) hd hW rfl, dj_k (k := 102) hd hW rfl, dj_k (k := 103) hd hW rfl]
  exact h
theorem cpT_to (h : cpT G) (hW : ∀ k, ¬ k ∈ W → H k = G k) (hd : dj cpUT W = true) (f2 : H 64 2 = G 64 2) (f17 : H 64 17 = G 64 17) : cpT H := by
  unfold cpT
  rw [f2, f17, dj_k (k := 0) hd hW rfl, dj_k (k := 13) hd hW rfl, dj_k (k := 14) hd hW rfl, dj_k (k := 65) hd hW rfl]
  exact h
theorem cpL_to (h : cpL c G) (h0 : H 0 = G 0) (f18 : H 64 18 = G 64 18) : cpL c H := by
  unfold cpL
  rw [f18, h0]
  exact h
theorem cpC_to {L : Nat} (hc : c = 40 ∨ c = 52) (h : cpC c G L) (hW : ∀ k, ¬ k ∈ W → H k = G k) (hd : dj cpUC W = true) (hr : dj cpUR W = true) : cpC c H L := by
  have e0 : H c = G c := dj_k hd hW (cpUC_c (i := 0) hc (by omega))
  have e1 : H (c + 1) = G (c + 1) := dj_k hd hW (cpUC_c hc (by omega))
  have e2 : H (c + 2) = G (c + 2) := dj_k hd hW (cpUC_c hc (by omega))
  have e3 : H (c + 3) = G (c + 3) := dj_k hd hW (cpUC_c hc (by omega))
  have e4 : H (c + 4) = G (c + 4) := dj_k hd hW (cpUC_c hc (by omega))
  have e5 : H (c + 5) = G (c + 5) := dj_k hd hW (cpUC_c hc (by omega))
  have e6 : H (c + 6) = G (c + 6) := dj_k hd hW (cpUC_c hc (by omega))
  have e7 : H (c + 7) = G (c + 7) := dj_k hd hW (cpUC_c hc (by omega))
  have e8 : H (c + 8) = G (c + 8) := dj_k hd hW (cpUC_c hc (by omega))
  have e9 : H (c + 9) = G (c + 9) := dj_k hd hW (cpUC_c hc (by omega))
  have e10 : H (c + 10) = G (c + 10) := dj_k hd hW (cpUC_c hc (by omega))
  have e11 : H (c + 11) = G (c + 11) := dj_k hd hW (cpUC_c hc (by omega))
  unfold cpC cpK cpW
  rw [e0, e1, e2, e3, e4, e5, e6, e7, e8, e9, e10, e11, dj_k (k := 72) hr hW rfl, dj_k (k := 74) hr hW rfl, dj_k (k := 75) hr hW rfl, dj_k (k := 76) hr hW rfl, dj_k (k := 77) hr hW rfl, dj_k (k := 78) hr hW rfl, dj_k (k := 79) hr hW rfl, dj_k (k := 80) hr hW rfl, dj_k (k := 81) hr hW rfl, dj_k (k := 82) hr hW rfl, dj_k (k := 83) hr hW rfl, dj_k (k := 86) hr hW rfl, dj_k (k := 87) hr hW rfl, dj_k (k := 88) hr hW rfl, dj_k (k := 89) hr hW rfl, dj_k (k := 90) hr hW rfl, dj_k (k := 91) hr hW rfl, dj_k (k := 92) hr hW rfl]
  exact h
theorem cpG_to (hc : c = 40 ∨ c = 52) (h : cpG c G) (hW : ∀ k, ¬ k ∈ W → H k = G k) (hd : dj cpUC W = true) (hg : dj cpUG W = true) : cpG c H := by
  have e0 : H c = G c := dj_k hd hW (cpUC_c (i := 0) hc (by omega))
  have e4 : H (c + 4) = G (c + 4) := dj_k hd hW (cpUC_c hc (by omega))
  have e7 : H (c + 7) = G (c + 7) := dj_k hd hW (cpUC_c hc (by omega))
  unfold cpG
  rw [e0, e4, e7, dj_k (k := 1) hg hW rfl, dj_k (k := 2) hg hW rfl, dj_k (k := 22) hg hW rfl, dj_k (k := 23) hg hW rfl, dj_k (k := 104) hg hW rfl, dj_k (k := 105) hg hW rfl]
  exact h
theorem cBr_to (hc : c = 40 ∨ c = 52) (h1 : cB c G) (h2 : rW G) (hW : ∀ k, ¬ k ∈ W → H k = G k) (hd : dj cpUC W = true) (hr : dj cpUR W = true) (f18 : H 64 18 = G 64 18) : cB c H ∧ rW H := by
  refine ⟨cB_to h1 (dj_k hd hW (cpUC_c (i := 0) hc (by omega))) (dj_k hd hW (cpUC_c hc (by omega))) (dj_k hd hW (cpUC_c hc (by omega))), rW_to h2 f18 (fun k hk => dj_k hr hW ?_)⟩
  simp only [List.mem_cons, List.not_mem_nil, or_false] at hk
  refine List.contains_iff_mem.mpr ?_
  unfold cpUR
  simp only [List.mem_cons, List.not_mem_nil, or_false]
  omega
theorem Cpl_c (h : Cpl c G) : c = 40 ∨ c = 52 := by
  rcases h.2.1 with h | h
  · exact Or.inl h.1
  · exact Or.inr h.1
/-- the contracts and what else no telling changes -/
theorem cpR_to (h : Cpl c G) (hW : ∀ k, ¬ k ∈ W → H k = G k) (hd : dj cpUC W = true) (hr : dj cpUR W = true) (h0 : dj [0] W = true) (f18 : H 64 18 = G 64 18) : cpL c H ∧ cpC c H (H 64 18).toNat ∧ cB c H ∧ rW H := by
  have hc := Cpl_c h
  obtain ⟨_, b4, b5, _, b7, b8⟩ := h
  obtain ⟨r1, r2⟩ := cBr_to hc b7 b8 hW hd hr f18
  exact ⟨cpL_to b4 (dj_k h0 hW rfl) f18, by rw [f18]; exact cpC_to hc b5 hW hd hr, r1, r2⟩
/-- what changes only where the coupling doesn't look -/
theorem Cpl_to (h : Cpl c G) (hW : ∀ k, ¬ k ∈ W → H k = G k) (hd : dj (cpUB ++ cpUF ++ cpUT ++ cpUC ++ cpUR ++ cpUG) W = true) (h64 : ∀ j, j ∈ ([2, 17, 18, 44, 51] : List Nat) → H 64 j = G 64 j) : Cpl c H := by
  have sub : ∀ U : List Nat, (∀ k, k ∈ U → k ∈ cpUB ++ cpUF ++ cpUT ++ cpUC ++ cpUR ++ cpUG) → dj U W = true := by
    intro U hU
    refine List.all_eq_true.mpr (fun k hk => List.all_eq_true.mp hd k (hU k hk))
  have hc := Cpl_c h
  have hC := sub cpUC (fun k hk => by simp [hk])
  have hR := sub cpUR (fun k hk => by simp [hk])
  have hG := sub cpUG (fun k hk => by simp [hk])
  obtain ⟨r1, r2, r3, r4⟩ := cpR_to h hW hC hR (sub [0] (fun k hk => by simp only [List.mem_cons, List.not_mem_nil, or_false] at hk; subst hk; decide)) (h64 18 (by decide))
  obtain ⟨⟨b1, b2, b3⟩, b4, b5, b6, b7, b8⟩ := h
  exact ⟨⟨cpB_to b1 hW (sub cpUB (fun k hk => by simp [hk])) (h64 44 (by decide)), cpF_to b2 hW (sub cpUF (fun k hk => by simp [hk])) (h64 51 (by decide)), cpT_to b3 hW (sub cpUT (fun k hk => by simp [hk])) (h64 2 (by decide)) (h64 17 (by decide))⟩, r1, r2, cpG_to hc b6 hW hC hG, r3, r4⟩
end CPT
/-- the reference's words are never written -/
def nk71 (k : Nat) : Bool := !(decide (k = 71))
/-- a public method of both: one answer, and the coupling holds behind -/
def bth (d : Nat) (M1 M2 : mM) (as : List mV) (G : mG) : Prop := P2 nk71 d M1 (mR 5 :: as) G (fun v G1 => ∃ a : Int, v = some (mI a) ∧ P2 nk71 d M2 (mR 69 :: as) G1 (fun v2 G2 => v2 = some (mI a) ∧ ∃ c, Cpl c G2))
theorem allD {l : List Nat} (h : inN l 71 = false) : ∀ k, nk71 k = false → inN l k = false := fun k hk => by
  by_cases e : k = 71
  · subst e; exact h
  · exfalso
    unfold nk71 at hk
    rw [decide_eq_false e] at hk
    exact absurd hk (by decide)
theorem bth_mk {d : Nat} {M1 M2 : mM} {as : List mV} {G G1 G2 : mG} {x y : Int} (h1 : ∀ Q : Option mV → mG → Prop, Q (some (mI x)) G1 → P2 nk71 d M1 (mR 5 :: as) G Q) (h2 : ∀ Q : Option mV → mG → Prop, Q (some (mI y)) G2 → P2 nk71 d M2 (mR 69 :: as) G1 Q) (e : y = x) (hC : ∃ c, Cpl c G2) : bth d M1 M2 as G :=
  h1 _ ⟨x, rfl, h2 _ ⟨by rw [e], hC⟩⟩
theorem bth_mk2 {d : Nat} {M1 M2 : mM} {as : List mV} {G G1 : mG} {R : mG → Prop} {x y : Int} (h1 : ∀ Q : Option mV → mG → Prop, Q (some (mI x)) G1 → P2 nk71 d M1 (mR 5 :: as) G Q) (h2 : ∀ Q : Option mV → mG → Prop, (∀ G2, R G2 → Q (some (mI y)) G2) → P2 nk71 d M2 (mR 69 :: as) G1 Q) (e : y = x) (hC : ∀ G2, R G2 → ∃ c, Cpl c G2) : bth d M1 M2 as G :=
  h1 _ ⟨x, rfl, h2 _ (fun G2 hR => ⟨by rw [e], hC G2 hR⟩)⟩
