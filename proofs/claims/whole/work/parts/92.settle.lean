/-! ===== named, settled ===== -/
section NMD
variable {S n e i q : Nat} {H : mG} {Q : Option mV → mG → Prop}
theorem nm_loop (hi : i ≤ 600) (hS : S ≤ 1) (h19 : H 64 19 = (S : Int)) (hn : n ≤ 8) (hE : W2 o_X12 M_X12_named (inN [64]) (q + 3) Q 61 [some (mR 69), some (mI ((e : Nat) : Int)), some (mI ((i : Nat) : Int)), some (mI (fs (fun j => decide (H 73 (8 * S + j) = H 70 i)) n)), none] [] H) : ∀ j : Nat, j ≤ n → ∀ x : Int, ((x = -1 ∧ ∀ k, j ≤ k → k < n → decide (H 73 (8 * S + k) = H 70 i) = false) ∨ ∃ k : Nat, j ≤ k ∧ k < n ∧ x = (k : Int) ∧ decide (H 73 (8 * S + k) = H 70 i) = true ∧ ∀ a, j ≤ a → a < k → decide (H 73 (8 * S + a) = H 70 i) = false) → W2 o_X12 M_X12_named (inN [64]) (q + 3) Q 22 [some (mR 69), some (mI ((e : Nat) : Int)), some (mI ((i : Nat) : Int)), some (mI x), some (mI (((j : Nat) : Int) - 1))] [] H := by
  intro j
  induction j with
  | zero =>
    intro _ x hx
    have ex : fs (fun j => decide (H 73 (8 * S + j) = H 70 i)) n = x := by
      rcases hx with ⟨h1, h2⟩ | ⟨k, k1, k2, k3, k4, k5⟩
      · rw [h1]; exact fs_no (fun a ha => h2 a (Nat.zero_le a) ha)
      · rw [k3]; exact fs_at (fun a ha => k5 a (Nat.zero_le a) ha) k4 k2
    rw [ex] at hE
    exact nm_22z (by omega) hE
  | succ j ih =>
    intro hj x hx
    have ej : w32 ((w32 (8 * (H 64 19))) + ((j : Nat) : Int)) = ((8 * S + j : Nat) : Int) := by
      rw [h19, w32_i (x := 8 * ((S : Nat) : Int)) (by omega) (by omega), w32_i (by omega) (by omega)]; omega
    have em : w32 (((j : Nat) : Int) + (-1)) = ((j : Nat) : Int) - 1 := by rw [w32_i (by omega) (by omega)]; omega
    rw [show (((j + 1 : Nat) : Int) - 1) = ((j : Nat) : Int) from by omega]
    refine nm_22s hi (by omega) (by omega) (fun y => ?_) (fun y => ?_)
    · rw [ej, st_nat] at y
      rw [em]
      exact ih (by omega) _ (Or.inr ⟨j, Nat.le_refl j, by omega, rfl, decide_eq_true y, fun a a1 a2 => absurd a2 (by omega)⟩)
    · rw [ej, st_nat] at y
      rw [em]
      refine ih (by omega) x ?_
      rcases hx with ⟨h1, h2⟩ | ⟨k, k1, k2, k3, k4, k5⟩
      · refine Or.inl ⟨h1, fun k k1 k2 => ?_⟩
        by_cases z : k = j
        · subst z; exact decide_eq_false y
        · exact h2 k (by omega) k2
      · refine Or.inr ⟨k, by omega, k2, k3, k4, fun a a1 a2 => ?_⟩
        by_cases z : a = j
        · subst z; exact decide_eq_false y
        · exact k5 a (by omega) a2
/-- what named says and does -/
def NR (S n e i o : Nat) (H : mG) (x : Int) (H2 : mG) : Prop := x = fs (fun j => decide (H 73 (8 * S + j) = H 70 i)) n ∧ ((x = -1 ∧ H2 = e_X12_wrong H 4 ((i : Nat) : Int)) ∨ (¬ x = -1 ∧ H 73 (8 * S + o) = H 70 i ∧ H2 = e_X12_wrong H 5 ((i : Nat) : Int)) ∨ (¬ x = -1 ∧ ¬ H 73 (8 * S + o) = H 70 i ∧ H2 = H))
theorem sp_named {D : Nat → Bool} {o : Nat} (hD : ∀ k, D k = false → inN [64] k = false) (hS : S ≤ 1) (he : e < 80) (h84 : H 84 e = (i : Int)) (hi : i ≤ 600) (h19 : H 64 19 = (S : Int)) (hn : n ≤ 8) (h72 : H 72 S = (n : Int)) (h78 : H 78 e = (o : Int)) (ho : o < 8) (hQ : ∀ x H2, NR S n e i o H x H2 → Q (some (mI x)) H2) : P2 D (q + 3) M_X12_named [mR 69, mI ((e : Nat) : Int)] H Q := by
  refine nm_0 hD he h84 (by omega) ?_
  have e1 : w32 ((H 72 (Int.toNat (H 64 19))) - 1) = ((n : Nat) : Int) - 1 := by rw [h19, st_nat, h72, w32_i (by omega) (by omega)]
  have eo : w32 ((w32 (8 * (H 64 19))) + (H 78 e)) = ((8 * S + o : Nat) : Int) := by
    rw [h19, h78, w32_i (x := 8 * ((S : Nat) : Int)) (by omega) (by omega), w32_i (by omega) (by omega)]; omega
  rw [e1]
  refine nm_loop hi hS h19 hn ?_ n (Nat.le_refl n) (-1) (Or.inl ⟨rfl, fun k k1 k2 => absurd k2 (by omega)⟩)
  refine nm_61 he hi (by omega) (by rw [st_nat]; omega) (fun y => hQ _ _ ⟨rfl, Or.inl ⟨y, rfl⟩⟩) (fun y1 y2 => ?_) (fun y1 y2 => ?_)
  · rw [eo, st_nat] at y2
    exact hQ _ _ ⟨rfl, Or.inr (Or.inl ⟨y1, y2, rfl⟩)⟩
  · rw [eo, st_nat] at y2
    exact hQ _ _ ⟨rfl, Or.inr (Or.inr ⟨y1, y2, rfl⟩)⟩
end NMD
/-- the rival that a clause names: its first campaign of that name -/
def rv (n : Nat) (F : mG) (k : Nat) : Int := fs (fun x => decide (F 16 x = F 17 k)) n
/-- both have settled j clauses -/
def ST (c S n j : Nat) (F0 H0 z H : mG) : Prop := (∀ a, a ≠ 15 → a ≠ c + 3 → z a = F0 a) ∧ (∀ i, i ≠ 10 → i ≠ 11 → z 15 i = F0 15 i) ∧ (∀ a, a ≠ 64 → a ≠ 79 → H a = H0 a) ∧ (∀ i, i ≠ 15 → i ≠ 16 → H 64 i = H0 64 i) ∧ (∀ i, ¬ (40 * S ≤ i ∧ i < 40 * S + 40 ∧ H0 77 i = 2) → H 79 i = H0 79 i) ∧ (bq (z 15 10) (z 15 11) (H 64 15) (H 64 16)) ∧ (bmn F0 z) ∧ (∀ k, k < j → F0 (c + 4) k = 22 → H 79 (40 * S + k) = rv n F0 k) ∧ (z 15 10 = 0 → ∀ k, k < j → F0 (c + 4) k = 22 → 0 ≤ rv n F0 k ∧ ¬ rv n F0 k = F0 (c + 5) k) ∧ (z 15 10 = 0 → ∀ x y : Nat, x < 8 → y < 8 → (z (c + 3) (8 * x + y) = 0 ∨ z (c + 3) (8 * x + y) = 1) ∧ (z (c + 3) (8 * x + y) = 1 ↔ ∃ k, k < j ∧ F0 (c + 4) k = 22 ∧ ((F0 (c + 5) k = (x : Int) ∧ rv n F0 k = (y : Int)) ∨ (F0 (c + 5) k = (y : Int) ∧ rv n F0 k = (x : Int)))))
theorem ST.za {c S n j : Nat} {F0 H0 z H : mG} (h : ST c S n j F0 H0 z H) : ∀ a, a ≠ 15 → a ≠ c + 3 → z a = F0 a := h.1
theorem ST.z15 {c S n j : Nat} {F0 H0 z H : mG} (h : ST c S n j F0 H0 z H) : ∀ i, i ≠ 10 → i ≠ 11 → z 15 i = F0 15 i := h.2.1
theorem ST.ha {c S n j : Nat} {F0 H0 z H : mG} (h : ST c S n j F0 H0 z H) : ∀ a, a ≠ 64 → a ≠ 79 → H a = H0 a := h.2.2.1
theorem ST.h64 {c S n j : Nat} {F0 H0 z H : mG} (h : ST c S n j F0 H0 z H) : ∀ i, i ≠ 15 → i ≠ 16 → H 64 i = H0 64 i := h.2.2.2.1
theorem ST.h79 {c S n j : Nat} {F0 H0 z H : mG} (h : ST c S n j F0 H0 z H) : ∀ i, ¬ (40 * S ≤ i ∧ i < 40 * S + 40 ∧ H0 77 i = 2) → H 79 i = H0 79 i := h.2.2.2.2.1
theorem ST.bqq {c S n j : Nat} {F0 H0 z H : mG} (h : ST c S n j F0 H0 z H) : bq (z 15 10) (z 15 11) (H 64 15) (H 64 16) := h.2.2.2.2.2.1
theorem ST.bm {c S n j : Nat} {F0 H0 z H : mG} (h : ST c S n j F0 H0 z H) : bmn F0 z := h.2.2.2.2.2.2.1
theorem ST.riv {c S n j : Nat} {F0 H0 z H : mG} (h : ST c S n j F0 H0 z H) : ∀ k, k < j → F0 (c + 4) k = 22 → H 79 (40 * S + k) = rv n F0 k := h.2.2.2.2.2.2.2.1
theorem ST.okk {c S n j : Nat} {F0 H0 z H : mG} (h : ST c S n j F0 H0 z H) : z 15 10 = 0 → ∀ k, k < j → F0 (c + 4) k = 22 → 0 ≤ rv n F0 k ∧ ¬ rv n F0 k = F0 (c + 5) k := h.2.2.2.2.2.2.2.2.1
theorem ST.apa {c S n j : Nat} {F0 H0 z H : mG} (h : ST c S n j F0 H0 z H) : z 15 10 = 0 → ∀ x y : Nat, x < 8 → y < 8 → (z (c + 3) (8 * x + y) = 0 ∨ z (c + 3) (8 * x + y) = 1) ∧ (z (c + 3) (8 * x + y) = 1 ↔ ∃ k, k < j ∧ F0 (c + 4) k = 22 ∧ ((F0 (c + 5) k = (x : Int) ∧ rv n F0 k = (y : Int)) ∨ (F0 (c + 5) k = (y : Int) ∧ rv n F0 k = (x : Int)))) := h.2.2.2.2.2.2.2.2.2
section STL
variable {c S n m p l qq t j q : Nat} {L : Int} {r : Nat → Int} {F0 H0 z H : mG} {Q : Option mV → mG → Prop}
theorem bl_keep {f p x y : Int} (h : ¬ f = 0) (hp : p < y) : bl f p x y = (f, p) := by
  unfold bl
  rw [if_neg (by omega)]
/-- both blame a rival -/
theorem st_blame {i : Nat} {x : Int} (hc : c = 40 ∨ c = 52) (hm : j < 40) (st : ST c S n j F0 H0 z H) (h13 : H0 64 13 = 0) (hx : 0 < x) (hy : F0 18 j = H0 68 i) (h77 : H0 77 (40 * S + j) = 2) : ST c S n (j + 1) F0 H0 (e_X7_blame z x (z 18 (Int.toNat ((j : Nat) : Int)))) (gs (e_X12_wrong H x ((i : Nat) : Int)) 79 (40 * S + j) (rv n F0 j)) := by
  have hc18 : (18 : Nat) ≠ 15 ∧ (18 : Nat) ≠ c + 3 := by omega
  have hc3 : c + 3 ≠ 15 := by omega
  rw [st_nat, st.za 18 hc18.1 hc18.2, hy]
  have k13 : H 64 13 = 0 := by rw [st.h64 13 (by decide) (by decide)]; exact h13
  have k68 : H 68 i = H0 68 i := by rw [st.ha 68 (by decide) (by decide)]
  obtain ⟨p1, p2, p3, p4⟩ := blame_bl (G := z) (x := x) (y := H0 68 i)
  obtain ⟨w1, w2⟩ := fx_wrong H x ((i : Nat) : Int)
  obtain ⟨u1, u2⟩ := wrong_bl (x := x) (y := ((i : Nat) : Int)) k13
  rw [st_nat, k68] at u1 u2
  have hbq := st.bqq
  have hle := bl_le (f := z 15 10) (p := z 15 11) (x := x) (y := H0 68 i) hbq.2.2 hx
  have hn0 : ¬ (e_X7_blame z x (H0 68 i)) 15 10 = 0 := by rw [p1]; omega
  refine ⟨fun a z1 z2 => by rw [p3 a z1]; exact st.za a z1 z2, fun i z1 z2 => by rw [p4 i z1 z2]; exact st.z15 i z1 z2, fun a z1 z2 => by rw [gs_ne z2, w1 a z1]; exact st.ha a z1 z2, fun i z1 z2 => by rw [gs_ne (by decide), w2 i z1 z2]; exact st.h64 i z1 z2, fun i hi => ?_, ?_, ?_, fun k hk hk4 => ?_, fun y => absurd y hn0, fun y => absurd y hn0⟩
  · rw [gs_at_ne (fun y => hi (by subst y; exact ⟨by omega, by omega, h77⟩)), w1 79 (by decide)]
    exact st.h79 i hi
  · rw [gs_ne (by decide), p1, p2, u1, u2]
    exact bl_bq hbq hx
  · refine ⟨fun y => absurd y hn0, fun y => ?_⟩
    rw [p2]
    have b1 : ¬ z 15 10 = 0 := fun w => y (st.bm.1 w)
    exact Int.le_trans (hle.2.2 b1) (st.bm.2 y)
  · by_cases y : k = j
    · subst y; rw [gs_at]
    · rw [gs_at_ne (by omega), w1 79 (by decide)]
      exact st.riv k (by omega) hk4
theorem sa_idx {a b o x : Nat} (h1 : a < 8) (h2 : b < 8) (h3 : o < 8) (h4 : x < 8) : 8 * a + b = 8 * o + x ↔ a = o ∧ b = x := by omega
/-- the class sets two campaigns apart, the reference keeps the rival -/
theorem st_apart {H2 : mG} {o x : Nat} (hc : c = 40 ∨ c = 52) (hm : j < 40) (hn : n ≤ 8) (st : ST c S n j F0 H0 z H) (h11 : F0 c 11 = (n : Int)) (hk4 : F0 (c + 4) j = 22) (h77 : H0 77 (40 * S + j) = 2) (ho : F0 (c + 5) j = (o : Int)) (hon : o < n) (hx : rv n F0 j = (x : Int)) (hxn : x < n) (hox : ¬ x = o) (g1 : ∀ a, a ≠ 64 → H2 a = H a) (g2 : ∀ i, i ≠ 15 → i ≠ 16 → H2 64 i = H 64 i) (g3 : H2 64 15 = H 64 15 ∧ H2 64 16 = H 64 16) : ST c S n (j + 1) F0 H0 (e_X1_setApart c z (o : Int) (x : Int)) (gs H2 79 (40 * S + j) (rv n F0 j)) := by
  have hcc : c ≠ 15 ∧ c ≠ c + 3 := by omega
  have c11 : z c 11 = (n : Int) := by rw [st.za c hcc.1 hcc.2]; exact h11
  have e : e_X1_setApart c z (o : Int) (x : Int) = gs (gs z (c + 3) (8 * o + x) 1) (c + 3) (8 * x + o) 1 := by
    unfold e_X1_setApart f_X1_hasCampaign
    rw [c11, if_neg (show ¬ (o : Int) < 0 by omega), if_neg (show ¬ (n : Int) ≤ (o : Int) by omega), if_neg (show ¬ (8 : Int) ≤ (o : Int) by omega), if_neg (by decide), if_neg (show ¬ (x : Int) < 0 by omega), if_neg (show ¬ (n : Int) ≤ (x : Int) by omega), if_neg (show ¬ (8 : Int) ≤ (x : Int) by omega), if_neg (by decide)]
    rw [w32_i (x := (o : Int) * 8) (by omega) (by omega), w32_i (x := (x : Int) * 8) (by omega) (by omega), w32_i (x := (o : Int) * 8 + (x : Int)) (by omega) (by omega), w32_i (x := (x : Int) * 8 + (o : Int)) (by omega) (by omega), show ((o : Int) * 8 + (x : Int)).toNat = 8 * o + x from by omega, show ((x : Int) * 8 + (o : Int)).toNat = 8 * x + o from by omega]
  rw [e]
  have f3 : c + 3 ≠ 15 := by omega
  have ea : ∀ a, a ≠ c + 3 → (gs (gs z (c + 3) (8 * o + x) 1) (c + 3) (8 * x + o) 1) a = z a := fun a h => by rw [gs_ne h, gs_ne h]
  have e15 : (gs (gs z (c + 3) (8 * o + x) 1) (c + 3) (8 * x + o) 1) 15 = z 15 := ea 15 (fun h => f3 h.symm)
  refine ⟨fun a z1 z2 => by rw [ea a z2]; exact st.za a z1 z2, fun i z1 z2 => by rw [e15]; exact st.z15 i z1 z2, fun a z1 z2 => by rw [gs_ne z2, g1 a z1]; exact st.ha a z1 z2, fun i z1 z2 => by rw [gs_ne (by decide), g2 i z1 z2]; exact st.h64 i z1 z2, fun i hi => ?_, ?_, ?_, fun k hk hk4 => ?_, fun y k hk k4 => ?_, fun y a b ha hb => ?_⟩
  · rw [gs_at_ne (fun y => hi (by subst y; exact ⟨by omega, by omega, h77⟩)), g1 79 (by decide)]
    exact st.h79 i hi
  · rw [e15, gs_ne (show (64 : Nat) ≠ 79 by decide), g3.1, g3.2]; exact st.bqq
  · unfold bmn; rw [e15]; exact st.bm
  · by_cases y : k = j
    · subst y; rw [gs_at]
    · rw [gs_at_ne (by omega), g1 79 (by decide)]
      exact st.riv k (by omega) hk4
  · rw [e15] at y
    by_cases w : k = j
    · subst w; rw [hx, ho]; omega
    · exact st.okk y k (by omega) k4
  · rw [e15] at y
    obtain ⟨q1, q2⟩ := st.apa y a b ha hb
    have i1 := sa_idx ha hb (show x < 8 by omega) (show o < 8 by omega)
    have i2 := sa_idx ha hb (show o < 8 by omega) (show x < 8 by omega)
    by_cases w1 : 8 * a + b = 8 * x + o
    · obtain ⟨v1, v2⟩ := i1.mp w1
      rw [w1, gs_at]
      refine ⟨Or.inr rfl, fun _ => ⟨j, by omega, hk4, Or.inr ⟨?_, ?_⟩⟩, fun _ => rfl⟩
      · rw [ho, v2]
      · rw [hx, v1]
    · rw [gs_at_ne w1]
      by_cases w2 : 8 * a + b = 8 * o + x
      · obtain ⟨v1, v2⟩ := i2.mp w2
        rw [w2, gs_at]
        refine ⟨Or.inr rfl, fun _ => ⟨j, by omega, hk4, Or.inl ⟨?_, ?_⟩⟩, fun _ => rfl⟩
        · rw [ho, v1]
        · rw [hx, v2]
      · rw [gs_at_ne w2]
        refine ⟨q1, fun y1 => ?_, fun ⟨k, k1, k2, k3⟩ => ?_⟩
        · obtain ⟨k, k1, k2, k3⟩ := q2.mp y1
          exact ⟨k, by omega, k2, k3⟩
        · by_cases w : k = j
          · subst w
            exfalso
            rw [ho, hx] at k3
            rcases k3 with ⟨v1, v2⟩ | ⟨v1, v2⟩
            · exact w2 (i2.mpr ⟨by omega, by omega⟩)
            · exact w1 (i1.mpr ⟨by omega, by omega⟩)
          · exact q2.mpr ⟨k, by omega, k2, k3⟩
theorem st_same {z' : mG} (st : ST c S n j F0 H0 z H) (hk4 : ¬ F0 (c + 4) j = 22) (e : z' = z) : ST c S n (j + 1) F0 H0 z' H := by
  subst e
  refine ⟨st.za, st.z15, st.ha, st.h64, st.h79, st.bqq, st.bm, fun k hk k4 => ?_, fun y k hk k4 => ?_, fun y a b ha hb => ?_⟩
  · by_cases w : k = j
    · subst w; exact absurd k4 hk4
    · exact st.riv k (by omega) k4
  · by_cases w : k = j
    · subst w; exact absurd k4 hk4
    · exact st.okk y k (by omega) k4
  · obtain ⟨q1, q2⟩ := st.apa y a b ha hb
    refine ⟨q1, fun y1 => ?_, fun ⟨k, k1, k2, k3⟩ => ?_⟩
    · obtain ⟨k, k1, k2, k3⟩ := q2.mp y1
      exact ⟨k, by omega, k2, k3⟩
    · by_cases w : k = j
      · subst w; exact absurd k2 hk4
      · exact q2.mpr ⟨k, by omega, k2, k3⟩
/-- one clause settled by the class -/
theorem g_settle {G : mG} (hc : c = 40 ∨ c = 52) (hn : n ≤ 8) (hm : m ≤ 40) (hj : j < m) (st : ST c S n j F0 H0 z H) (h11 : F0 c 11 = (n : Int)) (h12 : F0 c 12 = (m : Int)) : g_X7_settleRivals_2 c G j z = if ¬ F0 (c + 4) j = 22 then z else (if ¬ rv n F0 j = -1 then (if ¬ rv n F0 j = F0 (c + 5) j then e_X1_setApart c z (F0 (c + 5) j) (rv n F0 j) else e_X7_blame z 5 (z 18 (Int.toNat ((j : Nat) : Int)))) else e_X7_blame z 4 (z 18 (Int.toNat ((j : Nat) : Int)))) := by
  have hcc : c ≠ 15 ∧ c ≠ c + 3 ∧ c + 4 ≠ 15 ∧ c + 4 ≠ c + 3 ∧ c + 5 ≠ 15 ∧ c + 5 ≠ c + 3 ∧ (16 : Nat) ≠ c + 3 ∧ (17 : Nat) ≠ c + 3 := by omega
  have c11 : z c 11 = (n : Int) := by rw [st.za c hcc.1 hcc.2.1]; exact h11
  have c12 : z c 12 = (m : Int) := by rw [st.za c hcc.1 hcc.2.1]; exact h12
  have e4 : f_X1_kindOf c z ((j : Nat) : Int) = F0 (c + 4) j := by rw [at_kind (by omega) (by omega), st.za _ hcc.2.2.1 hcc.2.2.2.1]
  have e5 : f_X1_ownerOf c z ((j : Nat) : Int) = F0 (c + 5) j := by rw [at_owner (by omega) (by omega), st.za _ hcc.2.2.2.2.1 hcc.2.2.2.2.2.1]
  have er : f_X7_campaignOf c z (z 17 (Int.toNat ((j : Nat) : Int))) = rv n F0 j := by
    rw [camp_fs c11, st_nat, st.za 16 (by decide) hcc.2.2.2.2.2.2.1, st.za 17 (by decide) hcc.2.2.2.2.2.2.2]
    rfl
  unfold g_X7_settleRivals_2
  rw [e4, e5, er]
set_option maxHeartbeats 8000000 in
/-- all clauses settled -/
theorem st_loop (hc : c = 40 ∨ c = 52) (hS : S ≤ 1) (hjb : JB c S (tb L r) n m p l qq t F0 H0) (h11 : F0 c 11 = (n : Int)) (h12 : F0 c 12 = (m : Int)) (r72 : H0 72 S = (n : Int)) (r76 : H0 76 S = (m : Int)) (r19 : H0 64 19 = (S : Int)) (r13 : H0 64 13 = 0) {G : mG} (hE : ∀ H', ST c S n m F0 H0 (fd (g_X7_settleRivals_2 c G) F0 m) H' → W2 o_X12 M_X12_read (inN [64, 66, 67, 68, 69, 70, 72, 73, 74, 75, 76, 77, 78, 79, 80, 81, 82, 83, 84, 85, 86, 87, 88, 89, 90, 91, 92, 93, 104]) (q + 20) Q 202 [some (mR 69), none] [] H') : ∀ d j : Nat, j + d = m → ∀ H : mG, ST c S n j F0 H0 (fd (g_X7_settleRivals_2 c G) F0 j) H → W2 o_X12 M_X12_read (inN [64, 66, 67, 68, 69, 70, 72, 73, 74, 75, 76, 77, 78, 79, 80, 81, 82, 83, 84, 85, 86, 87, 88, 89, 90, 91, 92, 93, 104]) (q + 20) Q 154 [some (mR 69), some (mI ((40 * S + j : Nat) : Int))] [] H := by
  intro d
  have hn8 := hjb.hn
  induction d with
  | zero =>
    intro j hj H st
    have e : j = m := by omega
    subst e
    have e19 : H 64 19 = (S : Int) := by rw [st.h64 19 (by decide) (by decide)]; exact r19
    have e76 : H 76 (Int.toNat (H 64 19)) = (j : Int) := by rw [e19, st_nat, st.ha 76 (by decide) (by decide)]; exact r76
    have et : w32 ((w32 (40 * (H 64 19))) + (H 76 (Int.toNat (H 64 19)))) = ((40 * S + j : Nat) : Int) := by
      rw [e76, e19, w32_i (x := 40 * ((S : Nat) : Int)) (by omega) (by omega), w32_i (by omega) (by omega)]; omega
    refine rd_154 (R := fun _ _ => False) (by omega) (by omega) (by rw [et]; omega) (fun _ => hE H st) (fun y => ?_) (fun y => ?_) (fun _ _ _ _ f => f.elim)
    · rw [et] at y; omega
    · rw [et] at y; omega
  | succ d ih =>
    intro j hj H st
    have hjm : j < m := by omega
    have e19 : H 64 19 = (S : Int) := by rw [st.h64 19 (by decide) (by decide)]; exact r19
    have e76 : H 76 (Int.toNat (H 64 19)) = (m : Int) := by rw [e19, st_nat, st.ha 76 (by decide) (by decide)]; exact r76
    have et : w32 ((w32 (40 * (H 64 19))) + (H 76 (Int.toNat (H 64 19)))) = ((40 * S + m : Nat) : Int) := by
      rw [e76, e19, w32_i (x := 40 * ((S : Nat) : Int)) (by omega) (by omega), w32_i (by omega) (by omega)]; omega
    have e77 : H 77 = H0 77 := st.ha 77 (by decide) (by decide)
    have ck := hjb.cla j hjm
    have gS := g_settle (G := G) hc hn8.1 hn8.2 hjm st h11 h12
    rw [← fd_s (g_X7_settleRivals_2 c G) F0 j] at gS
    -- the clause's token, owner
    obtain ⟨o, ho⟩ := Int.eq_ofNat_of_zero_le ck.own.2.1
    have hon : o < n := by have := ck.own.2.2; omega
    have h78 : H 78 (40 * S + j) = (o : Int) := by rw [st.ha 78 (by decide) (by decide), ck.own.1, ho]
    refine rd_154 (R := fun x H2 => NR S n (40 * S + j) (H0 84 (40 * S + j)).toNat o H x H2) (by omega) (by omega) (by rw [et]; omega) (fun y => ?_) (fun _ y => ?_) (fun _ y Q' hQ' => ?_) (fun _ y x H2 hR => ?_)
    · rw [et] at y; omega
    · rw [e77] at y
      have hk4 : ¬ F0 (c + 4) j = 22 := by
        intro w
        rcases ck.srt with ⟨s1, s2, _⟩ | ⟨s1, s2, _⟩ | ⟨s1, s2, _⟩ | ⟨s1, s2, _⟩ <;> omega
      rw [if_pos hk4] at gS
      exact ih (j + 1) (by omega) H (st_same st hk4 gS)
    · rw [e77] at y
      have ct : 0 ≤ H0 84 (40 * S + j) ∧ H0 84 (40 * S + j) ≤ 600 := by
        rcases ck.srt with ⟨s1, s2, _⟩ | ⟨s1, s2, _⟩ | ⟨s1, s2, s3, s4, s5, s6⟩ | ⟨s1, s2, _⟩
        · omega
        · omega
        · exact ⟨s4, s5⟩
        · omega
      exact sp_named (q := q + 16) (n := n) (insub (by decide)) hS (by omega) (by rw [st.ha 84 (by decide) (by decide)]; omega) (by omega) e19 hn8.1 (by rw [st.ha 72 (by decide) (by decide)]; exact r72) h78 (by omega) hQ'
    · rw [e77] at y
      have c2 : F0 (c + 4) j = 22 ∧ F0 17 j = H0 70 (H0 84 (40 * S + j)).toNat ∧ F0 18 j = H0 68 (H0 84 (40 * S + j)).toNat := by
        rcases ck.srt with ⟨s1, s2, _⟩ | ⟨s1, s2, _⟩ | ⟨s1, s2, s3, s4, s5, s6, s7⟩ | ⟨s1, s2, _⟩
        · omega
        · omega
        · exact ⟨s2, s6, s7⟩
        · omega
      obtain ⟨k4, k17, k18⟩ := c2
      generalize (H0 84 (40 * S + j)).toNat = i at *
      obtain ⟨hx, hR2⟩ := hR
      have e70 : H 70 i = F0 17 j := by rw [st.ha 70 (by decide) (by decide)]; exact k17.symm
      have e73 : ∀ a, a < n → H 73 (8 * S + a) = F0 16 a := fun a ha => by rw [st.ha 73 (by decide) (by decide)]; exact hjb.nam a ha
      have hxr : x = rv n F0 j := by
        rw [hx]
        exact fs_congr (fun a ha => by rw [e73 a ha, e70])
      clear hx
      rw [if_neg (fun w => w k4)] at gS
      subst hxr
      rw [e73 o hon, e70] at hR2
      refine ih (j + 1) (by omega) _ ?_
      rcases fs_r (fun x => decide (F0 16 x = F0 17 j)) n with ⟨v1, v2⟩ | ⟨x, x1, x2, x3, x4⟩
      · have v1' : rv n F0 j = -1 := v1
        rw [if_neg (fun w => w v1')] at gS
        rcases hR2 with ⟨_, w2⟩ | ⟨w1, _⟩ | ⟨w1, _⟩
        · rw [gS, w2]
          exact st_blame hc (by omega) st r13 (by decide) k18 y
        · exact absurd v1' w1
        · exact absurd v1' w1
      · have x2' : rv n F0 j = (x : Int) := x2
        have x3' : F0 16 x = F0 17 j := of_decide_eq_true x3
        rw [if_pos (show ¬ rv n F0 j = -1 by omega)] at gS
        by_cases wo : x = o
        · rw [if_neg (fun w => w (by rw [x2', ho, wo]))] at gS
          rcases hR2 with ⟨w1, _⟩ | ⟨_, _, w2⟩ | ⟨_, w1, _⟩
          · omega
          · rw [gS, w2]
            exact st_blame hc (by omega) st r13 (by decide) k18 y
          · subst wo; exact absurd x3' w1
        · rw [if_pos (show ¬ rv n F0 j = F0 (c + 5) j by omega), ho, x2'] at gS
          rw [gS]
          rcases hR2 with ⟨w1, _⟩ | ⟨_, w1, w2⟩ | ⟨_, _, w2⟩
          · omega
          · -- a name told twice: an earlier fault stands
            have hlt : x < o := by
              by_cases w : o < x
              · have := x4 o w
                rw [decide_eq_true w1] at this
                exact absurd this (by decide)
              · omega
            obtain ⟨d1, d2⟩ := hjb.dcl j hjm k4 ⟨x, by omega, by rw [show (F0 (c + 5) j).toNat = o from by omega, x3', w1]⟩
            have hz : ¬ (fd (g_X7_settleRivals_2 c G) F0 j) 15 10 = 0 := fun w => d1 (st.bm.1 w)
            have hz2 := st.bm.2 d1
            have hbq := st.bqq
            have k13 : H 64 13 = 0 := by rw [st.h64 13 (by decide) (by decide)]; exact r13
            obtain ⟨g1, g2⟩ := fx_wrong H 5 ((i : Nat) : Int)
            obtain ⟨u1, u2⟩ := wrong_bl (x := 5) (y := ((i : Nat) : Int)) k13
            have hp16 := hbq.2.1.resolve_left hz
            rw [st_nat, st.ha 68 (by decide) (by decide), bl_keep (by rw [← hbq.1]; exact hz) (by omega)] at u1 u2
            rw [w2]
            exact st_apart hc (by omega) hn8.1 st h11 k4 y ho hon x2' x1 wo g1 g2 ⟨u1, u2⟩
          · rw [w2]
            exact st_apart hc (by omega) hn8.1 st h11 k4 y ho hon x2' x1 wo (fun _ _ => rfl) (fun _ _ _ => rfl) ⟨rfl, rfl⟩
end STL
