/-! ===== printed by wip/whole/gen31.py: the reference: whether a clause holds ===== -/
def rV (cd ci va : Nat → Int) (i0 n : Nat) : Int := match rnR cd ci va i0 n with
  | some (v :: _) => v
  | _ => 0
theorem val_eq {G : mG} {x y v : Int} (hx : 0 ≤ x ∧ x ≤ y ∧ y ≤ 1400 ∧ y - x ≤ 700) (hv : rnR (G 91) (G 92) (G 106) x.toNat (y - x).toNat = some [v]) : (r_X12_value G x y).1 = v := by
  have key := fd_inv (g := g_X12_value_5 G x y) (a := ((0 : Int), G)) (n := (y - x).toNat) (vI G x) ⟨[], rfl, rfl, trivial, fun _ _ => rfl⟩ (fun j s hj hI => vI_s ⟨hx.1, hx.2.2⟩ hv j s hj hI)
  obtain ⟨S, h1, h2, h3, h4⟩ := key
  rw [hv] at h1
  cases h1
  exact h3.1
theorem sp_X12_valueR {D : Nat → Bool} {d : Nat} {G : mG} {x y : Int} {Q : Option mV → mG → Prop} {v : Int} (hx : 0 ≤ x ∧ x ≤ y ∧ y ≤ 1400 ∧ y - x ≤ 700) (hv : rnR (G 91) (G 92) (G 106) x.toNat (y - x).toNat = some [v]) (hD : ∀ k, D k = false → inN [107] k = false) (hQ : ∀ H', (∀ k, k ≠ 107 → H' k = G k) → Q (some (mI v)) H') : P2 D (d + 1) M_X12_value [mR 69, mI x, mI y] G Q :=
  sp_X12_value v hx hv hD (by rw [val_eq hx hv]; exact hQ _ (fun k hk => fr_X12_value (fun a ha => by simp only [List.mem_cons, List.not_mem_nil, or_false] at ha; omega)))
/-- a literal that may be weighed -/
def lW (G : mG) (l : Nat) : Prop := (G 86 l = 4 → 0 ≤ G 87 l ∧ G 87 l < 1400) ∧ (¬ G 86 l = 4 → (0 ≤ G 87 l ∧ G 87 l ≤ G 88 l ∧ G 88 l ≤ G 89 l ∧ G 89 l ≤ 1400 ∧ G 89 l - G 87 l ≤ 700) ∧ (∀ va, rnR (G 91) (G 92) va (G 87 l).toNat (G 88 l - G 87 l).toNat = some [rV (G 91) (G 92) va (G 87 l).toNat (G 88 l - G 87 l).toNat]) ∧ (∀ va, rnR (G 91) (G 92) va (G 88 l).toNat (G 89 l - G 88 l).toNat = some [rV (G 91) (G 92) va (G 88 l).toNat (G 89 l - G 88 l).toNat])) ∧ (((700 * (l / 600) : Nat) : Int) ≤ G 87 l ∧ G 87 l ≤ G 88 l ∧ G 88 l ≤ G 89 l ∧ G 89 l ≤ ((700 * (l / 600) + 700 : Nat) : Int)) ∧ (G 86 l = 4 → G 87 l < G 89 l)
def litV (G : mG) (b : Int) (l : Nat) : Bool := if G 86 l = 4 then decide (mAnd (mShr (G 97 (Int.toNat b)) (G 92 (Int.toNat (G 87 l)))) 1 = 1)
  else if G 86 l = 0 then decide ((rV (G 91) (G 92) (G 106) (G 87 l).toNat (G 88 l - G 87 l).toNat) = (rV (G 91) (G 92) (G 106) (G 88 l).toNat (G 89 l - G 88 l).toNat)) else if G 86 l = 1 then decide (¬ (rV (G 91) (G 92) (G 106) (G 87 l).toNat (G 88 l - G 87 l).toNat) = (rV (G 91) (G 92) (G 106) (G 88 l).toNat (G 89 l - G 88 l).toNat)) else if G 86 l = 2 then decide ((rV (G 91) (G 92) (G 106) (G 87 l).toNat (G 88 l - G 87 l).toNat) < (rV (G 91) (G 92) (G 106) (G 88 l).toNat (G 89 l - G 88 l).toNat)) else decide ((rV (G 91) (G 92) (G 106) (G 87 l).toNat (G 88 l - G 87 l).toNat) ≤ (rV (G 91) (G 92) (G 106) (G 88 l).toNat (G 89 l - G 88 l).toNat))
def lor (G : mG) (l : Nat) : Bool := decide (¬ G 90 l = 0)
def hR (oo lv : Nat → Bool) (l0 : Nat) : Nat → Bool × Bool
  | 0 => (false, false)
  | n + 1 => ((hR oo lv l0 n).1 || (oo (l0 + n) && (hR oo lv l0 n).2), ((hR oo lv l0 n).2 || oo (l0 + n)) && lv (l0 + n))
def hRs (oo lv : Nat → Bool) (l0 n : Nat) : Bool := (hR oo lv l0 n).1 || (hR oo lv l0 n).2
theorem hR_t {oo lv : Nat → Bool} {l0 m n : Nat} (h : (hR oo lv l0 m).1 = true) (hm : m ≤ n) : (hR oo lv l0 n).1 = true := by
  obtain ⟨k, rfl⟩ : ∃ k, n = m + k := ⟨n - m, by omega⟩
  clear hm
  induction k with
  | zero => exact h
  | succ k ih => show ((hR oo lv l0 (m + k)).1 || _) = true; rw [ih]; rfl
theorem hR_2 {oo lv : Nat → Bool} {l0 j : Nat} {b o : Bool} (hb : (hR oo lv l0 j).2 = b) (ho : oo (l0 + j) = o) : (hR oo lv l0 (j + 1)).2 = ((b || o) && lv (l0 + j)) := by
  show (((hR oo lv l0 j).2 || oo (l0 + j)) && lv (l0 + j)) = _
  rw [hb, ho]
theorem hR_1 {oo lv : Nat → Bool} {l0 j : Nat} (h : (hR oo lv l0 j).1 = false) (h2 : (oo (l0 + j) && (hR oo lv l0 j).2) = false) : (hR oo lv l0 (j + 1)).1 = false := by
  show ((hR oo lv l0 j).1 || (oo (l0 + j) && (hR oo lv l0 j).2)) = false
  rw [h, h2]; rfl
theorem b01_01 (b : Bool) : b01 b = 0 ∨ b01 b = 1 := by cases b <;> simp [b01]
theorem b01_f {p : Prop} [Decidable p] (h : ¬ p) : b01 (decide p) = 0 := by simp [b01, h]
theorem b01_t {p : Prop} [Decidable p] (h : p) : b01 (decide p) = 1 := by simp [b01, h]
theorem b01_n' {b : Bool} {a : Int} (ha : a = b01 b) (h : ¬ a = 0) : b = true := by cases b <;> simp_all [b01]
theorem b01_z' {b : Bool} {a : Int} (ha : a = b01 b) (h : a = 0) : b = false := by cases b <;> simp_all [b01]
set_option maxHeartbeats 8000000 in
theorem holds_tail {q : Nat} {G Hj : mG} {x b a i : Int} {l : Nat} {Q : Option mV → mG → Prop} (hb9 : 0 ≤ b ∧ b < 9) (hx80 : 0 ≤ x ∧ x < 80) (hl2 : l < 1200) (hl : lW G l) (hj : ∀ k, k ≠ 107 → Hj k = G k) (hk : ∀ z, z = b01 (litV G b l) → ∀ H2 : mG, (∀ k, k ≠ 107 → H2 k = G k) → W2 o_X12 M_X12_holds (inN [107]) (q + 10) Q 10 [some (mR 69), some (mI x), some (mI b), some (mI z), some (mI (w32 (i + 1))), none, none, none] [] H2) : W2 o_X12 M_X12_holds (inN [107]) (q + 10) Q 69 [some (mR 69), some (mI x), some (mI b), some (mI a), some (mI i), some (mI ((l : Nat) : Int)), none, none] [] Hj := by
  have h4 := hl.1
  rw [← show Hj 86 (Int.toNat ((l : Nat) : Int)) = G 86 l from by rw [st_nat, hj 86 (by decide)], ← show Hj 87 (Int.toNat ((l : Nat) : Int)) = G 87 l from by rw [st_nat, hj 87 (by decide)]] at h4
  refine w2_vc [10, 132, 142, 149, 152, 154, 161] 400 oo_X12 q_X12_holds ?_
  refine ⟨(show 0 ≤ ((l : Nat) : Int) ∧ ((l : Nat) : Int) < ((1200 : Nat) : Int) from by first | omega | (simp (disch := omega) only [w32_i]; omega)), ?_⟩
  refine ⟨fun (c1 : ¬ (Hj 86 (Int.toNat ((l : Nat) : Int))) = 4) => ?_, fun (c1 : (Hj 86 (Int.toNat ((l : Nat) : Int))) = 4) => ?_⟩
  · skip
    refine ⟨(show 0 ≤ ((l : Nat) : Int) ∧ ((l : Nat) : Int) < ((1200 : Nat) : Int) from by first | omega | (simp (disch := omega) only [w32_i]; omega)), ?_⟩
    refine ⟨(show 0 ≤ ((l : Nat) : Int) ∧ ((l : Nat) : Int) < ((1200 : Nat) : Int) from by first | omega | (simp (disch := omega) only [w32_i]; omega)), ?_⟩
    refine sp_X12_valueR (v := (rV (G 91) (G 92) (G 106) (G 87 l).toNat (G 88 l - G 87 l).toNat)) (by rw [st_nat, hj 87 (by decide), hj 88 (by decide)]; have q4 := (hl.2.1 (by have q := c1; rw [st_nat, hj 86 (by decide)] at q; exact q)).1; omega) (by rw [st_nat, hj 91 (by decide), hj 92 (by decide), hj 106 (by decide), hj 87 (by decide), hj 88 (by decide)]; exact (hl.2.1 (by have q := c1; rw [st_nat, hj 86 (by decide)] at q; exact q)).2.1 _) (insub (by decide)) (fun H1 qH1 => ?_)
    have hH1 : ∀ k, k ≠ 107 → H1 k = G k := fun k hk => (qH1 k hk).trans (hj k hk)
    refine (show W2 o_X12 M_X12_holds (inN [107]) (q + 10) Q 132 [some (mR 69), some (mI x), some (mI b), some (mI a), some (mI i), some (mI ((l : Nat) : Int)), none, none] [mI (rV (G 91) (G 92) (G 106) (G 87 l).toNat (G 88 l - G 87 l).toNat)] H1 from ?_)
    refine w2_vc [10, 132, 142, 149, 152, 154, 161] 400 oo_X12 q_X12_holds ?_
    refine ⟨(show 0 ≤ ((l : Nat) : Int) ∧ ((l : Nat) : Int) < ((1200 : Nat) : Int) from by first | omega | (simp (disch := omega) only [w32_i]; omega)), ?_⟩
    refine (show W2 o_X12 M_X12_holds (inN [107]) (q + 10) Q 142 [some (mR 69), some (mI x), some (mI b), some (mI a), some (mI i), some (mI ((l : Nat) : Int)), some (mI (rV (G 91) (G 92) (G 106) (G 87 l).toNat (G 88 l - G 87 l).toNat)), none] [mI (H1 88 (Int.toNat ((l : Nat) : Int))), mR 69] H1 from ?_)
    refine w2_vc [10, 132, 142, 149, 152, 154, 161] 400 oo_X12 q_X12_holds ?_
    refine ⟨(show 0 ≤ ((l : Nat) : Int) ∧ ((l : Nat) : Int) < ((1200 : Nat) : Int) from by first | omega | (simp (disch := omega) only [w32_i]; omega)), ?_⟩
    refine (show W2 o_X12 M_X12_holds (inN [107]) (q + 10) Q 149 [some (mR 69), some (mI x), some (mI b), some (mI a), some (mI i), some (mI ((l : Nat) : Int)), some (mI (rV (G 91) (G 92) (G 106) (G 87 l).toNat (G 88 l - G 87 l).toNat)), none] [mI (H1 89 (Int.toNat ((l : Nat) : Int))), mI (H1 88 (Int.toNat ((l : Nat) : Int))), mR 69] H1 from ?_)
    refine w2_vc [10, 132, 142, 149, 152, 154, 161] 400 oo_X12 q_X12_holds ?_
    refine sp_X12_valueR (v := (rV (G 91) (G 92) (G 106) (G 88 l).toNat (G 89 l - G 88 l).toNat)) (by rw [st_nat, hH1 88 (by decide), hH1 89 (by decide)]; have q4 := (hl.2.1 (by have q := c1; rw [st_nat, hj 86 (by decide)] at q; exact q)).1; omega) (by rw [st_nat, hH1 91 (by decide), hH1 92 (by decide), hH1 106 (by decide), hH1 88 (by decide), hH1 89 (by decide)]; exact (hl.2.1 (by have q := c1; rw [st_nat, hj 86 (by decide)] at q; exact q)).2.2 _) (insub (by decide)) (fun H2 qH2 => ?_)
    have hH2 : ∀ k, k ≠ 107 → H2 k = G k := fun k hk => (qH2 k hk).trans (hH1 k hk)
    refine (show W2 o_X12 M_X12_holds (inN [107]) (q + 10) Q 152 [some (mR 69), some (mI x), some (mI b), some (mI a), some (mI i), some (mI ((l : Nat) : Int)), some (mI (rV (G 91) (G 92) (G 106) (G 87 l).toNat (G 88 l - G 87 l).toNat)), none] [mI (rV (G 91) (G 92) (G 106) (G 88 l).toNat (G 89 l - G 88 l).toNat)] H2 from ?_)
    refine w2_vc [10, 132, 142, 149, 152, 154, 161] 400 oo_X12 q_X12_holds ?_
    refine (show W2 o_X12 M_X12_holds (inN [107]) (q + 10) Q 154 [some (mR 69), some (mI x), some (mI b), some (mI a), some (mI i), some (mI ((l : Nat) : Int)), some (mI (rV (G 91) (G 92) (G 106) (G 87 l).toNat (G 88 l - G 87 l).toNat)), some (mI (rV (G 91) (G 92) (G 106) (G 88 l).toNat (G 89 l - G 88 l).toNat))] [] H2 from ?_)
    refine w2_vc [10, 132, 142, 149, 152, 154, 161] 400 oo_X12 q_X12_holds ?_
    refine ⟨(show 0 ≤ ((l : Nat) : Int) ∧ ((l : Nat) : Int) < ((1200 : Nat) : Int) from by first | omega | (simp (disch := omega) only [w32_i]; omega)), ?_⟩
    refine (show W2 o_X12 M_X12_holds (inN [107]) (q + 10) Q 161 [some (mR 69), some (mI x), some (mI b), some (mI a), some (mI i), some (mI ((l : Nat) : Int)), some (mI (rV (G 91) (G 92) (G 106) (G 87 l).toNat (G 88 l - G 87 l).toNat)), some (mI (rV (G 91) (G 92) (G 106) (G 88 l).toNat (G 89 l - G 88 l).toNat))] [mI (H2 86 (Int.toNat ((l : Nat) : Int)))] H2 from ?_)
    refine w2_vc [10, 132, 142, 149, 152, 154, 161] 400 oo_X12 q_X12_holds ?_
    refine ⟨fun (c2 : ¬ (H2 86 (Int.toNat ((l : Nat) : Int))) = 0) => ?_, fun (c2 : (H2 86 (Int.toNat ((l : Nat) : Int))) = 0) => ?_⟩
    · skip
      refine ⟨(show 0 ≤ ((l : Nat) : Int) ∧ ((l : Nat) : Int) < ((1200 : Nat) : Int) from by first | omega | (simp (disch := omega) only [w32_i]; omega)), ?_⟩
      refine ⟨fun (c3 : ¬ (H2 86 (Int.toNat ((l : Nat) : Int))) = 1) => ?_, fun (c3 : (H2 86 (Int.toNat ((l : Nat) : Int))) = 1) => ?_⟩
      · skip
        refine ⟨(show 0 ≤ ((l : Nat) : Int) ∧ ((l : Nat) : Int) < ((1200 : Nat) : Int) from by first | omega | (simp (disch := omega) only [w32_i]; omega)), ?_⟩
        refine ⟨fun (c4 : ¬ (H2 86 (Int.toNat ((l : Nat) : Int))) = 2) => ?_, fun (c4 : (H2 86 (Int.toNat ((l : Nat) : Int))) = 2) => ?_⟩
        · skip
          refine ⟨fun (c5 : (rV (G 91) (G 92) (G 106) (G 88 l).toNat (G 89 l - G 88 l).toNat) < (rV (G 91) (G 92) (G 106) (G 87 l).toNat (G 88 l - G 87 l).toNat)) => ?_, fun (c5 : (rV (G 91) (G 92) (G 106) (G 87 l).toNat (G 88 l - G 87 l).toNat) ≤ (rV (G 91) (G 92) (G 106) (G 88 l).toNat (G 89 l - G 88 l).toNat)) => ?_⟩
          · skip
            refine (show W2 o_X12 M_X12_holds (inN [107]) (q + 10) Q 10 [some (mR 69), some (mI x), some (mI b), some (mI 0), some (mI (w32 (i + 1))), some (mI ((l : Nat) : Int)), some (mI (rV (G 91) (G 92) (G 106) (G 87 l).toNat (G 88 l - G 87 l).toNat)), some (mI (rV (G 91) (G 92) (G 106) (G 88 l).toNat (G 89 l - G 88 l).toNat))] [] H2 from ?_)
            refine WP.fg (L' := [some (mR 69), some (mI x), some (mI b), some (mI 0), some (mI (w32 (i + 1))), none, none, none]) ⟨rfl, rfl, rfl, rfl, rfl, trivial⟩ ?_
            exact hk 0 (by (have q4 : ¬ G 86 l = 4 := by have q := c1; rw [st_nat, hj 86 (by decide)] at q; exact q); (have q00 : ¬ G 86 l = 0 := by have q := c2; rw [st_nat, hH2 86 (by decide)] at q; exact q); (have q10 : ¬ G 86 l = 1 := by have q := c3; rw [st_nat, hH2 86 (by decide)] at q; exact q); (have q20 : ¬ G 86 l = 2 := by have q := c4; rw [st_nat, hH2 86 (by decide)] at q; exact q); (have q9 := c5); unfold litV; rw [if_neg q4, if_neg q00, if_neg q10, if_neg q20]; exact (b01_f (by omega)).symm) H2 hH2
          · skip
            refine (show W2 o_X12 M_X12_holds (inN [107]) (q + 10) Q 10 [some (mR 69), some (mI x), some (mI b), some (mI 1), some (mI (w32 (i + 1))), some (mI ((l : Nat) : Int)), some (mI (rV (G 91) (G 92) (G 106) (G 87 l).toNat (G 88 l - G 87 l).toNat)), some (mI (rV (G 91) (G 92) (G 106) (G 88 l).toNat (G 89 l - G 88 l).toNat))] [] H2 from ?_)
            refine WP.fg (L' := [some (mR 69), some (mI x), some (mI b), some (mI 1), some (mI (w32 (i + 1))), none, none, none]) ⟨rfl, rfl, rfl, rfl, rfl, trivial⟩ ?_
            exact hk 1 (by (have q4 : ¬ G 86 l = 4 := by have q := c1; rw [st_nat, hj 86 (by decide)] at q; exact q); (have q00 : ¬ G 86 l = 0 := by have q := c2; rw [st_nat, hH2 86 (by decide)] at q; exact q); (have q10 : ¬ G 86 l = 1 := by have q := c3; rw [st_nat, hH2 86 (by decide)] at q; exact q); (have q20 : ¬ G 86 l = 2 := by have q := c4; rw [st_nat, hH2 86 (by decide)] at q; exact q); (have q9 := c5); unfold litV; rw [if_neg q4, if_neg q00, if_neg q10, if_neg q20]; exact (b01_t (by omega)).symm) H2 hH2
        · skip
          refine ⟨fun (c6 : (rV (G 91) (G 92) (G 106) (G 88 l).toNat (G 89 l - G 88 l).toNat) ≤ (rV (G 91) (G 92) (G 106) (G 87 l).toNat (G 88 l - G 87 l).toNat)) => ?_, fun (c6 : (rV (G 91) (G 92) (G 106) (G 87 l).toNat (G 88 l - G 87 l).toNat) < (rV (G 91) (G 92) (G 106) (G 88 l).toNat (G 89 l - G 88 l).toNat)) => ?_⟩
          · skip
            refine (show W2 o_X12 M_X12_holds (inN [107]) (q + 10) Q 10 [some (mR 69), some (mI x), some (mI b), some (mI 0), some (mI (w32 (i + 1))), some (mI ((l : Nat) : Int)), some (mI (rV (G 91) (G 92) (G 106) (G 87 l).toNat (G 88 l - G 87 l).toNat)), some (mI (rV (G 91) (G 92) (G 106) (G 88 l).toNat (G 89 l - G 88 l).toNat))] [] H2 from ?_)
            refine WP.fg (L' := [some (mR 69), some (mI x), some (mI b), some (mI 0), some (mI (w32 (i + 1))), none, none, none]) ⟨rfl, rfl, rfl, rfl, rfl, trivial⟩ ?_
            exact hk 0 (by (have q4 : ¬ G 86 l = 4 := by have q := c1; rw [st_nat, hj 86 (by decide)] at q; exact q); (have q00 : ¬ G 86 l = 0 := by have q := c2; rw [st_nat, hH2 86 (by decide)] at q; exact q); (have q10 : ¬ G 86 l = 1 := by have q := c3; rw [st_nat, hH2 86 (by decide)] at q; exact q); (have q21 : G 86 l = 2 := by have q := c4; rw [st_nat, hH2 86 (by decide)] at q; exact q); (have q9 := c6); unfold litV; rw [if_neg q4, if_neg q00, if_neg q10, if_pos q21]; exact (b01_f (by omega)).symm) H2 hH2
          · skip
            refine (show W2 o_X12 M_X12_holds (inN [107]) (q + 10) Q 10 [some (mR 69), some (mI x), some (mI b), some (mI 1), some (mI (w32 (i + 1))), some (mI ((l : Nat) : Int)), some (mI (rV (G 91) (G 92) (G 106) (G 87 l).toNat (G 88 l - G 87 l).toNat)), some (mI (rV (G 91) (G 92) (G 106) (G 88 l).toNat (G 89 l - G 88 l).toNat))] [] H2 from ?_)
            refine WP.fg (L' := [some (mR 69), some (mI x), some (mI b), some (mI 1), some (mI (w32 (i + 1))), none, none, none]) ⟨rfl, rfl, rfl, rfl, rfl, trivial⟩ ?_
            exact hk 1 (by (have q4 : ¬ G 86 l = 4 := by have q := c1; rw [st_nat, hj 86 (by decide)] at q; exact q); (have q00 : ¬ G 86 l = 0 := by have q := c2; rw [st_nat, hH2 86 (by decide)] at q; exact q); (have q10 : ¬ G 86 l = 1 := by have q := c3; rw [st_nat, hH2 86 (by decide)] at q; exact q); (have q21 : G 86 l = 2 := by have q := c4; rw [st_nat, hH2 86 (by decide)] at q; exact q); (have q9 := c6); unfold litV; rw [if_neg q4, if_neg q00, if_neg q10, if_pos q21]; exact (b01_t (by omega)).symm) H2 hH2
      · skip
        refine ⟨fun (c7 : (rV (G 91) (G 92) (G 106) (G 87 l).toNat (G 88 l - G 87 l).toNat) = (rV (G 91) (G 92) (G 106) (G 88 l).toNat (G 89 l - G 88 l).toNat)) => ?_, fun (c7 : ¬ (rV (G 91) (G 92) (G 106) (G 87 l).toNat (G 88 l - G 87 l).toNat) = (rV (G 91) (G 92) (G 106) (G 88 l).toNat (G 89 l - G 88 l).toNat)) => ?_⟩
        · skip
          refine (show W2 o_X12 M_X12_holds (inN [107]) (q + 10) Q 10 [some (mR 69), some (mI x), some (mI b), some (mI 0), some (mI (w32 (i + 1))), some (mI ((l : Nat) : Int)), some (mI (rV (G 91) (G 92) (G 106) (G 87 l).toNat (G 88 l - G 87 l).toNat)), some (mI (rV (G 91) (G 92) (G 106) (G 88 l).toNat (G 89 l - G 88 l).toNat))] [] H2 from ?_)
          refine WP.fg (L' := [some (mR 69), some (mI x), some (mI b), some (mI 0), some (mI (w32 (i + 1))), none, none, none]) ⟨rfl, rfl, rfl, rfl, rfl, trivial⟩ ?_
          exact hk 0 (by (have q4 : ¬ G 86 l = 4 := by have q := c1; rw [st_nat, hj 86 (by decide)] at q; exact q); (have q00 : ¬ G 86 l = 0 := by have q := c2; rw [st_nat, hH2 86 (by decide)] at q; exact q); (have q11 : G 86 l = 1 := by have q := c3; rw [st_nat, hH2 86 (by decide)] at q; exact q); (have q9 := c7); unfold litV; rw [if_neg q4, if_neg q00, if_pos q11]; exact (b01_f (by omega)).symm) H2 hH2
        · skip
          refine (show W2 o_X12 M_X12_holds (inN [107]) (q + 10) Q 10 [some (mR 69), some (mI x), some (mI b), some (mI 1), some (mI (w32 (i + 1))), some (mI ((l : Nat) : Int)), some (mI (rV (G 91) (G 92) (G 106) (G 87 l).toNat (G 88 l - G 87 l).toNat)), some (mI (rV (G 91) (G 92) (G 106) (G 88 l).toNat (G 89 l - G 88 l).toNat))] [] H2 from ?_)
          refine WP.fg (L' := [some (mR 69), some (mI x), some (mI b), some (mI 1), some (mI (w32 (i + 1))), none, none, none]) ⟨rfl, rfl, rfl, rfl, rfl, trivial⟩ ?_
          exact hk 1 (by (have q4 : ¬ G 86 l = 4 := by have q := c1; rw [st_nat, hj 86 (by decide)] at q; exact q); (have q00 : ¬ G 86 l = 0 := by have q := c2; rw [st_nat, hH2 86 (by decide)] at q; exact q); (have q11 : G 86 l = 1 := by have q := c3; rw [st_nat, hH2 86 (by decide)] at q; exact q); (have q9 := c7); unfold litV; rw [if_neg q4, if_neg q00, if_pos q11]; exact (b01_t (by omega)).symm) H2 hH2
    · skip
      refine ⟨fun (c8 : ¬ (rV (G 91) (G 92) (G 106) (G 87 l).toNat (G 88 l - G 87 l).toNat) = (rV (G 91) (G 92) (G 106) (G 88 l).toNat (G 89 l - G 88 l).toNat)) => ?_, fun (c8 : (rV (G 91) (G 92) (G 106) (G 87 l).toNat (G 88 l - G 87 l).toNat) = (rV (G 91) (G 92) (G 106) (G 88 l).toNat (G 89 l - G 88 l).toNat)) => ?_⟩
      · skip
        refine (show W2 o_X12 M_X12_holds (inN [107]) (q + 10) Q 10 [some (mR 69), some (mI x), some (mI b), some (mI 0), some (mI (w32 (i + 1))), some (mI ((l : Nat) : Int)), some (mI (rV (G 91) (G 92) (G 106) (G 87 l).toNat (G 88 l - G 87 l).toNat)), some (mI (rV (G 91) (G 92) (G 106) (G 88 l).toNat (G 89 l - G 88 l).toNat))] [] H2 from ?_)
        refine WP.fg (L' := [some (mR 69), some (mI x), some (mI b), some (mI 0), some (mI (w32 (i + 1))), none, none, none]) ⟨rfl, rfl, rfl, rfl, rfl, trivial⟩ ?_
        exact hk 0 (by (have q4 : ¬ G 86 l = 4 := by have q := c1; rw [st_nat, hj 86 (by decide)] at q; exact q); (have q01 : G 86 l = 0 := by have q := c2; rw [st_nat, hH2 86 (by decide)] at q; exact q); (have q9 := c8); unfold litV; rw [if_neg q4, if_pos q01]; exact (b01_f (by omega)).symm) H2 hH2
      · skip
        refine (show W2 o_X12 M_X12_holds (inN [107]) (q + 10) Q 10 [some (mR 69), some (mI x), some (mI b), some (mI 1), some (mI (w32 (i + 1))), some (mI ((l : Nat) : Int)), some (mI (rV (G 91) (G 92) (G 106) (G 87 l).toNat (G 88 l - G 87 l).toNat)), some (mI (rV (G 91) (G 92) (G 106) (G 88 l).toNat (G 89 l - G 88 l).toNat))] [] H2 from ?_)
        refine WP.fg (L' := [some (mR 69), some (mI x), some (mI b), some (mI 1), some (mI (w32 (i + 1))), none, none, none]) ⟨rfl, rfl, rfl, rfl, rfl, trivial⟩ ?_
        exact hk 1 (by (have q4 : ¬ G 86 l = 4 := by have q := c1; rw [st_nat, hj 86 (by decide)] at q; exact q); (have q01 : G 86 l = 0 := by have q := c2; rw [st_nat, hH2 86 (by decide)] at q; exact q); (have q9 := c8); unfold litV; rw [if_neg q4, if_pos q01]; exact (b01_t (by omega)).symm) H2 hH2
  · skip
    refine ⟨(show 0 ≤ b ∧ b < ((9 : Nat) : Int) from by first | omega | (simp (disch := omega) only [w32_i]; omega)), ?_⟩
    refine ⟨(show 0 ≤ ((l : Nat) : Int) ∧ ((l : Nat) : Int) < ((1200 : Nat) : Int) from by first | omega | (simp (disch := omega) only [w32_i]; omega)), ?_⟩
    refine ⟨(show 0 ≤ (Hj 87 (Int.toNat ((l : Nat) : Int))) ∧ (Hj 87 (Int.toNat ((l : Nat) : Int))) < ((1400 : Nat) : Int) from by first | omega | (simp (disch := omega) only [w32_i]; omega)), ?_⟩
    refine ⟨fun (c9 : ¬ (mAnd (mShr (Hj 97 (Int.toNat b)) (Hj 92 (Int.toNat (Hj 87 (Int.toNat ((l : Nat) : Int)))))) 1) = 1) => ?_, fun (c9 : (mAnd (mShr (Hj 97 (Int.toNat b)) (Hj 92 (Int.toNat (Hj 87 (Int.toNat ((l : Nat) : Int)))))) 1) = 1) => ?_⟩
    · skip
      refine (show W2 o_X12 M_X12_holds (inN [107]) (q + 10) Q 10 [some (mR 69), some (mI x), some (mI b), some (mI 0), some (mI (w32 (i + 1))), some (mI ((l : Nat) : Int)), none, none] [] Hj from ?_)
      refine WP.fg (L' := [some (mR 69), some (mI x), some (mI b), some (mI 0), some (mI (w32 (i + 1))), none, none, none]) ⟨rfl, rfl, rfl, rfl, rfl, trivial⟩ ?_
      exact hk 0 (by (have q4 : G 86 l = 4 := by have q := c1; rw [st_nat, hj 86 (by decide)] at q; exact q); (have q5 := c9); rw [st_nat, hj 97 (by decide), hj 92 (by decide), hj 87 (by decide)] at q5; unfold litV; rw [if_pos q4]; exact (b01_f q5).symm) Hj hj
    · skip
      refine (show W2 o_X12 M_X12_holds (inN [107]) (q + 10) Q 10 [some (mR 69), some (mI x), some (mI b), some (mI 1), some (mI (w32 (i + 1))), some (mI ((l : Nat) : Int)), none, none] [] Hj from ?_)
      refine WP.fg (L' := [some (mR 69), some (mI x), some (mI b), some (mI 1), some (mI (w32 (i + 1))), none, none, none]) ⟨rfl, rfl, rfl, rfl, rfl, trivial⟩ ?_
      exact hk 1 (by (have q4 : G 86 l = 4 := by have q := c1; rw [st_nat, hj 86 (by decide)] at q; exact q); (have q5 := c9); rw [st_nat, hj 97 (by decide), hj 92 (by decide), hj 87 (by decide)] at q5; unfold litV; rw [if_pos q4]; exact (b01_t q5).symm) Hj hj
set_option maxHeartbeats 8000000 in
theorem sp_X12_holds {D : Nat → Bool} {q : Nat} {G : mG} {x b : Int} {N l0 : Nat} {Q : Option mV → mG → Prop} (hlv : 0 ≤ G 64 18 ∧ G 64 18 ≤ 1) (hb9 : 0 ≤ b ∧ b < 9) (hx80 : 0 ≤ x ∧ x < 80) (hfl : 0 ≤ G 82 (Int.toNat x) ∧ G 82 (Int.toNat x) ≤ 600 ∧ G 83 (Int.toNat x) ≤ 600) (hN : N = (G 83 (Int.toNat x) - G 82 (Int.toNat x)).toNat) (hl0 : l0 = 600 * (G 64 18).toNat + (G 82 (Int.toNat x)).toNat) (hlw : ∀ j, j < N → lW G (l0 + j)) (hD : ∀ k, D k = false → inN [107] k = false) (hQ : ∀ H', (∀ k, k ≠ 107 → H' k = G k) → Q (some (mI (b01 (hRs (lor G) (litV G b) l0 N)))) H') : P2 D (q + 10) M_X12_holds [mR 69, mI x, mI b] G Q := by
  have hloop : ∀ t j, j + t = N → ∀ a : Int, a = b01 (hR (lor G) (litV G b) l0 j).2 → (hR (lor G) (litV G b) l0 j).1 = false → ∀ Hj : mG, (∀ k, k ≠ 107 → Hj k = G k) → W2 o_X12 M_X12_holds (inN [107]) (q + 10) Q 10 [some (mR 69), some (mI x), some (mI b), some (mI a), some (mI ((G 82 (Int.toNat x)) + ((j : Nat) : Int))), none, none, none] [] Hj := by
    intro t
    induction t with
    | zero =>
      intro j hjN a ha hj1 Hj hj
      have e83 : Hj 83 (Int.toNat x) = G 83 (Int.toNat x) := by rw [hj 83 (by decide)]
      refine w2_vc [10, 69] 400 oo_X12 q_X12_holds ?_
      refine ⟨(show 0 ≤ x ∧ x < ((80 : Nat) : Int) from by first | omega | (simp (disch := omega) only [w32_i]; omega)), ?_⟩
      refine ⟨fun (c1 : (Hj 83 (Int.toNat x)) ≤ ((G 82 (Int.toNat x)) + ((j : Nat) : Int))) => ?_, fun (c1 : ((G 82 (Int.toNat x)) + ((j : Nat) : Int)) < (Hj 83 (Int.toNat x))) => ?_⟩
      · skip
        refine ⟨by rw [ha]; exact b01_01 _, ?_⟩
        rw [ha, show (b01 (hR (lor G) (litV G b) l0 j).2) = b01 (hRs (lor G) (litV G b) l0 N) from by unfold hRs; rw [show N = j by omega, hj1]; rfl]
        exact hQ _ hj
      · skip
        exfalso; first | omega | (rw [w32_i (by omega) (by omega)] at c1; omega) | (simp (disch := omega) only [w32_i] at *; omega)
    | succ t iht =>
      intro j hjN a ha hj1 Hj hj
      have e83 : Hj 83 (Int.toNat x) = G 83 (Int.toNat x) := by rw [hj 83 (by decide)]
      have e18 : Hj 64 18 = G 64 18 := by rw [hj 64 (by decide)]
      have eix : w32 ((w32 (600 * (Hj 64 18))) + ((G 82 (Int.toNat x)) + ((j : Nat) : Int))) = ((l0 + j : Nat) : Int) := by
        rw [e18, w32_i (x := 600 * G 64 18) (by omega) (by omega), w32_i (by omega) (by omega)]; omega
      have ei1 : w32 (((G 82 (Int.toNat x)) + ((j : Nat) : Int)) + 1) = (G 82 (Int.toNat x)) + ((j + 1 : Nat) : Int) := w32_up (by omega) (by omega)
      refine w2_vc [10, 34, 69] 400 oo_X12 q_X12_holds ?_
      refine ⟨(show 0 ≤ x ∧ x < ((80 : Nat) : Int) from by first | omega | (simp (disch := omega) only [w32_i]; omega)), ?_⟩
      refine ⟨fun (c1 : (Hj 83 (Int.toNat x)) ≤ ((G 82 (Int.toNat x)) + ((j : Nat) : Int))) => ?_, fun (c1 : ((G 82 (Int.toNat x)) + ((j : Nat) : Int)) < (Hj 83 (Int.toNat x))) => ?_⟩
      · skip
        exfalso; rw [e83] at c1; omega
      · skip
        refine (show W2 o_X12 M_X12_holds (inN [107]) (q + 10) Q 34 [some (mR 69), some (mI x), some (mI b), some (mI a), some (mI ((G 82 (Int.toNat x)) + ((j : Nat) : Int))), some (mI (w32 ((w32 (600 * (Hj 64 18))) + ((G 82 (Int.toNat x)) + ((j : Nat) : Int))))), none, none] [] Hj from ?_)
        rw [eix]
        refine (show W2 o_X12 M_X12_holds (inN [107]) (q + 10) Q 34 [some (mR 69), some (mI x), some (mI b), some (mI a), some (mI ((G 82 (Int.toNat x)) + ((j : Nat) : Int))), some (mI ((l0 + j : Nat) : Int)), none, none] [] Hj from ?_)
        refine w2_vc [10, 34, 69] 400 oo_X12 q_X12_holds ?_
        refine ⟨(show 0 ≤ ((l0 + j : Nat) : Int) ∧ ((l0 + j : Nat) : Int) < ((1200 : Nat) : Int) from by first | omega | (simp (disch := omega) only [w32_i]; omega)), ?_⟩
        refine ⟨fun (c2 : (Hj 90 (Int.toNat ((l0 + j : Nat) : Int))) = 0) => ?_, fun (c2 : ¬ (Hj 90 (Int.toNat ((l0 + j : Nat) : Int))) = 0) => ?_⟩
        · skip
          refine ⟨(show 0 ≤ ((l0 + j : Nat) : Int) ∧ ((l0 + j : Nat) : Int) < ((1200 : Nat) : Int) from by first | omega | (simp (disch := omega) only [w32_i]; omega)), ?_⟩
          refine ⟨fun (c3 : (Hj 90 (Int.toNat ((l0 + j : Nat) : Int))) = 0) => ?_, fun (c3 : ¬ (Hj 90 (Int.toNat ((l0 + j : Nat) : Int))) = 0) => ?_⟩
          · skip
            refine ⟨fun (c4 : ¬ a = 0) => ?_, fun (c4 : a = 0) => ?_⟩
            · skip
              refine (show W2 o_X12 M_X12_holds (inN [107]) (q + 10) Q 69 [some (mR 69), some (mI x), some (mI b), some (mI a), some (mI ((G 82 (Int.toNat x)) + ((j : Nat) : Int))), some (mI ((l0 + j : Nat) : Int)), none, none] [] Hj from ?_)
              exact holds_tail hb9 hx80 (by omega) (hlw j (by omega)) hj (fun z hz H2 hH2 => by rw [ei1]; exact iht (j + 1) (by omega) z (by rw [hz, hR_2 (b := true) (o := false) (b01_n' ha c4) (decide_eq_false (fun z => z (by have q := c2; rw [st_nat, hj 90 (by decide)] at q; exact q)))]; rfl) (hR_1 hj1 (by rw [show lor G (l0 + j) = false from decide_eq_false (fun z => z (by have q := c2; rw [st_nat, hj 90 (by decide)] at q; exact q))]; rfl)) H2 hH2)
            · skip
              refine (show W2 o_X12 M_X12_holds (inN [107]) (q + 10) Q 10 [some (mR 69), some (mI x), some (mI b), some (mI a), some (mI (w32 (((G 82 (Int.toNat x)) + ((j : Nat) : Int)) + 1))), some (mI ((l0 + j : Nat) : Int)), none, none] [] Hj from ?_)
              refine WP.fg (L' := [some (mR 69), some (mI x), some (mI b), some (mI a), some (mI (w32 (((G 82 (Int.toNat x)) + ((j : Nat) : Int)) + 1))), none, none, none]) ⟨rfl, rfl, rfl, rfl, rfl, trivial⟩ ?_
              rw [ei1]
              exact iht (j + 1) (by omega) a (by rw [ha, hR_2 (b := false) (o := false) (b01_z' ha c4) (decide_eq_false (fun z => z (by have q := c2; rw [st_nat, hj 90 (by decide)] at q; exact q))), b01_z' ha c4]; rfl) (hR_1 hj1 (by rw [b01_z' ha c4]; simp)) Hj hj
          · skip
            exfalso; first | omega | (rw [w32_i (by omega) (by omega)] at c4; omega) | (simp (disch := omega) only [w32_i] at *; omega)
        · skip
          refine ⟨fun (c5 : a = 0) => ?_, fun (c5 : ¬ a = 0) => ?_⟩
          · skip
            refine ⟨(show 0 ≤ ((l0 + j : Nat) : Int) ∧ ((l0 + j : Nat) : Int) < ((1200 : Nat) : Int) from by first | omega | (simp (disch := omega) only [w32_i]; omega)), ?_⟩
            refine ⟨fun (c6 : (Hj 90 (Int.toNat ((l0 + j : Nat) : Int))) = 0) => ?_, fun (c6 : ¬ (Hj 90 (Int.toNat ((l0 + j : Nat) : Int))) = 0) => ?_⟩
            · skip
              exfalso; first | omega | (rw [w32_i (by omega) (by omega)] at c6; omega) | (simp (disch := omega) only [w32_i] at *; omega)
            · skip
              refine ⟨fun _ => ?_, fun (c : (1 : Int) = 0) => absurd c (by decide)⟩
              refine (show W2 o_X12 M_X12_holds (inN [107]) (q + 10) Q 69 [some (mR 69), some (mI x), some (mI b), some (mI 1), some (mI ((G 82 (Int.toNat x)) + ((j : Nat) : Int))), some (mI ((l0 + j : Nat) : Int)), none, none] [] Hj from ?_)
              exact holds_tail hb9 hx80 (by omega) (hlw j (by omega)) hj (fun z hz H2 hH2 => by rw [ei1]; exact iht (j + 1) (by omega) z (by rw [hz, hR_2 (b := false) (o := true) (b01_z' ha c5) (decide_eq_true (by have q := c2; rw [st_nat, hj 90 (by decide)] at q; exact q))]; rfl) (hR_1 hj1 (by rw [b01_z' ha c5]; simp)) H2 hH2)
          · skip
            refine ⟨Or.inr rfl, ?_⟩
            rw [show (1 : Int) = b01 (hRs (lor G) (litV G b) l0 N) from by (unfold hRs; rw [hR_t (m := j + 1) (by show ((hR (lor G) (litV G b) l0 j).1 || (lor G (l0 + j) && (hR (lor G) (litV G b) l0 j).2)) = true; rw [show lor G (l0 + j) = true from decide_eq_true (by have q := c2; rw [st_nat, hj 90 (by decide)] at q; exact q), b01_n' ha c5]; simp) (by omega)]; rfl)]
            exact hQ _ hj
  refine MP.to (D2 := inN [107]) (Q2 := Q) ?_ hD (fun v G' q _ => q)
  refine p2_vc [10] 400 oo_X12 q_X12_holds (by decide) rfl (Nat.le_of_ble_eq_true rfl) ?_
  refine ⟨(show 0 ≤ x ∧ x < ((80 : Nat) : Int) from by first | omega | (simp (disch := omega) only [w32_i]; omega)), ?_⟩
  refine (show W2 o_X12 M_X12_holds (inN [107]) (q + 10) Q 10 [some (mR 69), some (mI x), some (mI b), some (mI 0), some (mI (G 82 (Int.toNat x))), none, none, none] [] G from ?_)
  rw [← Int.add_zero (G 82 (Int.toNat x))]
  exact hloop N 0 (by omega) 0 rfl rfl G (fun _ _ => rfl)
