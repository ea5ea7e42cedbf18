/-! ===== what the reference lists ===== -/
def lsB (G : mG) (nk : Nat) (x y : Int) : Prop := ∃ k, k < nk ∧ G 77 (rfL G + k) = 2 ∧ ((G 78 (rfL G + k) = x ∧ G 79 (rfL G + k) = y) ∨ (G 78 (rfL G + k) = y ∧ G 79 (rfL G + k) = x))
/-- what the lists rest on -/
def lsH (G : mG) (nf : Int) (n nk : Nat) : Prop := n ≤ 9 ∧ G 64 44 = (n : Int) ∧ (0 ≤ G 64 18 ∧ G 64 18 ≤ 1) ∧ (nk : Int) = G 76 (G 64 18).toNat ∧ nk ≤ 40 ∧ rW G ∧ (0 ≤ nf ∧ nf ≤ 300) ∧ (∀ k, k < nk → 0 ≤ G 78 (rfL G + k) ∧ G 78 (rfL G + k) < 8) ∧ (∀ k, k < nk → G 77 (rfL G + k) = 2 → 0 ≤ G 79 (rfL G + k) ∧ G 79 (rfL G + k) < 8) ∧ (∀ k, k < nk → G 77 (rfL G + k) = 0 → 0 ≤ G 81 (rfL G + k) ∧ G 81 (rfL G + k) ≤ 9999)
def lsX (G H : mG) : Prop := ∀ k, (∀ a ∈ ([106, 107, 108, 109, 110, 115] : List Nat), k ≠ a) → H k = G k
theorem lsX.k {G H : mG} (h : lsX G H) (k : Nat) (hk : [106, 107, 108, 109, 110, 115].all (fun a => !(Nat.beq a k)) = true) : H k = G k :=
  h k (fun a ha he => by
    have := List.all_eq_true.mp hk a ha
    rw [he] at this
    simp [Nat.beq_refl] at this)
theorem lsX.s {G H : mG} (h : lsX G H) {k j : Nat} {x : Int} (hk : k ∈ ([106, 107, 108, 109, 110, 115] : List Nat)) : lsX G (gs H k j x) := by
  intro a ha
  rw [gs_ne (ha k hk)]
  exact h a ha
theorem lsX.m {G H H2 : mG} (h : lsX G H) (h2 : ∀ k, k ≠ 106 → k ≠ 107 → H2 k = H k) : lsX G H2 := fun a ha => by
  rw [h2 a (ha 106 (by decide)) (ha 107 (by decide))]
  exact h a ha
/-- clause c suits board b -/
def lsC (G : mG) (f : Int) (bv : Nat → Int) (b c : Nat) : Bool := decide (G 77 (rfL G + c) = 0) && (decide (¬ f_X12_isForce G (G 78 (rfL G + c)) f = 0) && (decide (G 80 (rfL G + c) = G 94 b) && decide (bv c = -1)))
def lsO (G : mG) (f : Int) (bv : Nat → Int) (b j : Nat) : List Nat := (List.range j).filter (lsC G f bv b)
def lsl (G : mG) (f nf : Int) (bv : Nat → Nat → Int) (nk b : Nat) : List Nat := if f_X12_isLost G (b : Int) f nf = 0 then lsO G f (bv b) b nk else []
def lsR (H : mG) (b : Nat) (l : List Nat) : Prop := H 108 b = (l.length : Int) ∧ ∀ i, (hi : i < l.length) → H 109 (40 * b + i) = (l[i] : Int)
theorem lsO_s (G : mG) (f : Int) (bv : Nat → Int) (b j : Nat) : lsO G f bv b (j + 1) = if lsC G f bv b j = true then lsO G f bv b j ++ [j] else lsO G f bv b j := by
  unfold lsO
  rw [List.range_succ, List.filter_append]
  by_cases h : lsC G f bv b j = true
  · rw [if_pos h]; simp [h]
  · rw [if_neg h]; simp [h]
theorem lsO_len (G : mG) (f : Int) (bv : Nat → Int) (b j : Nat) : (lsO G f bv b j).length ≤ j := by
  unfold lsO
  have h := List.length_filter_le (lsC G f bv b) (List.range j)
  rw [List.length_range] at h
  exact h
theorem lsO_mem {G : mG} {f : Int} {bv : Nat → Int} {b j i : Nat} (hi : i < (lsO G f bv b j).length) : (lsO G f bv b j)[i] < j ∧ lsC G f bv b (lsO G f bv b j)[i] = true := by
  have hm := List.getElem_mem hi
  unfold lsO at hm
  rw [List.mem_filter, List.mem_range] at hm
  exact hm
theorem lsl_len {G : mG} {f nf : Int} {bv : Nat → Nat → Int} {nk b : Nat} : (lsl G f nf bv nk b).length ≤ nk := by
  unfold lsl
  split
  · exact lsO_len _ _ _ _ _
  · exact Nat.zero_le _
theorem lsl_mem {G : mG} {f nf : Int} {bv : Nat → Nat → Int} {nk b i : Nat} (hi : i < (lsl G f nf bv nk b).length) : (lsl G f nf bv nk b)[i] < nk ∧ lsC G f (bv b) b (lsl G f nf bv nk b)[i] = true := by
  by_cases hz : f_X12_isLost G (b : Int) f nf = 0
  · have e : lsl G f nf bv nk b = lsO G f (bv b) b nk := by unfold lsl; rw [if_pos hz]
    have hi2 : i < (lsO G f (bv b) b nk).length := by rw [← e]; exact hi
    have := lsO_mem hi2
    simp only [e]
    exact this
  · have e : lsl G f nf bv nk b = [] := by unfold lsl; rw [if_neg hz]
    rw [e] at hi
    exact absurd hi (Nat.not_lt_zero _)
theorem lsR_to {H H' : mG} {b : Nat} {l : List Nat} (h : lsR H b l) (h1 : H' 108 b = H 108 b) (h2 : ∀ i, i < l.length → H' 109 (40 * b + i) = H 109 (40 * b + i)) : lsR H' b l :=
  ⟨h1.trans h.1, fun i hi => (h2 i hi).trans (h.2 i hi)⟩
section LSS
variable {G : mG} {f nf : Int} {n nk q : Nat} {bv : Nat → Nat → Int} {Q : Option mV → mG → Prop}
abbrev lsD (q : Nat) (Q : Option mV → mG → Prop) (f nf : Int) (pc : Nat) (l3 : Int) (H : mG) : Prop := W2 o_X12 M_X12_lists (inN [106, 107, 108, 109, 110, 115]) (q + 25) Q pc [some (mR 69), some (mI f), some (mI nf), some (mI l3), none, none] [] H
/-- from board b on, the hopes hold what the options are worth at most -/
def lsG (G : mG) (n : Nat) (H : mG) (b0 : Nat) : Prop := H 115 n = 0 ∧ ∀ b, b0 ≤ b → b < n → (0 ≤ H 115 (b + 1) ∧ H 115 (b + 1) ≤ H 115 b ∧ H 115 b ≤ 9999 * ((n : Int) - (b : Int))) ∧ ∀ i : Nat, (i : Int) < H 108 b → G 81 (rfL G + (H 109 (40 * b + i)).toNat) ≤ H 115 b - H 115 (b + 1)
/-- what the lists come to -/
def lsP (G : mG) (f nf : Int) (n nk : Nat) (bv : Nat → Nat → Int) (H : mG) : Prop := lsX G H ∧ (∀ x y : Nat, x < 8 → y < 8 → (¬ H 110 (8 * x + y) = 0 ↔ lsB G nk (x : Int) (y : Int))) ∧ (∀ b, b < n → lsR H b (lsl G f nf bv nk b)) ∧ lsG G n H 0
theorem ls_D (hG : lsH G nf n nk) (hQ : ∀ H, lsP G f nf n nk bv H → Q none H) : ∀ b : Nat, b ≤ n → ∀ H, lsX G H → (∀ x y : Nat, x < 8 → y < 8 → (¬ H 110 (8 * x + y) = 0 ↔ lsB G nk (x : Int) (y : Int))) → (∀ b, b < n → lsR H b (lsl G f nf bv nk b)) → lsG G n H b → lsD q Q f nf 289 ((b : Int) - 1) H := by
  intro b
  induction b with
  | zero =>
    intro _ H h1 h2 h3 h4
    exact li_end (hQ H ⟨h1, h2, h3, h4⟩)
  | succ b ih =>
    intro hb H h1 h2 h3 h4
    obtain ⟨g1, g2, g3, g4, g5, g6, g7, g8, g9, g10⟩ := id hG
    rw [show ((b + 1 : Nat) : Int) - 1 = (b : Int) by omega]
    have hb1 : Unit → w32 (((b : Nat) : Int) + 1) = ((b + 1 : Nat) : Int) := fun _ => w32_nat (by omega)
    have hl := h3 b (by omega)
    have hlen := lsl_len (G := G) (f := f) (nf := nf) (bv := bv) (nk := nk) (b := b)
    have e18 : H 64 18 = G 64 18 := by rw [h1.k 64 (by decide)]
    have hnext : 0 ≤ H 115 (b + 1) ∧ H 115 (b + 1) ≤ 9999 * ((n : Int) - ((b + 1 : Nat) : Int)) := by
      by_cases hbn : b + 1 = n
      · rw [hbn, h4.1]; omega
      · have := (h4.2 (b + 1) (by omega) (by omega)).1; omega
    refine li_289 (b := b) ?_
    have inner : ∀ (t i : Nat), i + t = (lsl G f nf bv nk b).length → ∀ mo : Int, (0 ≤ mo ∧ mo ≤ 9999) → (∀ i' : Nat, i' < i → G 81 (rfL G + (H 109 (40 * b + i')).toNat) ≤ mo) → W2 o_X12 M_X12_lists (inN [106, 107, 108, 109, 110, 115]) (q + 25) Q 299 [some (mR 69), some (mI f), some (mI nf), some (mI ((b : Nat) : Int)), some (mI mo), some (mI ((i : Nat) : Int))] [] H := by
      intro t
      induction t with
      | zero =>
        intro i hi mo hmo hw
        have hix : Unit → w32 ((w32 (40 * ((b : Nat) : Int))) + ((i : Nat) : Int)) = ((40 * b + i : Nat) : Int) := fun _ => by
          rw [w32_i (x := 40 * ((b : Nat) : Int)) (by omega) (by omega), w32_i (by omega) (by omega)]; omega
        refine li_299 (n := n) g1 (by omega) (hb1 ()) (by rw [st_nat, hl.1]; omega) (hix ()) (Or.inl (by rw [st_nat, hl.1]; omega)) (fun _ => ?_) (fun c _ => ?_) (fun c _ => ?_)
        · rw [hb1 (), st_nat, st_nat, w32_b1 (by omega), w32_i (by omega) (by omega)]
          refine ih (by omega) _ (h1.s (by decide)) (fun x y hx hy => by rw [gs_ne (by decide)]; exact h2 x y hx hy) (fun b' hb' => lsR_to (h3 b' hb') (by rw [gs_ne (by decide)]) (fun i _ => by rw [gs_ne (by decide)])) ⟨?_, fun b' hb' hbn' => ?_⟩
          · rw [gs_at_ne (by omega)]; exact h4.1
          · rw [gs_ne (show (108 : Nat) ≠ 115 by decide), gs_ne (show (109 : Nat) ≠ 115 by decide), gs_at_ne (show b' + 1 ≠ b by omega)]
            by_cases hbb : b' = b
            · subst hbb
              rw [gs_at]
              refine ⟨by omega, fun i' hi' => ?_⟩
              have := hw i' (by rw [hl.1] at hi'; omega)
              omega
            · rw [gs_at_ne hbb]
              exact h4.2 b' (by omega) hbn'
        · rw [st_nat, hl.1] at c; omega
        · rw [st_nat, hl.1] at c; omega
      | succ t iht =>
        intro i hi mo hmo hw
        have hix : Unit → w32 ((w32 (40 * ((b : Nat) : Int))) + ((i : Nat) : Int)) = ((40 * b + i : Nat) : Int) := fun _ => by
          rw [w32_i (x := 40 * ((b : Nat) : Int)) (by omega) (by omega), w32_i (by omega) (by omega)]; omega
        have hil : i < (lsl G f nf bv nk b).length := by omega
        have hv := hl.2 i hil
        have hm := lsl_mem hil
        generalize (lsl G f nf bv nk b)[i] = v at hv hm
        have hs : G 77 (rfL G + v) = 0 := by
          have := hm.2
          unfold lsC at this
          rw [Bool.and_eq_true] at this
          exact of_decide_eq_true this.1
        have hw81 := g10 v hm.1 hs
        have hi2 : Unit → w32 ((w32 (40 * (H 64 18))) + (H 109 (40 * b + i))) = ((rfL G + v : Nat) : Int) := fun _ => by
          rw [hv, e18, w32_i (x := 40 * G 64 18) (by omega) (by omega), w32_i (by omega) (by omega)]
          unfold rfL
          omega
        have hval : H 81 (rfL G + v) = G 81 (rfL G + v) := by rw [h1.k 81 (by decide)]
        have hr80 : rfL G + v < 80 := by unfold rfL; omega
        have hvn : (H 109 (40 * b + i)).toNat = v := by rw [hv]; exact st_nat v
        refine li_299 (n := n) g1 (by omega) (hb1 ()) (by rw [st_nat, hl.1]; omega) (hix ()) (Or.inr (by rw [hix (), st_nat, hi2 ()]; omega)) (fun c => ?_) (fun _ c => ?_) (fun _ c => ?_)
        · rw [st_nat, hl.1] at c; omega
        · rw [hix (), st_nat, hi2 (), st_nat, hval] at c
          refine iht (i + 1) (by omega) mo hmo (fun i' hi' => ?_)
          by_cases hii : i' = i
          · rw [hii, hvn]; exact c
          · exact hw i' (by omega)
        · rw [hix (), st_nat, hi2 (), st_nat, hval] at c
          rw [hix (), st_nat, hi2 (), st_nat, hval]
          refine iht (i + 1) (by omega) _ hw81 (fun i' hi' => ?_)
          by_cases hii : i' = i
          · rw [hii, hvn]; exact Int.le_refl _
          · have := hw i' (by omega); omega
    exact inner (lsl G f nf bv nk b).length 0 (by omega) 0 (by omega) (fun i' hi' => absurd hi' (by omega))
theorem lsC_f {G : mG} {f : Int} {bv : Nat → Int} {b c : Nat} (h : ¬ (G 77 (rfL G + c) = 0 ∧ ¬ f_X12_isForce G (G 78 (rfL G + c)) f = 0 ∧ G 80 (rfL G + c) = G 94 b ∧ bv c = -1)) : lsC G f bv b c = false := by
  cases hq : lsC G f bv b c with
  | false => rfl
  | true =>
    unfold lsC at hq
    rw [Bool.and_eq_true, Bool.and_eq_true, Bool.and_eq_true] at hq
    exact absurd ⟨of_decide_eq_true hq.1, of_decide_eq_true hq.2.1, of_decide_eq_true hq.2.2.1, of_decide_eq_true hq.2.2.2⟩ h
theorem force_r {G H : mG} {x f : Int} (h74 : H 74 = G 74) (h75 : H 75 = G 75) (h64 : H 64 18 = G 64 18) : f_X12_isForce H x f = f_X12_isForce G x f := by
  unfold f_X12_isForce; rw [h74, h75, h64]
theorem lost_r {G H : mG} {b f nf : Int} (h0 : H 100 = G 100) (h1 : H 101 = G 101) (h2 : H 102 = G 102) : f_X12_isLost H b f nf = f_X12_isLost G b f nf := by
  have e : g_X12_isLost_3 H b f nf = g_X12_isLost_3 G b f nf := by unfold g_X12_isLost_3; rw [h0, h1, h2]
  unfold f_X12_isLost
  rw [e]
set_option maxHeartbeats 2000000 in
theorem ls_C (hG : lsH G nf n nk) (hbv : ∀ b c, b < n → c < nk → G 77 (rfL G + c) = 0 → ∀ Hj : mG, lsX G Hj → fs (pR (e_X12_asksBoard Hj ((b : Nat) : Int)) 1 ((b : Nat) : Int) (G 78 (rfL G + c))) nk = bv b c) (hQ : ∀ H, lsP G f nf n nk bv H → Q none H) : ∀ t b : Nat, b + t = n → ∀ H, lsX G H → (∀ x y : Nat, x < 8 → y < 8 → (¬ H 110 (8 * x + y) = 0 ↔ lsB G nk (x : Int) (y : Int))) → (∀ b', b' < b → lsR H b' (lsl G f nf bv nk b')) → lsD q Q f nf 115 ((b : Nat) : Int) H := by
  obtain ⟨g1, g2, g3, g4, g5, g6, g7, g8, g9, g10⟩ := id hG
  intro t
  induction t with
  | zero =>
    intro b hb H h1 h2 h3
    have e44 : H 64 44 = (n : Int) := by rw [h1.k 64 (by decide)]; exact g2
    refine li_115 (n := n) g1 e44 g7 (fun _ => ?_) (fun c _ => absurd c (by omega)) (fun c _ => absurd c (by omega))
    rw [e44, st_nat, w32_i (by omega) (by omega)]
    have hbn : b = n := by omega
    refine ls_D hG hQ n (Nat.le_refl _) _ (h1.s (by decide)) (fun x y hx hy => by rw [gs_ne (by decide)]; exact h2 x y hx hy) (fun b' hb' => lsR_to (h3 b' (by omega)) (by rw [gs_ne (by decide)]) (fun i _ => by rw [gs_ne (by decide)])) ⟨gs_at _ _ _ _, fun b' h5 h6 => absurd h6 (by omega)⟩
  | succ t ih =>
    intro b hb H h1 h2 h3
    have e44 : H 64 44 = (n : Int) := by rw [h1.k 64 (by decide)]; exact g2
    have elo : ∀ H' : mG, lsX G H' → f_X12_isLost H' ((b : Nat) : Int) f nf = f_X12_isLost G ((b : Nat) : Int) f nf := fun H' hX => lost_r (hX.k 100 (by decide)) (hX.k 101 (by decide)) (hX.k 102 (by decide))
    have keep : ∀ H' : mG, (∀ i, i ≠ b → H' 108 i = H 108 i) → (∀ i, (i < 40 * b ∨ 40 * b + 40 ≤ i) → H' 109 i = H 109 i) → ∀ b', b' < b → lsR H' b' (lsl G f nf bv nk b') := by
      intro H' k1 k2 b' hb'
      have hlen := lsl_len (G := G) (f := f) (nf := nf) (bv := bv) (nk := nk) (b := b')
      exact lsR_to (h3 b' hb') (k1 b' (by omega)) (fun i hi => k2 _ (by omega))
    refine li_115 (n := n) g1 e44 g7 (fun c => absurd c (by omega)) (fun _ c => ?_) (fun _ c => ?_)
    · rw [elo _ (h1.s (by decide))] at c
      rw [st_nat]
      have hlsl : lsl G f nf bv nk b = lsO G f (bv b) b nk := by unfold lsl; rw [if_pos c]
      have inner : ∀ (t2 c2 : Nat), c2 + t2 = nk → ∀ H1 : mG, lsX G H1 → H1 110 = H 110 → (∀ i, i ≠ b → H1 108 i = H 108 i) → (∀ i, (i < 40 * b ∨ 40 * b + 40 ≤ i) → H1 109 i = H 109 i) → lsR H1 b (lsO G f (bv b) b c2) → W2 o_X12 M_X12_lists (inN [106, 107, 108, 109, 110, 115]) (q + 25) Q 146 [some (mR 69), some (mI f), some (mI nf), some (mI ((b : Nat) : Int)), some (mI ((c2 : Nat) : Int)), none] [] H1 := by
        intro t2
        induction t2 with
        | zero =>
          intro c2 hc2 H1 i1 i2 i3 i4 i5
          have hlen := lsO_len G f (bv b) b c2
          have e18 : H1 64 18 = G 64 18 := by rw [i1.k 64 (by decide)]
          have fin : lsD q Q f nf 115 ((b + 1 : Nat) : Int) H1 := by
            refine ih (b + 1) (by omega) H1 i1 (by rw [i2]; exact h2) (fun b' hb' => ?_)
            by_cases hbb : b' = b
            · rw [hbb, hlsl, ← show c2 = nk by omega]; exact i5
            · exact keep H1 i3 i4 b' (by omega)
          exact li_146x (b := b) (c := c2) (by omega) (by rw [e18, i1.k 76 (by decide), ← g4]; omega) (by rw [e18]; exact g3) fin
        | succ t2 ih2 =>
          intro c2 hc2 H1 i1 i2 i3 i4 i5
          have hlen := lsO_len G f (bv b) b c2
          have e18 : H1 64 18 = G 64 18 := by rw [i1.k 64 (by decide)]
          have eL : rfL G + c2 < 80 := by unfold rfL; omega
          have hkk : Unit → w32 ((w32 (40 * (H1 64 18))) + ((c2 : Nat) : Int)) = ((rfL G + c2 : Nat) : Int) := fun _ => by
            rw [e18, w32_i (x := 40 * G 64 18) (by omega) (by omega), w32_i (by omega) (by omega)]; unfold rfL; omega
          have efo : f_X12_isForce H1 (H1 78 (rfL G + c2)) f = f_X12_isForce G (G 78 (rfL G + c2)) f := by rw [i1.k 78 (by decide)]; exact force_r (i1.k 74 (by decide)) (i1.k 75 (by decide)) e18
          have no : ∀ H2 : mG, lsX G H2 → H2 110 = H 110 → (∀ i, i ≠ b → H2 108 i = H 108 i) → (∀ i, (i < 40 * b ∨ 40 * b + 40 ≤ i) → H2 109 i = H 109 i) → lsR H2 b (lsO G f (bv b) b c2) → lsC G f (bv b) b c2 = false → W2 o_X12 M_X12_lists (inN [106, 107, 108, 109, 110, 115]) (q + 25) Q 146 [some (mR 69), some (mI f), some (mI nf), some (mI ((b : Nat) : Int)), some (mI ((c2 + 1 : Nat) : Int)), none] [] H2 := by
            intro H2 j1 j2 j3 j4 j5 hf
            refine ih2 (c2 + 1) (by omega) H2 j1 j2 j3 j4 ?_
            rw [lsO_s, hf]
            exact j5
          refine li_146 (n := n) (nk := nk) (kk := rfL G + c2) (bv := fs (pR (e_X12_asksBoard H1 ((b : Nat) : Int)) 1 ((b : Nat) : Int) (H1 78 (rfL G + c2))) nk) g1 (by omega) (by rw [e18]; exact g3) (by rw [e18, i1.k 76 (by decide)]; exact g4) g5 (rW_to g6 e18 (fun k hk => i1.k k (by simp only [List.mem_cons, List.not_mem_nil, or_false] at hk; rcases hk with r | r | r | r | r | r | r | r | r | r <;> rw [r] <;> decide))) (by omega) (hkk ()) eL (by rw [st_nat, i1.k 78 (by decide)]; exact g8 c2 (by omega)) (by rw [st_nat, i5.1]; omega) rfl (fun c => absurd c (by omega)) (fun _ c => ?_) (fun _ c1 c3 c4 c5 H2 hH2 => ?_) (fun _ c1 c3 c4 c5 H2 hH2 => ?_)
          · rw [st_nat, st_nat, efo, i1.k 77 (by decide), i1.k 80 (by decide), i1.k 94 (by decide)] at c
            exact no H1 i1 i2 i3 i4 i5 (lsC_f (fun z => by rcases c with c | c | c; exact c z.1; exact z.2.1 c; exact c z.2.2.1))
          · rw [st_nat, i1.k 77 (by decide)] at c1
            rw [i1.k 78 (by decide), hbv b c2 (by omega) (by omega) c1 H1 i1] at c5
            exact no H2 (i1.m hH2) (by rw [hH2 110 (by decide) (by decide)]; exact i2) (fun i hi => by rw [hH2 108 (by decide) (by decide)]; exact i3 i hi) (fun i hi => by rw [hH2 109 (by decide) (by decide)]; exact i4 i hi) (lsR_to i5 (by rw [hH2 108 (by decide) (by decide)]) (fun i _ => by rw [hH2 109 (by decide) (by decide)])) (lsC_f (fun z => c5 z.2.2.2))
          · rw [st_nat, i1.k 77 (by decide)] at c1
            rw [i1.k 78 (by decide), hbv b c2 (by omega) (by omega) c1 H1 i1] at c5
            rw [st_nat, efo] at c3
            rw [st_nat, st_nat, i1.k 80 (by decide), i1.k 94 (by decide)] at c4
            have e108 : H2 108 b = ((lsO G f (bv b) b c2).length : Int) := by rw [hH2 108 (by decide) (by decide)]; exact i5.1
            have hix : Unit → w32 ((w32 (40 * ((b : Nat) : Int))) + ((lsO G f (bv b) b c2).length : Int)) = ((40 * b + (lsO G f (bv b) b c2).length : Nat) : Int) := fun _ => by
              rw [w32_i (x := 40 * ((b : Nat) : Int)) (by omega) (by omega), w32_i (by omega) (by omega)]; omega
            rw [st_nat, e108, hix (), st_nat, w32_i (by omega) (by omega)]
            have hok : lsC G f (bv b) b c2 = true := by unfold lsC; rw [decide_eq_true c1, decide_eq_true c3, decide_eq_true c4, decide_eq_true c5]; rfl
            refine ih2 (c2 + 1) (by omega) _ (((i1.m hH2).s (by decide)).s (by decide)) ?_ (fun i hi => ?_) (fun i hi => ?_) ?_
            · rw [gs_ne (by decide), gs_ne (by decide), hH2 110 (by decide) (by decide)]; exact i2
            · rw [gs_at_ne hi, gs_ne (by decide), hH2 108 (by decide) (by decide)]; exact i3 i hi
            · rw [gs_ne (by decide), gs_at_ne (by omega), hH2 109 (by decide) (by decide)]; exact i4 i hi
            · rw [lsO_s, if_pos hok]
              refine ⟨by rw [gs_at, List.length_append]; simp, fun i hi => ?_⟩
              by_cases hil : i < (lsO G f (bv b) b c2).length
              · rw [List.getElem_append_left hil, gs_ne (by decide), gs_at_ne (by omega), hH2 109 (by decide) (by decide)]
                exact i5.2 i hil
              · have he : i = (lsO G f (bv b) b c2).length := by rw [List.length_append] at hi; simp at hi; omega
                subst he
                rw [List.getElem_append_right (Nat.le_refl _), gs_ne (by decide), gs_at]
                simp
      refine inner nk 0 (by omega) _ (h1.s (by decide)) (gs_ne (by decide)) (fun i hi => gs_at_ne hi) (fun i _ => by rw [gs_ne (by decide)]) ⟨gs_at _ _ _ _, fun i hi => absurd hi (Nat.not_lt_zero _)⟩
    · rw [elo _ (h1.s (by decide))] at c
      rw [st_nat]
      have hlsl : lsl G f nf bv nk b = [] := by unfold lsl; rw [if_neg c]
      refine ih (b + 1) (by omega) _ (h1.s (by decide)) (fun x y hx hy => by rw [gs_ne (by decide)]; exact h2 x y hx hy) (fun b' hb' => ?_)
      by_cases hbb : b' = b
      · rw [hbb, hlsl]
        exact ⟨gs_at _ _ _ _, fun i hi => absurd hi (Nat.not_lt_zero _)⟩
      · exact keep _ (fun i hi => gs_at_ne hi) (fun i _ => by rw [gs_ne (by decide)]) b' (by omega)
theorem lsB_s {i : Nat} {x y : Int} : lsB G (i + 1) x y ↔ (lsB G i x y ∨ (G 77 (rfL G + i) = 2 ∧ ((G 78 (rfL G + i) = x ∧ G 79 (rfL G + i) = y) ∨ (G 78 (rfL G + i) = y ∧ G 79 (rfL G + i) = x)))) := by
  constructor
  · rintro ⟨k, h1, h2⟩
    by_cases hk : k = i
    · rw [hk] at h2; exact Or.inr h2
    · exact Or.inl ⟨k, by omega, h2⟩
  · rintro (⟨k, h1, h2⟩ | h2)
    · exact ⟨k, by omega, h2⟩
    · exact ⟨i, by omega, h2⟩
theorem ls_B (hG : lsH G nf n nk) (hbv : ∀ b c, b < n → c < nk → G 77 (rfL G + c) = 0 → ∀ Hj : mG, lsX G Hj → fs (pR (e_X12_asksBoard Hj ((b : Nat) : Int)) 1 ((b : Nat) : Int) (G 78 (rfL G + c))) nk = bv b c) (hQ : ∀ H, lsP G f nf n nk bv H → Q none H) : ∀ t i : Nat, i + t = nk → ∀ H, lsX G H → (∀ x y : Nat, x < 8 → y < 8 → (¬ H 110 (8 * x + y) = 0 ↔ lsB G i (x : Int) (y : Int))) → lsD q Q f nf 29 ((rfL G + i : Nat) : Int) H := by
  obtain ⟨g1, g2, g3, g4, g5, g6, g7, g8, g9, g10⟩ := id hG
  intro t
  induction t with
  | zero =>
    intro i hi H h1 h2
    have e18 : H 64 18 = G 64 18 := by rw [h1.k 64 (by decide)]
    have he : Unit → w32 ((w32 (40 * (H 64 18))) + (H 76 (Int.toNat (H 64 18)))) = ((rfL G + nk : Nat) : Int) := fun _ => by
      rw [e18, h1.k 76 (by decide), ← g4, w32_i (x := 40 * G 64 18) (by omega) (by omega), w32_i (by omega) (by omega)]; unfold rfL; omega
    have hin : i = nk := by omega
    refine li_29x (e := rfL G + nk) (by rw [e18]; exact g3) (he ()) (by unfold rfL; omega) (by omega) ?_
    exact ls_C hG hbv hQ n 0 (by omega) H h1 (by rw [← hin]; exact h2) (fun b' hb' => absurd hb' (by omega))
  | succ t ih =>
    intro i hi H h1 h2
    have e18 : H 64 18 = G 64 18 := by rw [h1.k 64 (by decide)]
    have he : Unit → w32 ((w32 (40 * (H 64 18))) + (H 76 (Int.toNat (H 64 18)))) = ((rfL G + nk : Nat) : Int) := fun _ => by
      rw [e18, h1.k 76 (by decide), ← g4, w32_i (x := 40 * G 64 18) (by omega) (by omega), w32_i (by omega) (by omega)]; unfold rfL; omega
    have e77 : H 77 (rfL G + i) = G 77 (rfL G + i) := by rw [h1.k 77 (by decide)]
    have e78 : H 78 (rfL G + i) = G 78 (rfL G + i) := by rw [h1.k 78 (by decide)]
    have e79 : H 79 (rfL G + i) = G 79 (rfL G + i) := by rw [h1.k 79 (by decide)]
    have a8 := g8 i (by omega)
    have a9 := g9 i (by omega)
    have X : G 77 (rfL G + i) = 2 → w32 ((w32 (8 * G 78 (rfL G + i))) + G 79 (rfL G + i)) = ((8 * (G 78 (rfL G + i)).toNat + (G 79 (rfL G + i)).toNat : Nat) : Int) ∧ w32 ((w32 (8 * G 79 (rfL G + i))) + G 78 (rfL G + i)) = ((8 * (G 79 (rfL G + i)).toNat + (G 78 (rfL G + i)).toNat : Nat) : Int) := by
      intro h77
      have a9 := a9 h77
      rw [w32_i (x := 8 * G 78 (rfL G + i)) (by omega) (by omega), w32_i (x := 8 * G 79 (rfL G + i)) (by omega) (by omega), w32_i (by omega) (by omega), w32_i (by omega) (by omega)]
      omega
    refine li_29 (j := rfL G + i) (e := rfL G + nk) (by rw [e18]; exact g3) (he ()) (by unfold rfL; omega) ?_ (fun c => absurd c (by omega)) (fun _ c => ?_) (fun _ c => ?_)
    · rw [st_nat, e77, e78, e79]
      by_cases h77 : G 77 (rfL G + i) = 2
      · have a9 := a9 h77
        rw [(X h77).1, (X h77).2]
        exact Or.inr (by omega)
      · exact Or.inl h77
    · rw [st_nat, e77] at c
      refine ih (i + 1) (by omega) H h1 (fun x y hx hy => ?_)
      rw [h2 x y hx hy, lsB_s]
      exact ⟨Or.inl, fun z => by rcases z with z | z; exact z; exact absurd z.1 c⟩
    · rw [st_nat, e77] at c
      rw [st_nat, e78, e79, (X c).1, (X c).2, st_nat, st_nat]
      have a9 := a9 c
      refine ih (i + 1) (by omega) _ ((h1.s (by decide)).s (by decide)) (fun x y hx hy => ?_)
      rw [lsB_s, ← h2 x y hx hy]
      by_cases q1 : 8 * x + y = 8 * (G 79 (rfL G + i)).toNat + (G 78 (rfL G + i)).toNat
      · rw [q1, gs_at]
        exact ⟨fun _ => Or.inr ⟨c, Or.inr ⟨by omega, by omega⟩⟩, fun _ => by decide⟩
      · rw [gs_at_ne q1]
        by_cases q2 : 8 * x + y = 8 * (G 78 (rfL G + i)).toNat + (G 79 (rfL G + i)).toNat
        · rw [q2, gs_at]
          exact ⟨fun _ => Or.inr ⟨c, Or.inl ⟨by omega, by omega⟩⟩, fun _ => by decide⟩
        · rw [gs_at_ne q2]
          refine ⟨Or.inl, fun z => ?_⟩
          rcases z with z | ⟨_, ⟨z1, z2⟩ | ⟨z1, z2⟩⟩
          · exact z
          · exact absurd (by omega) q2
          · exact absurd (by omega) q1
theorem ls_A (hG : lsH G nf n nk) (hbv : ∀ b c, b < n → c < nk → G 77 (rfL G + c) = 0 → ∀ Hj : mG, lsX G Hj → fs (pR (e_X12_asksBoard Hj ((b : Nat) : Int)) 1 ((b : Nat) : Int) (G 78 (rfL G + c))) nk = bv b c) (hQ : ∀ H, lsP G f nf n nk bv H → Q none H) : ∀ t j : Nat, j + t = 64 → ∀ H, lsX G H → (∀ i, i < j → H 110 i = 0) → lsD q Q f nf 2 ((j : Nat) : Int) H := by
  intro t
  induction t with
  | zero =>
    intro j hj H h1 h2
    have e18 : H 64 18 = G 64 18 := by rw [h1.k 64 (by decide)]
    have hlv := hG.2.2.1
    refine li_2 (by omega) (fun _ => ?_) (fun c => absurd c (by omega))
    rw [e18, show w32 (40 * G 64 18) = ((rfL G + 0 : Nat) : Int) from by rw [w32_i (by omega) (by omega)]; unfold rfL; omega]
    refine ls_B hG hbv hQ nk 0 (by omega) H h1 (fun x y hx hy => ?_)
    rw [h2 (8 * x + y) (by omega)]
    exact ⟨fun z => absurd rfl z, fun ⟨k, hk, _⟩ => absurd hk (by omega)⟩
  | succ t ih =>
    intro j hj H h1 h2
    refine li_2 (by omega) (fun c => absurd c (by omega)) (fun _ => ?_)
    rw [st_nat]
    refine ih (j + 1) (by omega) _ (h1.s (by decide)) (fun i hi => ?_)
    by_cases hij : i = j
    · rw [hij, gs_at]
    · rw [gs_at_ne hij]; exact h2 i (by omega)
theorem sp_X12_lists {D : Nat → Bool} (hG : lsH G nf n nk) (hbv : ∀ b c, b < n → c < nk → G 77 (rfL G + c) = 0 → ∀ Hj : mG, lsX G Hj → fs (pR (e_X12_asksBoard Hj ((b : Nat) : Int)) 1 ((b : Nat) : Int) (G 78 (rfL G + c))) nk = bv b c) (hD : ∀ k, D k = false → inN [106, 107, 108, 109, 110, 115] k = false) (hQ : ∀ H, lsP G f nf n nk bv H → Q none H) : P2 D (q + 25) M_X12_lists [mR 69, mI f, mI nf] G Q :=
  li_0 hD (ls_A hG hbv hQ 64 0 (by omega) G (fun _ _ => rfl) (fun i hi => absurd hi (by omega)))
end LSS
