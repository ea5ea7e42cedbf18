/-! ===== the reference's tokens ===== -/
def tkP (b : Nat → Int) : Nat → Nat
  | 0 => 0
  | k + 1 => tkE b (tkS b (tkP b k))
/-- where token k starts -/
def tkQ (b : Nat → Int) (k : Nat) : Nat := tkS b (tkP b k)
/-- the first K tokens lie in the reference's rows -/
def tkR (b : Nat → Int) (K : Nat) (H : mG) : Prop := ∀ i, i < K → H 67 i = tkK b (tkQ b i) ∧ H 68 i = ((tkQ b i : Nat) : Int) ∧ (tkK b (tkQ b i) = 2 → H 69 i = tkV b (tkQ b i)) ∧ (tkK b (tkQ b i) = 1 → H 70 i = tkN b (tkQ b i))
theorem rn_in {P : Nat → Bool} {n p : Nat} (h : ∀ i, P i = true → i < 3000) : rn P n p ≤ 3000 - p := by
  by_cases z : rn P n p = 0
  · omega
  · have := h _ (rn_all (P := P) (n := n) (p := p) (i := rn P n p - 1) (by omega))
    omega
section CUT
variable {G H : mG} {L : Int} {r : Nat → Int} {p q K : Nat}
theorem tb_B {i : Nat} (h : tcB (tb L r i) = true) : i < 3000 := by
  by_cases z : 3000 ≤ i
  · rw [tb_out z] at h; exact absurd h (by decide)
  · omega
theorem tkS_n (h : tcB (tb L r p) = false) : tkS (tb L r) p = p := by
  unfold tkS
  rw [rn_eq (P := fun i => tcB (tb L r i)) (m := 0) (fun i hi => absurd hi (Nat.not_lt_zero _)) h (by omega)]
  rfl
theorem tkS_b (h : tcB (tb L r p) = true) : tkS (tb L r) p = tkS (tb L r) (p + 1) := by
  unfold tkS
  have h1 := rn_in (P := fun i => tcB (tb L r i)) (n := 3001) (p := p + 1) (fun i hi => tb_B hi)
  have h2 := tb_B h
  have h3 := rn_stop (P := fun i => tcB (tb L r i)) (n := 3001) (p := p + 1) (by omega)
  rw [rn_eq (P := fun i => tcB (tb L r i)) (n := 3001) (p := p) (m := rn (fun i => tcB (tb L r i)) 3001 (p + 1) + 1) (fun i hi => ?_) ?_ (by omega)]
  · omega
  · rw [show p + (rn (fun i => tcB (tb L r i)) 3001 (p + 1) + 1) = p + 1 + rn (fun i => tcB (tb L r i)) 3001 (p + 1) from by omega]
    exact h3
  · cases i with
    | zero => exact h
    | succ i =>
      have := rn_all (P := fun i => tcB (tb L r i)) (n := 3001) (p := p + 1) (i := i) (by omega)
      rw [show p + (i + 1) = p + 1 + i from by omega]
      exact this
theorem tkW_le : tkW (tb L r) p ≤ 3000 - p := rn_in (fun i hi => tb_L hi)
theorem tkI_le : tkI (tb L r) p ≤ 3000 - p := rn_in (fun i hi => tb_D hi)
theorem tkW_all {i : Nat} (h : i < tkW (tb L r) p) : tcL (tb L r (p + i)) = true := rn_all (P := fun i => tcL (tb L r i)) h
theorem tkI_all {i : Nat} (h : i < tkI (tb L r) p) : tcD (tb L r (p + i)) = true := rn_all (P := fun i => tcD (tb L r i)) h
theorem tkW_stop : tcL (tb L r (p + tkW (tb L r) p)) = false := rn_stop (P := fun i => tcL (tb L r i)) (by have := tkW_le (L := L) (r := r) (p := p); unfold tkW at this; omega)
theorem tkI_stop : tcD (tb L r (p + tkI (tb L r) p)) = false := rn_stop (P := fun i => tcD (tb L r i)) (by have := tkI_le (L := L) (r := r) (p := p); unfold tkI at this; omega)
theorem tkW_pos (h : tcL (tb L r p) = true) : 1 ≤ tkW (tb L r) p := rn_ge (P := fun i => tcL (tb L r i)) (m := 1) (fun i hi => by rw [show i = 0 from by omega]; exact h) (by omega)
theorem tkI_pos (h : tcD (tb L r p) = true) : 1 ≤ tkI (tb L r) p := rn_ge (P := fun i => tcD (tb L r i)) (m := 1) (fun i hi => by rw [show i = 0 from by omega]; exact h) (by omega)
/-- a byte behind the end is 0 to the reference -/
def bz (x : Int) : Int := if x = -1 then 0 else x
theorem bz_L {x : Int} : (97 ≤ bz x ∧ bz x ≤ 122) ↔ tcL x = true := by
  unfold bz tcL
  rw [decide_eq_true_iff]
  split <;> omega
theorem bz_D {x : Int} : (48 ≤ bz x ∧ bz x ≤ 57) ↔ tcD x = true := by
  unfold bz tcD
  rw [decide_eq_true_iff]
  split <;> omega
theorem bz_B {x : Int} : (bz x = 9 ∨ bz x = 10 ∨ bz x = 13 ∨ bz x = 32) ↔ tcB x = true := by
  unfold bz tcB
  rw [decide_eq_true_iff]
  split <;> omega
theorem at_r (h4 : H 64 4 = L) (h66 : H 66 = r) (hL : L ≤ 3000) (i : Nat) : f_X12_at H (i : Int) = bz (tb L r i) := by
  have := and255 (r i)
  unfold f_X12_at bz tb
  rw [h4, h66, st_nat]
  by_cases z : (i : Int) < L
  · rw [if_neg (show ¬ L ≤ (i : Int) by omega), if_pos (show (i : Int) < L ∧ i < 3000 by omega), if_neg (by omega)]
  · rw [if_pos (show L ≤ (i : Int) by omega), if_neg (show ¬ ((i : Int) < L ∧ i < 3000) by omega), if_pos rfl]
theorem at_rw (h4 : H 64 4 = L) (h66 : H 66 = r) (hL : L ≤ 3000) {i j : Nat} (hi : i ≤ 3000) (hj : j ≤ 3000) : f_X12_at H (w32 (((i : Nat) : Int) + ((j : Nat) : Int))) = bz (tb L r (i + j)) := by
  rw [w32_i (by omega) (by omega), show ((i : Nat) : Int) + ((j : Nat) : Int) = ((i + j : Nat) : Int) from by omega]
  exact at_r h4 h66 hL (i + j)
theorem sgK_bz {x y : Int} : sgK x (bz y) = sgK x y := by
  have e : (bz y = 61) = (y = 61) := propext (by unfold bz; split <;> omega)
  unfold sgK
  simp only [e]
theorem sign_eq {a x y : Int} : r_X12_sign G a x y = (if 11 ≤ sgK x y ∧ ¬ sgK x y = 13 then 2 else 1, e_X12_token G (sgK x y) a 0 0) := by
  have hv : x = 61 ∨ x = 33 ∨ x = 60 ∨ x = 59 ∨ x = 40 ∨ x = 41 ∨ x = 43 ∨ x = 45 ∨ x = 42 ∨ (¬ x = 61 ∧ ¬ x = 33 ∧ ¬ x = 60 ∧ ¬ x = 59 ∧ ¬ x = 40 ∧ ¬ x = 41 ∧ ¬ x = 43 ∧ ¬ x = 45 ∧ ¬ x = 42) := by omega
  unfold r_X12_sign sgK
  by_cases hy : y = 61
  · rcases hv with h | h | h | h | h | h | h | h | h | ⟨h1, h2, h3, h4, h5, h6, h7, h8, h9⟩
    all_goals first | (simp [hy, h]; done) | (simp [hy, h1, h2, h3, h4, h5, h6, h7, h8, h9]; done)
  · rcases hv with h | h | h | h | h | h | h | h | h | ⟨h1, h2, h3, h4, h5, h6, h7, h8, h9⟩
    all_goals first | (simp [hy, h]; done) | (simp [hy, h1, h2, h3, h4, h5, h6, h7, h8, h9]; done)
/-- while it cuts -/
def cuI (b : Nat → Int) (G : mG) (K : Nat) (H : mG) : Prop := (∀ k, (∀ a ∈ ([64, 67, 68, 69, 70] : List Nat), k ≠ a) → H k = G k) ∧ (∀ j, j ≠ 10 → H 64 j = G 64 j) ∧ H 64 10 = (K : Int) ∧ tkR b K H
theorem cuI_t {b : Nat → Int} (h : cuI b G K H) (hK : K ≤ 601) {kd y z w : Int} (h1 : kd = tkK b (tkQ b K)) (h2 : y = ((tkQ b K : Nat) : Int)) (h3 : tkK b (tkQ b K) = 2 → z = tkV b (tkQ b K)) (h4 : tkK b (tkQ b K) = 1 → w = tkN b (tkQ b K)) : cuI b G (K + 1) (e_X12_token H kd y z w) := by
  obtain ⟨a1, a2, a3, a4⟩ := h
  unfold e_X12_token
  rw [a3, st_nat]
  refine ⟨fun k hk => ?_, fun j hj => ?_, ?_, fun i hi => ?_⟩
  · rw [gs_ne (hk 64 (by decide)), gs_ne (hk 70 (by decide)), gs_ne (hk 69 (by decide)), gs_ne (hk 68 (by decide)), gs_ne (hk 67 (by decide))]
    exact a1 k hk
  · rw [gs_at_ne hj, gs_ne (by decide), gs_ne (by decide), gs_ne (by decide), gs_ne (by decide)]
    exact a2 j hj
  · rw [gs_at, w32_nat (by omega)]
  · rw [gs_ne (a := 67) (by decide), gs_ne (a := 67) (by decide), gs_ne (a := 67) (by decide), gs_ne (a := 67) (by decide), gs_ne (a := 68) (by decide), gs_ne (a := 68) (by decide), gs_ne (a := 68) (by decide), gs_ne (a := 69) (by decide), gs_ne (a := 69) (by decide), gs_ne (a := 70) (by decide)]
    by_cases hin : i = K
    · rw [hin, gs_at, gs_at, gs_at, gs_at]
      exact ⟨h1, h2, h3, h4⟩
    · rw [gs_at_ne hin, gs_at_ne hin, gs_at_ne hin, gs_at_ne hin, gs_ne (a := 68) (by decide), gs_ne (a := 69) (by decide), gs_ne (a := 69) (by decide), gs_ne (a := 70) (by decide), gs_ne (a := 70) (by decide), gs_ne (a := 70) (by decide)]
      exact a4 i (by omega)
theorem cut_85 {Q : Option mV → mG → Prop} (h4 : H 64 4 = L) (h66 : H 66 = r) (hL : L ≤ 3000) (hp : p ≤ 3000) (hk : 0 ≤ H 64 10 ∧ H 64 10 ≤ 601) (h : W2 o_X12 M_X12_cut (inN [64, 67, 68, 69, 70]) (q + 10) Q 124 [some (mR 69), some (mI ((p : Nat) : Int)), none, some (mI (((tkW (tb L r) p) : Nat) : Int)), some (mJ (nmF (fun i => tb L r (p + i) - 96) (min (tkW (tb L r) p) 8))), none, none, none] [] H) : ∀ t j : Nat, j + t = (tkW (tb L r) p) → W2 o_X12 M_X12_cut (inN [64, 67, 68, 69, 70]) (q + 10) Q 85 [some (mR 69), some (mI ((p : Nat) : Int)), none, some (mI ((j : Nat) : Int)), some (mJ (nmF (fun i => tb L r (p + i) - 96) (min j 8))), none, none, none] [] H := by
  have hW := tkW_le (L := L) (r := r) (p := p)
  intro t
  induction t with
  | zero =>
    intro j hj
    have ej : j = (tkW (tb L r) p) := by omega
    refine cu_85 (x := bz (tb L r (p + j))) (by omega) hp hk (by omega) (at_rw h4 h66 hL hp (by omega)) (fun c => ?_) (fun c => ?_) (fun _ => ?_)
    · have := bz_L.mp c
      rw [ej, tkW_stop] at this
      cases this
    · have := bz_L.mp c
      rw [ej, tkW_stop] at this
      cases this
    · rw [ej]; exact h
  | succ t ih =>
    intro j hj
    have hl := tkW_all (L := L) (r := r) (p := p) (i := j) (by omega)
    refine cu_85 (x := bz (tb L r (p + j))) (by omega) hp hk (by omega) (at_rw h4 h66 hL hp (by omega)) (fun _ c => ?_) (fun _ c => ?_) (fun c => absurd (bz_L.mpr hl) c)
    · have hx := tcL_r hl
      have hn := nmF_r (f := fun i => tb L r (p + i) - 96) (n := j) (fun i hi => by have := tcL_r (tkW_all (L := L) (r := r) (p := p) (i := i) (by omega)); omega)
      have hq := p27_r j (by omega)
      have e : f_X12_more H (nmF (fun i => tb L r (p + i) - 96) (min j 8)) (bz (tb L r (p + j))) = nmF (fun i => tb L r (p + i) - 96) (min (j + 1) 8) := by
        rw [show min j 8 = j from by omega, show min (j + 1) 8 = j + 1 from by omega]
        unfold f_X12_more bz
        rw [if_neg (show ¬ tb L r (p + j) = -1 by omega), if_pos (show ¬ tb L r (p + j) = 0 by omega)]
        show _ = nmF (fun i => tb L r (p + i) - 96) j * 27 + (tb L r (p + j) - 96)
        generalize nmF (fun i => tb L r (p + i) - 96) j = N at *
        rw [w32_i (x := tb L r (p + j) - 97) (by omega) (by omega), w32_i (x := tb L r (p + j) - 97 + 1) (by omega) (by omega), w64_id (x := 27 * N) (by unfold r64; omega), w64_id (by unfold r64; omega)]
        omega
      rw [e]
      exact ih (j + 1) (by omega)
    · have e := ih (j + 1) (by omega)
      rw [show min (j + 1) 8 = min j 8 from by omega] at e
      exact e
theorem cut_208 {Q : Option mV → mG → Prop} (h4 : H 64 4 = L) (h66 : H 66 = r) (hL : L ≤ 3000) (hp : p ≤ 3000) (hk : 0 ≤ H 64 10 ∧ H 64 10 ≤ 601) (h : W2 o_X12 M_X12_cut (inN [64, 67, 68, 69, 70]) (q + 10) Q 250 [some (mR 69), some (mI ((p : Nat) : Int)), none, some (mI (((tkI (tb L r) p) : Nat) : Int)), some (mI (vlF (fun i => tb L r (p + i) - 48) (min (tkI (tb L r) p) 4))), none, none, none] [] H) : ∀ t j : Nat, j + t = (tkI (tb L r) p) → W2 o_X12 M_X12_cut (inN [64, 67, 68, 69, 70]) (q + 10) Q 208 [some (mR 69), some (mI ((p : Nat) : Int)), none, some (mI ((j : Nat) : Int)), some (mI (vlF (fun i => tb L r (p + i) - 48) (min j 4))), none, none, none] [] H := by
  have hW := tkI_le (L := L) (r := r) (p := p)
  intro t
  induction t with
  | zero =>
    intro j hj
    have ej : j = (tkI (tb L r) p) := by omega
    refine cu_208 (x := bz (tb L r (p + j))) (by omega) hp hk (by omega) (at_rw h4 h66 hL hp (by omega)) (fun c => ?_) (fun c => ?_) (fun _ => ?_)
    · have := bz_D.mp c
      rw [ej, tkI_stop] at this
      cases this
    · have := bz_D.mp c
      rw [ej, tkI_stop] at this
      cases this
    · rw [ej]; exact h
  | succ t ih =>
    intro j hj
    have hl := tkI_all (L := L) (r := r) (p := p) (i := j) (by omega)
    refine cu_208 (x := bz (tb L r (p + j))) (by omega) hp hk (by omega) (at_rw h4 h66 hL hp (by omega)) (fun _ c => ?_) (fun _ c => ?_) (fun c => absurd (bz_D.mpr hl) c)
    · have hx := tcD_r hl
      have hn := vlF_r (f := fun i => tb L r (p + i) - 48) (n := j) (fun i hi => by have := tcD_r (tkI_all (L := L) (r := r) (p := p) (i := i) (by omega)); omega)
      have hq := p10_r j (by omega)
      have e : w32 ((w32 ((w32 (10 * (vlF (fun i => tb L r (p + i) - 48) (min j 4)))) + bz (tb L r (p + j)))) - 48) = vlF (fun i => tb L r (p + i) - 48) (min (j + 1) 4) := by
        rw [show min j 4 = j from by omega, show min (j + 1) 4 = j + 1 from by omega]
        unfold bz
        rw [if_neg (show ¬ tb L r (p + j) = -1 by omega)]
        show _ = vlF (fun i => tb L r (p + i) - 48) j * 10 + (tb L r (p + j) - 48)
        generalize vlF (fun i => tb L r (p + i) - 48) j = N at *
        rw [w32_i (x := 10 * N) (by omega) (by omega), w32_i (x := 10 * N + tb L r (p + j)) (by omega) (by omega), w32_i (by omega) (by omega)]
        omega
      rw [e]
      exact ih (j + 1) (by omega)
    · have e := ih (j + 1) (by omega)
      rw [show min (j + 1) 4 = min j 4 from by omega] at e
      exact e
theorem cut_146 {Q : Option mV → mG → Prop} {j : Nat} {nm : Int} (hz : H 64 4 ≤ 3000) (hp : p ≤ 3000) (hk : 0 ≤ H 64 10 ∧ H 64 10 ≤ 601) (hky : ∀ i, i < 20 → H 71 i = ky i) (h : W2 o_X12 M_X12_cut (inN [64, 67, 68, 69, 70]) (q + 10) Q 179 [some (mR 69), some (mI ((p : Nat) : Int)), none, some (mI ((j : Nat) : Int)), some (mJ nm), none, some (mI (wk nm)), none] [] H) : ∀ t i : Nat, i + t = 20 → W2 o_X12 M_X12_cut (inN [64, 67, 68, 69, 70]) (q + 10) Q 146 [some (mR 69), some (mI ((p : Nat) : Int)), none, some (mI ((j : Nat) : Int)), some (mJ nm), none, some (mI (fd (fun i s => if ky i = nm then 20 + (i : Int) else s) 1 i)), some (mI ((i : Nat) : Int))] [] H := by
  intro t
  induction t with
  | zero =>
    intro i hi
    refine cu_146 hz hp hk (by omega) (fun c => absurd c (by omega)) (fun c => absurd c (by omega)) (fun c => ?_)
    rw [c]; exact h
  | succ t ih =>
    intro i hi
    have e := ih (i + 1) (by omega)
    rw [fd_s] at e
    refine cu_146 hz hp hk (by omega) (fun c c2 => ?_) (fun c c2 => ?_) (fun c => absurd c (by omega))
    · rw [hky i c] at c2
      rw [if_pos c2] at e
      exact e
    · rw [hky i c] at c2
      rw [if_neg c2] at e
      exact e
/-- the loop over the text -/
theorem cut_7 {Q : Option mV → mG → Prop} (h4 : G 64 4 = L) (h66 : G 66 = r) (hL : 0 ≤ L ∧ L ≤ 3000) (hky : ∀ i, i < 20 → G 71 i = ky i) (hQ : ∀ K H, cuI (tb L r) G K H → (K = 601 ∨ (1 ≤ K ∧ K ≤ 601 ∧ tkK (tb L r) (tkQ (tb L r) (K - 1)) = 0)) → Q none H) : ∀ n p : Nat, 3000 - p ≤ n → (p : Int) ≤ L → ∀ K H, cuI (tb L r) G K H → K ≤ 601 → tkS (tb L r) p = tkQ (tb L r) K → W2 o_X12 M_X12_cut (inN [64, 67, 68, 69, 70]) (q + 10) Q 7 [some (mR 69), some (mI ((p : Nat) : Int)), none, none, none, none, none, none] [] H := by
  intro n
  induction n with
  | zero =>
    intro p hn hpL K H hI hK hS
    obtain ⟨a1, a2, a3, a4⟩ := id hI
    have e4 : H 64 4 = L := by rw [a2 4 (by decide)]; exact h4
    refine cu_7 (by omega) (by omega) (by omega) (fun c => hQ K H hI (Or.inl (by omega))) (fun c c2 => ?_) (fun c c2 => absurd c2 (by omega)) (fun c c2 => absurd c2 (by omega))
    have hb : tb L r p = -1 := by unfold tb; rw [if_neg (by omega)]
    have hq : tkQ (tb L r) K = p := by rw [← hS]; exact tkS_n (by rw [hb]; decide)
    have hkd : tkK (tb L r) (tkQ (tb L r) K) = 0 := by rw [hq]; unfold tkK; rw [if_pos hb]
    refine hQ (K + 1) _ (cuI_t hI hK hkd.symm (by rw [hq]; omega) (fun y => by omega) (fun y => by omega)) (Or.inr ⟨by omega, by omega, ?_⟩)
    exact hkd
  | succ n ih =>
    intro p hn hpL K H hI hK hS
    obtain ⟨a1, a2, a3, a4⟩ := id hI
    have e4 : H 64 4 = L := by rw [a2 4 (by decide)]; exact h4
    have e66 : H 66 = r := by rw [a1 66 (by decide)]; exact h66
    have eky : ∀ i, i < 20 → H 71 i = ky i := fun i hi => by rw [a1 71 (by decide)]; exact hky i hi
    have hat := at_r e4 e66 hL.2 p
    refine cu_7 (by omega) (by omega) (by omega) (fun c => hQ K H hI (Or.inl (by omega))) (fun c c2 => ?_) (fun c c2 c3 => ?_) (fun c c2 c3 => ?_)
    · have hb : tb L r p = -1 := by unfold tb; rw [if_neg (by omega)]
      have hq : tkQ (tb L r) K = p := by rw [← hS]; exact tkS_n (by rw [hb]; decide)
      have hkd : tkK (tb L r) (tkQ (tb L r) K) = 0 := by rw [hq]; unfold tkK; rw [if_pos hb]
      refine hQ (K + 1) _ (cuI_t hI hK hkd.symm (by rw [hq]; omega) (fun y => by omega) (fun y => by omega)) (Or.inr ⟨by omega, by omega, ?_⟩)
      exact hkd
    · rw [hat] at c3
      exact ih (p + 1) (by omega) (by omega) K H hI hK (by rw [← tkS_b (bz_B.mp c3)]; exact hS)
    · rw [hat] at c3 ⊢
      have nb : tcB (tb L r p) = false := by
        cases hb : tcB (tb L r p) with
        | false => rfl
        | true => exact absurd (bz_B.mpr hb) c3
      have hq : tkQ (tb L r) K = p := by rw [← hS]; exact tkS_n nb
      have hne : ¬ tb L r p = -1 := by
        have := and255 (r p)
        unfold tb; rw [if_pos (by omega)]; omega
      have hnx : tkQ (tb L r) (K + 1) = tkS (tb L r) (tkE (tb L r) p) := by rw [← hq]; rfl
      have inL : ∀ i, ¬ tb L r i = -1 → (i : Int) < L := fun i hi => (tb_in hi).1
      have hkd : tkK (tb L r) (tkQ (tb L r) K) = tkK (tb L r) p := by rw [hq]
      refine cu_73 (by omega) (by omega) (by omega) (fun cl => ?_) (fun cl => ?_)
      · have hl := bz_L.mp cl
        have hW := tkW_le (L := L) (r := r) (p := p)
        have hW1 := tkW_pos hl
        have hend := tcL_r (tkW_all (L := L) (r := r) (p := p) (i := tkW (tb L r) p - 1) (by omega))
        have hendL := inL (p + (tkW (tb L r) p - 1)) (by omega)
        have eE : tkE (tb L r) p = p + tkW (tb L r) p := by unfold tkE; rw [if_neg hne, if_pos hl]
        refine cut_85 e4 e66 hL.2 (by omega) (by omega) ?_ (tkW (tb L r) p) 0 (by omega)
        refine cu_124 (by omega) (by omega) (by omega) (fun c8 => ?_) (fun c8 => ?_)
        · have kk : tkK (tb L r) p = wk (tkN (tb L r) p) := by unfold tkK; rw [if_neg hne, if_pos hl, if_neg (by omega)]
          have en : nmF (fun i => tb L r (p + i) - 96) (min (tkW (tb L r) p) 8) = tkN (tb L r) p := by rw [show min (tkW (tb L r) p) 8 = tkW (tb L r) p from by omega]; rfl
          rw [en]
          refine cut_146 (by omega) (by omega) (by omega) eky ?_ 20 0 (by omega)
          refine cu_179 (by omega) (by omega) (by omega) (by omega) ?_
          refine ih _ (by omega) (by omega) (K + 1) _ (cuI_t hI hK (by rw [hkd, kk]) (by rw [hq]) (fun y => ?_) (fun _ => by rw [hq])) (by omega) (by rw [hnx, eE])
          rw [hkd, kk] at y
          rcases wk_at (x := tkN (tb L r) p) with ⟨e, _⟩ | ⟨i, _, _, e⟩ <;> omega
        · have kk : tkK (tb L r) p = 3 := by unfold tkK; rw [if_neg hne, if_pos hl, if_pos (by omega)]
          refine cu_179 (by omega) (by omega) (by omega) (by omega) ?_
          exact ih _ (by omega) (by omega) (K + 1) _ (cuI_t hI hK (by rw [hkd, kk]) (by rw [hq]) (fun y => by omega) (fun y => by omega)) (by omega) (by rw [hnx, eE])
      · have nl : ¬ tcL (tb L r p) = true := fun y => cl (bz_L.mpr y)
        refine cu_196 (by omega) (by omega) (by omega) (fun cd => ?_) (fun cd => ?_)
        · have hl := bz_D.mp cd
          have hW := tkI_le (L := L) (r := r) (p := p)
          have hW1 := tkI_pos hl
          have hend := tcD_r (tkI_all (L := L) (r := r) (p := p) (i := tkI (tb L r) p - 1) (by omega))
          have hendL := inL (p + (tkI (tb L r) p - 1)) (by omega)
          have eE : tkE (tb L r) p = p + tkI (tb L r) p := by unfold tkE; rw [if_neg hne, if_neg nl, if_pos hl]
          refine cut_208 e4 e66 hL.2 (by omega) (by omega) ?_ (tkI (tb L r) p) 0 (by omega)
          refine cu_250 (by omega) (by omega) (by omega) (by omega) (fun c8 => ?_) (fun c8 => ?_)
          · have kk : tkK (tb L r) p = 2 := by unfold tkK; rw [if_neg hne, if_neg nl, if_pos hl, if_neg (by omega)]
            have en : vlF (fun i => tb L r (p + i) - 48) (min (tkI (tb L r) p) 4) = tkV (tb L r) p := by rw [show min (tkI (tb L r) p) 4 = tkI (tb L r) p from by omega]; rfl
            rw [en]
            exact ih _ (by omega) (by omega) (K + 1) _ (cuI_t hI hK (by rw [hkd, kk]) (by rw [hq]) (fun _ => by rw [hq]) (fun y => by omega)) (by omega) (by rw [hnx, eE])
          · have kk : tkK (tb L r) p = 3 := by unfold tkK; rw [if_neg hne, if_neg nl, if_pos hl, if_pos (by omega)]
            exact ih _ (by omega) (by omega) (K + 1) _ (cuI_t hI hK (by rw [hkd, kk]) (by rw [hq]) (fun y => by omega) (fun y => by omega)) (by omega) (by rw [hnx, eE])
        · have nd : ¬ tcD (tb L r p) = true := fun y => cd (bz_D.mpr y)
          have ey : f_X12_at H (w32 (((p : Nat) : Int) + 1)) = bz (tb L r (p + 1)) := at_rw (i := p) (j := 1) e4 e66 hL.2 (by omega) (by omega)
          have ex : bz (tb L r p) = tb L r p := by unfold bz; rw [if_neg hne]
          rw [ex]
          refine cu_275 (by omega) (by omega) (by omega) c ey (fun sg hsg => ?_)
          rw [sign_eq, sgK_bz] at hsg
          have kk : tkK (tb L r) p = sgK (tb L r p) (tb L r (p + 1)) := by unfold tkK; rw [if_neg hne, if_neg nl, if_neg nd]
          have eE : tkE (tb L r) p = if 11 ≤ sgK (tb L r p) (tb L r (p + 1)) ∧ ¬ sgK (tb L r p) (tb L r (p + 1)) = 13 then p + 2 else p + 1 := by unfold tkE; rw [if_neg hne, if_neg nl, if_neg nd]
          have sr : ¬ sgK (tb L r p) (tb L r (p + 1)) = 2 ∧ ¬ sgK (tb L r p) (tb L r (p + 1)) = 1 ∧ (11 ≤ sgK (tb L r p) (tb L r (p + 1)) → ¬ sgK (tb L r p) (tb L r (p + 1)) = 13 → tb L r (p + 1) = 61) := by
            unfold sgK
            repeat' split
            all_goals omega
          have tok := cuI_t hI hK (kd := sgK (tb L r p) (tb L r (p + 1))) (y := ((p : Nat) : Int)) (z := 0) (w := 0) (by rw [hkd, kk]) (by rw [hq]) (fun y => by omega) (fun y => by omega)
          subst hsg
          by_cases z : 11 ≤ sgK (tb L r p) (tb L r (p + 1)) ∧ ¬ sgK (tb L r p) (tb L r (p + 1)) = 13
          · rw [if_pos z] at eE ⊢
            have h61 := inL (p + 1) (by rw [sr.2.2 z.1 z.2]; decide)
            rw [show w32 (((p : Nat) : Int) + ((2 : Int), e_X12_token H (sgK (tb L r p) (tb L r (p + 1))) ((p : Nat) : Int) 0 0).1) = ((p + 2 : Nat) : Int) from by show w32 (((p : Nat) : Int) + 2) = _; rw [w32_i (by omega) (by omega)]; omega]
            exact ih _ (by omega) (by omega) (K + 1) _ tok (by omega) (by rw [hnx, eE])
          · rw [if_neg z] at eE ⊢
            rw [show w32 (((p : Nat) : Int) + ((1 : Int), e_X12_token H (sgK (tb L r p) (tb L r (p + 1))) ((p : Nat) : Int) 0 0).1) = ((p + 1 : Nat) : Int) from by show w32 (((p : Nat) : Int) + 1) = _; rw [w32_i (by omega) (by omega)]; omega]
            exact ih _ (by omega) (by omega) (K + 1) _ tok (by omega) (by rw [hnx, eE])
/-- the text is cut -/
theorem sp_X12_cut {D : Nat → Bool} {Q : Option mV → mG → Prop} (h4 : G 64 4 = L) (h66 : G 66 = r) (hL : 0 ≤ L ∧ L ≤ 3000) (hky : ∀ i, i < 20 → G 71 i = ky i) (hD : ∀ k, D k = false → inN [64, 67, 68, 69, 70] k = false) (hQ : ∀ K H, cuI (tb L r) G K H → (K = 601 ∨ (1 ≤ K ∧ K ≤ 601 ∧ tkK (tb L r) (tkQ (tb L r) (K - 1)) = 0)) → Q none H) : P2 D (q + 10) M_X12_cut [mR 69] G Q := by
  refine cu_0 hD ?_
  exact cut_7 h4 h66 hL hky hQ 3000 0 (by omega) (by omega) 0 _ ⟨fun k hk => gs_ne (hk 64 (by decide)), fun j hj => gs_at_ne hj, gs_at _ _ _ _, fun i hi => absurd hi (Nat.not_lt_zero _)⟩ (by omega) rfl
end CUT
