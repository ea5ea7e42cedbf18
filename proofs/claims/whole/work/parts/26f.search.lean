/-! ===== printed by wip/whole/gen26f.py: the class's search, from the last board to the first ===== -/
/-- the numbers that the whole search rests on -/
def sF0 (c : Nat) (G0 : mG) (n : Nat) (lf0 : Nat → Int) : Prop :=
  n ≤ 9 ∧ G0 29 4 = (n : Int) ∧ G0 29 3 = ((c + 5 : Nat) : Int) ∧ (0 ≤ G0 c 12 ∧ G0 c 12 ≤ 40) ∧
  (∀ b, b < n → 0 ≤ G0 30 b ∧ G0 30 b ≤ 5) ∧
  (∀ b i, b < n → i < (G0 30 b).toNat → (-1 ≤ G0 31 (5 * b + i) ∧ G0 31 (5 * b + i) < 40) ∧ (-1 ≤ G0 32 (5 * b + i) ∧ G0 32 (5 * b + i) ≤ 160000)) ∧
  (∀ x, -1 ≤ f_X1_ownerOf c G0 x ∧ f_X1_ownerOf c G0 x < 8) ∧
  (∀ b w, b < n → w < 40 → 0 ≤ tkH G0 (b + 1) w ∧ tkH G0 (b + 1) w ≤ tkH G0 b w ∧ tkH G0 b w ≤ 9) ∧
  (∀ b i, b < n → i < (G0 30 b).toNat → 0 ≤ G0 31 (5 * b + i) → tkH G0 (b + 1) (G0 31 (5 * b + i)).toNat + 1 ≤ tkH G0 b (G0 31 (5 * b + i)).toNat) ∧
  (∀ b w, b < n → (G0 c 12).toNat ≤ w → w < 40 → tkH G0 b w = 0) ∧
  (∀ b, b < n → sm (tkH G0) b (G0 c 12).toNat ≤ 36) ∧
  (∀ w, w < 40 → 0 ≤ lf0 w ∧ lf0 w ≤ 9999) ∧
  (∀ b, b < n → ∃ i, i < (G0 30 b).toNat ∧ G0 31 (5 * b + i) = -1)
def sC (G H : mG) : Prop := (∀ k, (∀ a ∈ ([29, 33, 35, 36, 37, 38, 39] : List Nat), k ≠ a) → H k = G k) ∧ ∀ j, j ≠ 15 → H 29 j = G 29 j
theorem sC.k {G H : mG} (h : sC G H) (k : Nat) (hk : [29, 33, 35, 36, 37, 38, 39].all (fun a => !(Nat.beq a k)) = true) : H k = G k :=
  h.1 k (fun a ha he => by
    have := List.all_eq_true.mp hk a ha
    rw [he] at this
    simp [Nat.beq_refl] at this)
theorem sC.c {G H : mG} {c i : Nat} (hc : c = 40 ∨ c = 52) (hi : i < 12) (h : sC G H) : H (c + i) = G (c + i) := by
  refine h.1 _ (fun a ha => ?_)
  simp only [List.mem_cons, List.not_mem_nil, or_false] at ha
  omega
theorem cP_to {c : Nat} {G H : mG} (hc : c = 40 ∨ c = 52) (h : sC G H) : cP c H = cP c G := by
  have e0 : H c = G c := sC.c (i := 0) hc (by omega) h
  have e3 : H (c + 3) = G (c + 3) := sC.c hc (by omega) h
  have e5 : H (c + 5) = G (c + 5) := sC.c hc (by omega) h
  unfold cP
  rw [h.k 30 (by decide), h.k 31 (by decide), h.k 32 (by decide)]
  have q1 : (fun w => f_X1_ownerOf c H w) = (fun w => f_X1_ownerOf c G w) := by funext w; exact f_own_to e0 e5 w
  have q2 : (fun b : Nat => decide (f_X0_isBesideOneAhead H ((b : Nat) : Int) = 1)) = (fun b : Nat => decide (f_X0_isBesideOneAhead G ((b : Nat) : Int) = 1)) := by funext b; rw [f_bes_to (h.k 1 (by decide)) (h.k 6 (by decide))]
  have q3 : (fun x y => decide (f_X1_areApart c H x y = 1)) = (fun x y => decide (f_X1_areApart c G x y = 1)) := by funext x y; rw [f_apt_to e0 e3]
  rw [q1, q2, q3]
theorem sF0_to {c : Nat} {G H : mG} {n : Nat} {lf0 : Nat → Int} (hc : c = 40 ∨ c = 52) (h : sC G H) (hF : sF0 c G n lf0) : sF0 c H n lf0 := by
  have e0 : H c = G c := sC.c (i := 0) hc (by omega) h
  have e5 : H (c + 5) = G (c + 5) := sC.c hc (by omega) h
  obtain ⟨f1, f2, f3, f4, f5, f6, f7, f8, f9, f10, f11, f12, f13⟩ := hF
  have et : tkH H = tkH G := by unfold tkH; rw [h.k 34 (by decide)]
  refine ⟨f1, by rw [h.2 4 (by decide)]; exact f2, by rw [h.2 3 (by decide)]; exact f3, by rw [e0]; exact f4, by rw [h.k 30 (by decide)]; exact f5, by rw [h.k 30 (by decide), h.k 31 (by decide), h.k 32 (by decide)]; exact f6, fun x => by rw [f_own_to e0 e5]; exact f7 x, by rw [et]; exact f8, by rw [h.k 30 (by decide), h.k 31 (by decide), et]; exact f9, by rw [e0, et]; exact f10, by rw [e0, et]; exact f11, f12, by rw [h.k 30 (by decide), h.k 31 (by decide)]; exact f13⟩
theorem fa_own_none (c : Nat) (G : mG) : f_X1_ownerOf c G (-1) = -1 := by
  have := fa_X1_hasClause c G (-1)
  unfold f_X1_ownerOf
  rw [if_pos (by omega)]
theorem cP_none (c : Nat) (G : mG) (b : Nat) (x : Int) : (sbe (cP c G) b && sap (cP c G) x (sow (cP c G) (-1))) = false := by
  have e : sow (cP c G) (-1) = -1 := fa_own_none c G
  rw [e]
  have : sap (cP c G) x (-1) = false := by
    show decide (f_X1_areApart c G x (-1) = 1) = false
    refine decide_eq_false ?_
    have h := fa_X1_hasCampaign c G (-1)
    unfold f_X1_areApart
    by_cases hx : f_X1_hasCampaign c G x = 0
    · rw [if_pos hx]; decide
    · rw [if_neg hx, if_pos (by omega)]; decide
  rw [this]
  simp
/-- behind j boards from the last on -/
def sL (c : Nat) (G : mG) (n j : Nat) (Hj : mG) : Prop := sC G Hj ∧ Hj 33 = G 33 ∧ (∀ b, n - j ≤ b → b ≤ n → dom (cP c G) (n - b) b (-1) (G 33) (Hj 37 b) ∧ -10 ≤ Hj 37 b ∧ Hj 37 b ≤ 2000000) ∧ (j = n → 0 < n → ∃ pk bst, Hj 29 15 = (proc (cP c G) n 0 0 (-1) (G 33) pk (-1000000, bst)).1 ∧ ∀ i, i < 9 → Hj 36 i = (proc (cP c G) n 0 0 (-1) (G 33) pk (-1000000, bst)).2 i)
theorem sL_0 {c : Nat} {G : mG} {n : Nat} (hF : sF0 c G n (G 33)) : sL c G n 0 (e_fill_37 G 0) := by
  refine ⟨⟨fun k hk => fr_fill_37 (fun a ha => hk a (by simp only [List.mem_cons, List.not_mem_nil, or_false] at ha ⊢; omega)), fun j _ => by rw [fr_fill_37 (by decide)]⟩, fr_fill_37 (by decide), fun b h1 h2 => ?_, fun h1 h2 => absurd h1 (by omega)⟩
  have hb : b = n := by omega
  have e : e_fill_37 G 0 37 b = 0 := by
    rw [e_fill_37_eq]
    exact gf_at (by have := hF.1; omega)
  rw [e, hb, Nat.sub_self]
  refine ⟨fun v hv => ?_, by omega, by omega⟩
  have hv : v = 0 := hv
  omega
section SLS
variable {c : Nat} {G : mG} {n j b : Nat} {Hj : mG}
theorem sL_sC (hI : sL c G n j Hj) : sC G (gs (e_fill_38 Hj (-1)) 29 15 (-1000000)) := by
  refine ⟨fun k hk => ?_, fun i hi => ?_⟩
  · rw [gs_ne (hk 29 (by decide)), fr_fill_38 (fun a ha => hk a (by simp only [List.mem_cons, List.not_mem_nil, or_false] at ha ⊢; omega))]
    exact hI.1.1 k hk
  · rw [gs_at_ne hi, fr_fill_38 (by decide)]
    exact hI.1.2 i hi
theorem sL_33 (hI : sL c G n j Hj) : (gs (e_fill_38 Hj (-1)) 29 15 (-1000000)) 33 = G 33 := by
  rw [gs_ne (by decide), fr_fill_38 (by decide)]
  exact hI.2.1
theorem sL_sF (hc : c = 40 ∨ c = 52) (hF : sF0 c G n (G 33)) (hI : sL c G n j Hj) (hb : b + (j + 1) = n) : sF c (gs (e_fill_38 Hj (-1)) 29 15 (-1000000)) n (G 33) b := by
  have hS := sL_sC hI
  obtain ⟨f1, f2, f3, f4, f5, f6, f7, f8, f9, f10, f11, f12, f13⟩ := sF0_to hc hS hF
  refine ⟨f1, f2, f3, f4, f5, f6, f7, f8, f9, f10, f11, f12, fun b' h1 h2 => ?_⟩
  rw [cP_to hc hS, gs_ne (by decide), fr_fill_38 (by decide)]
  exact hI.2.2.1 b' (by omega) h2
theorem sL_lf (hF : sF0 c G n (G 33)) (hI : sL c G n j Hj) : ∀ w, w < 40 → 0 ≤ (gs (e_fill_38 Hj (-1)) 29 15 (-1000000)) 33 w ∧ (gs (e_fill_38 Hj (-1)) 29 15 (-1000000)) 33 w ≤ G 33 w := by
  intro w hw
  rw [sL_33 hI]
  exact ⟨(hF.2.2.2.2.2.2.2.2.2.2.2.1 w hw).1, Int.le_refl _⟩
theorem sL_SI (hc : c = 40 ∨ c = 52) (hF : sF0 c G n (G 33)) (hI : sL c G n j Hj) {b : Nat} : SI c (gs (e_fill_38 Hj (-1)) 29 15 (-1000000)) n b (gs (e_fill_38 Hj (-1)) 29 15 (-1000000)) := by
  intro r hr b' h1 h2 ah lf hv hk
  exfalso
  have e : (gs (e_fill_38 Hj (-1)) 29 15 (-1000000)) 38 r = -1 := by
    rw [gs_ne (by decide), e_fill_38_eq]
    exact gf_at hr
  rw [e] at hk
  unfold kv at hk
  have e0 : (gs (e_fill_38 Hj (-1)) 29 15 (-1000000)) c = G c := sC.c (i := 0) hc (by omega) (sL_sC hI)
  have h12 := hF.2.2.2.1
  have hb := (kS_bd (tk := tkH (gs (e_fill_38 Hj (-1)) 29 15 (-1000000))) (lf := lf) (b := b') (a := bif sbe (cP c (gs (e_fill_38 Hj (-1)) 29 15 (-1000000))) b' then ah + 1 else 0) (n := ((gs (e_fill_38 Hj (-1)) 29 15 (-1000000)) c 12).toNat) (by cases sbe (cP c (gs (e_fill_38 Hj (-1)) 29 15 (-1000000))) b' <;> simp <;> have := hv.1 <;> omega) (fun w hw => hv.2 w (by rw [e0] at hw; omega))).1
  omega
theorem sL_s (hc : c = 40 ∨ c = 52) (hF : sF0 c G n (G 33)) (hI : sL c G n j Hj) (hb : b + (j + 1) = n) {H3 : mG} (hp : fPost c (gs (e_fill_38 Hj (-1)) 29 15 (-1000000)) n (j + 1) b 0 (-1) (gs (e_fill_38 Hj (-1)) 29 15 (-1000000)) H3) : sL c G n (j + 1) (gs H3 37 b (H3 29 15)) := by
  have hS := sL_sC hI
  obtain ⟨p1, p2, p3, p4, p5, p6, p7⟩ := hp
  rw [cP_to hc hS, sL_33 hI, gs_at] at p4 p5
  rw [sL_33 hI] at p2
  have p0 := hF
  obtain ⟨f1, f2, f3, f4, f5, f6, f7, f8, f9, f10, f11, f12, f13⟩ := p0
  have hge := proc_ge (P := cP c G) (m := j + 1) (b := b) (g := 0) (ah := -1) (lf := G 33) (pk := (gs (e_fill_38 Hj (-1)) 29 15 (-1000000)) 35) (A := (-1000000, (gs (e_fill_38 Hj (-1)) 29 15 (-1000000)) 36))
  have hval := proc_val (P := cP c G) (m := j + 1) (b := b) (g := 0) (ah := -1) (lf := G 33) (pk := (gs (e_fill_38 Hj (-1)) 29 15 (-1000000)) 35) (A := (-1000000, (gs (e_fill_38 Hj (-1)) 29 15 (-1000000)) 36))
  rw [← p4] at hge hval
  obtain ⟨v0, hv0⟩ := rc_ex (P := cP c G) (n := n) f13 (fun b x => cP_none c G b x) (m := j + 1) (b := b) hb (ah := -1) (lf := G 33)
  have hbd : ∀ v, rc (cP c G) (j + 1) b (-1) (G 33) v → -((j + 1 : Nat) : Int) ≤ v ∧ v ≤ 160000 * ((j + 1 : Nat) : Int) := fun v hv => rc_bd (P := cP c G) (n := n) (fun b i hb hi => (f6 b i hb hi).2) hb hv
  have h0 := hbd v0 hv0
  have h1 := hge.2 v0 hv0
  have hm1 : -10 ≤ H3 29 15 := by omega
  have hm2 : H3 29 15 ≤ 2000000 := by
    rcases hval with h | ⟨v, h2, h3⟩
    · have h : H3 29 15 = -1000000 := h
      omega
    · have := hbd v h2
      omega
  refine ⟨⟨fun k hk => ?_, fun i hi => ?_⟩, by rw [gs_ne (by decide)]; exact p2, fun b' h2 h3 => ?_, fun hj hn => ?_⟩
  · rw [gs_ne (hk 37 (by decide)), p1.1 k (fun a ha => hk a (by simp only [List.mem_cons, List.not_mem_nil, or_false] at ha ⊢; omega))]
    exact hS.1 k hk
  · rw [gs_ne (by decide), p1.2 i hi]
    exact hS.2 i hi
  · by_cases hbb : b' = b
    · subst hbb
      rw [gs_at, show n - b' = j + 1 by omega]
      exact ⟨dom_le hge.2 (by omega), hm1, hm2⟩
    · rw [gs_at_ne hbb, p1.1 37 (by decide), gs_ne (by decide), fr_fill_38 (by decide)]
      exact hI.2.2.1 b' (by omega) h3
  · have hb0 : b = 0 := by omega
    subst hb0
    rw [hj] at p4 p5
    exact ⟨_, _, by rw [gs_ne (by decide)]; exact p4, fun i hi => by rw [gs_ne (by decide)]; exact p5 i hi⟩
end SLS
set_option maxHeartbeats 8000000 in
theorem sp_X8_search {D : Nat → Bool} {q c : Nat} (hc : c = 40 ∨ c = 52) {G : mG} {n : Nat} {Q : Option mV → mG → Prop} (hF : sF0 c G n (G 33)) (hD : ∀ k, D k = false → inN [29, 33, 35, 36, 37, 38, 39] k = false) (hQ : ∀ G', sL c G n n G' → Q none G') : P2 D (q + 20) M_X8_search [mR 34] G Q := by
  rcases hc with rfl | rfl
  · skip
    have hloop : ∀ t j, j + t = n → ∀ Hj, sL 40 G n j Hj → W2 o_X8 M_X8_search (inN [29, 33, 35, 36, 37, 38, 39]) (q + 20) Q 20 [some (mR 34), some (mI (((n : Nat) : Int) - 1 - ((j : Nat) : Int)))] [] Hj := by
      intro t
      induction t with
      | zero =>
        intro j hj Hj hI
        refine w2_vc [20] 400 oo_X8 q_X8_search ?_
        refine ⟨fun (c1 : (((n : Nat) : Int) - 1 - ((j : Nat) : Int)) < 0) => ?_, fun (c1 : 0 ≤ (((n : Nat) : Int) - 1 - ((j : Nat) : Int))) => ?_⟩
        · skip
          exact hQ _ (by rw [show n = j from by omega] at hI ⊢; exact hI)
        · skip
          exfalso; first | omega | (rw [w32_i (by omega) (by omega)] at c1; omega) | (simp (disch := omega) only [w32_i] at *; omega)
      | succ t iht =>
        intro j hj Hj hI
        obtain ⟨b, hbj⟩ : ∃ b : Nat, n = b + (j + 1) := ⟨n - (j + 1), by omega⟩
        have hbe : ((n : Nat) : Int) - 1 - ((j : Nat) : Int) = ((b : Nat) : Int) := by omega
        have hn9 := hF.1
        rw [hbe]
        refine w2_vc [20, 40, 47, 57] 400 oo_X8 q_X8_search ?_
        refine ⟨fun (c1 : ((b : Nat) : Int) < 0) => ?_, fun (c1 : 0 ≤ ((b : Nat) : Int)) => ?_⟩
        · skip
          exfalso; first | omega | (rw [w32_i (by omega) (by omega)] at c1; omega) | (simp (disch := omega) only [w32_i] at *; omega)
        · skip
          refine sp_fill_38  (insub (by decide)) ?_
          refine (show W2 o_X8 M_X8_search (inN [29, 33, 35, 36, 37, 38, 39]) (q + 20) Q 40 [some (mR 34), some (mI ((b : Nat) : Int))] [] (gs (e_fill_38 Hj (-1)) 29 15 (-1000000)) from ?_)
          refine w2_vc [20, 40, 47, 57] 400 oo_X8 q_X8_search ?_
          refine sp_X8_fill (c := 40) (by decide) (sL_sF (by decide) hF hI hbj.symm) (j + 1) b hbj.symm (Nat.le_refl _) (q + 19) (by have := hF.1; omega) _ (insub (by decide)) 0 (-1) _ _ ⟨fun _ _ => rfl, fun _ _ => rfl⟩ (sL_lf hF hI) (by omega) (by omega) (sL_SI (by decide) hF hI) (fun H3 hp3 => ?_)
          refine (show W2 o_X8 M_X8_search (inN [29, 33, 35, 36, 37, 38, 39]) (q + 20) Q 47 [some (mR 34), some (mI ((b : Nat) : Int))] [] H3 from ?_)
          refine w2_vc [20, 40, 47, 57] 400 oo_X8 q_X8_search ?_
          refine ⟨(show 0 ≤ ((b : Nat) : Int) ∧ ((b : Nat) : Int) < ((10 : Nat) : Int) from by first | omega | (simp (disch := omega) only [w32_i]; omega)), ?_⟩
          refine (show W2 o_X8 M_X8_search (inN [29, 33, 35, 36, 37, 38, 39]) (q + 20) Q 57 [some (mR 34), some (mI ((b : Nat) : Int))] [] (gs H3 37 (Int.toNat ((b : Nat) : Int)) (H3 29 15)) from ?_)
          refine w2_vc [20, 40, 47, 57] 400 oo_X8 q_X8_search ?_
          refine (show W2 o_X8 M_X8_search (inN [29, 33, 35, 36, 37, 38, 39]) (q + 20) Q 20 [some (mR 34), some (mI (w32 (((b : Nat) : Int) + (-1))))] [] (gs H3 37 (Int.toNat ((b : Nat) : Int)) (H3 29 15)) from ?_)
          rw [show w32 (((b : Nat) : Int) + (-1)) = ((n : Nat) : Int) - 1 - ((j + 1 : Nat) : Int) from by (rw [w32_i (by have := hF.1; omega) (by have := hF.1; omega)]; omega)]
          exact iht (j + 1) (by omega) _ (by rw [st_nat]; exact sL_s (by decide) hF hI hbj.symm hp3)
    refine MP.to (D2 := inN [29, 33, 35, 36, 37, 38, 39]) (Q2 := Q) ?_ hD (fun v G' q _ => q)
    refine p2_vc [20] 400 oo_X8 q_X8_search (by decide) rfl (Nat.le_of_ble_eq_true rfl) ?_
    refine sp_fill_37  (insub (by decide)) ?_
    refine (show W2 o_X8 M_X8_search (inN [29, 33, 35, 36, 37, 38, 39]) (q + 20) Q 20 [some (mR 34), some (mI (w32 ((mMin ((e_fill_37 G 0) 29 4) 9) - 1)))] [] (e_fill_37 G 0) from ?_)
    rw [show (w32 ((mMin ((e_fill_37 G 0) 29 4) 9) - 1)) = ((n : Nat) : Int) - 1 - ((0 : Nat) : Int) from by (rw [fr_fill_37 (by decide), hF.2.1, mMin_l (by have := hF.1; omega), w32_i (by have := hF.1; omega) (by have := hF.1; omega)]; omega)]
    exact hloop n 0 (by omega) _ (sL_0 hF)
  · skip
    have hloop : ∀ t j, j + t = n → ∀ Hj, sL 52 G n j Hj → W2 o_X8 M_X8_search (inN [29, 33, 35, 36, 37, 38, 39]) (q + 20) Q 20 [some (mR 34), some (mI (((n : Nat) : Int) - 1 - ((j : Nat) : Int)))] [] Hj := by
      intro t
      induction t with
      | zero =>
        intro j hj Hj hI
        refine w2_vc [20] 400 oo_X8 q_X8_search ?_
        refine ⟨fun (c1 : (((n : Nat) : Int) - 1 - ((j : Nat) : Int)) < 0) => ?_, fun (c1 : 0 ≤ (((n : Nat) : Int) - 1 - ((j : Nat) : Int))) => ?_⟩
        · skip
          exact hQ _ (by rw [show n = j from by omega] at hI ⊢; exact hI)
        · skip
          exfalso; first | omega | (rw [w32_i (by omega) (by omega)] at c1; omega) | (simp (disch := omega) only [w32_i] at *; omega)
      | succ t iht =>
        intro j hj Hj hI
        obtain ⟨b, hbj⟩ : ∃ b : Nat, n = b + (j + 1) := ⟨n - (j + 1), by omega⟩
        have hbe : ((n : Nat) : Int) - 1 - ((j : Nat) : Int) = ((b : Nat) : Int) := by omega
        have hn9 := hF.1
        rw [hbe]
        refine w2_vc [20, 40, 47, 57] 400 oo_X8 q_X8_search ?_
        refine ⟨fun (c1 : ((b : Nat) : Int) < 0) => ?_, fun (c1 : 0 ≤ ((b : Nat) : Int)) => ?_⟩
        · skip
          exfalso; first | omega | (rw [w32_i (by omega) (by omega)] at c1; omega) | (simp (disch := omega) only [w32_i] at *; omega)
        · skip
          refine sp_fill_38  (insub (by decide)) ?_
          refine (show W2 o_X8 M_X8_search (inN [29, 33, 35, 36, 37, 38, 39]) (q + 20) Q 40 [some (mR 34), some (mI ((b : Nat) : Int))] [] (gs (e_fill_38 Hj (-1)) 29 15 (-1000000)) from ?_)
          refine w2_vc [20, 40, 47, 57] 400 oo_X8 q_X8_search ?_
          refine sp_X8_fill (c := 52) (by decide) (sL_sF (by decide) hF hI hbj.symm) (j + 1) b hbj.symm (Nat.le_refl _) (q + 19) (by have := hF.1; omega) _ (insub (by decide)) 0 (-1) _ _ ⟨fun _ _ => rfl, fun _ _ => rfl⟩ (sL_lf hF hI) (by omega) (by omega) (sL_SI (by decide) hF hI) (fun H3 hp3 => ?_)
          refine (show W2 o_X8 M_X8_search (inN [29, 33, 35, 36, 37, 38, 39]) (q + 20) Q 47 [some (mR 34), some (mI ((b : Nat) : Int))] [] H3 from ?_)
          refine w2_vc [20, 40, 47, 57] 400 oo_X8 q_X8_search ?_
          refine ⟨(show 0 ≤ ((b : Nat) : Int) ∧ ((b : Nat) : Int) < ((10 : Nat) : Int) from by first | omega | (simp (disch := omega) only [w32_i]; omega)), ?_⟩
          refine (show W2 o_X8 M_X8_search (inN [29, 33, 35, 36, 37, 38, 39]) (q + 20) Q 57 [some (mR 34), some (mI ((b : Nat) : Int))] [] (gs H3 37 (Int.toNat ((b : Nat) : Int)) (H3 29 15)) from ?_)
          refine w2_vc [20, 40, 47, 57] 400 oo_X8 q_X8_search ?_
          refine (show W2 o_X8 M_X8_search (inN [29, 33, 35, 36, 37, 38, 39]) (q + 20) Q 20 [some (mR 34), some (mI (w32 (((b : Nat) : Int) + (-1))))] [] (gs H3 37 (Int.toNat ((b : Nat) : Int)) (H3 29 15)) from ?_)
          rw [show w32 (((b : Nat) : Int) + (-1)) = ((n : Nat) : Int) - 1 - ((j + 1 : Nat) : Int) from by (rw [w32_i (by have := hF.1; omega) (by have := hF.1; omega)]; omega)]
          exact iht (j + 1) (by omega) _ (by rw [st_nat]; exact sL_s (by decide) hF hI hbj.symm hp3)
    refine MP.to (D2 := inN [29, 33, 35, 36, 37, 38, 39]) (Q2 := Q) ?_ hD (fun v G' q _ => q)
    refine p2_vc [20] 400 oo_X8 q_X8_search (by decide) rfl (Nat.le_of_ble_eq_true rfl) ?_
    refine sp_fill_37  (insub (by decide)) ?_
    refine (show W2 o_X8 M_X8_search (inN [29, 33, 35, 36, 37, 38, 39]) (q + 20) Q 20 [some (mR 34), some (mI (w32 ((mMin ((e_fill_37 G 0) 29 4) 9) - 1)))] [] (e_fill_37 G 0) from ?_)
    rw [show (w32 ((mMin ((e_fill_37 G 0) 29 4) 9) - 1)) = ((n : Nat) : Int) - 1 - ((0 : Nat) : Int) from by (rw [fr_fill_37 (by decide), hF.2.1, mMin_l (by have := hF.1; omega), w32_i (by have := hF.1; omega) (by have := hF.1; omega)]; omega)]
    exact hloop n 0 (by omega) _ (sL_0 hF)
