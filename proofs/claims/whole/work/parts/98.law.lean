/-! ===== printed by wip/whole/gen98.py: the law, case by case ===== -/
abbrev WLw (Q : Option mV → mG → Prop) (pc : Nat) (L : List (Option mV)) (S : List mV) (G : mG) : Prop := WP o_L M_L_law tD 61 119 29112 true 119 Q 119 119 29112 pc L S G
theorem wl_vc {Q : Option mV → mG → Prop} {pc : Nat} {L : List (Option mV)} {S : List mV} {G : mG} (cuts : List Nat) (f : Nat) (h : vc o_L M_L_law tD 60 119 29112 true false 119 Q k_L_law cuts f false 119 119 29112 pc L S G) : WLw Q pc L S G :=
  vc_sound oo_L (fun h => by cases h) q_L_law f false 119 119 29112 pc _ _ _ h
/-- a method leaves the script as it is -/
theorem MP.sc {D : Nat → Bool} {d mc ms : Nat} {ph : Bool} {n n' : Nat} {M : mM} {as : List mV} {G : mG} {Q : Option mV → mG → Prop} (h : MP D d mc ms ph n n' M as G Q) : MP D d mc ms ph n n' M as G (fun v G' => Q v G' ∧ mFr D G G' ∧ G' 1001 0 = G 1001 0 ∧ ∀ j : Nat, (j : Int) < G 1001 0 → G' 1000 j = G 1000 j) := by
  intro l X p e ha hc hk s m args below hf happ hP hK
  obtain ⟨j, oc, h1, h2, h3, ⟨v, G', e1, e2, e3, e4, e5, e6⟩, h5⟩ := h l X p e ha hc hk s m args below hf happ hP hK
  have a := hP.2.1.2.2.2.2
  have b := e5.2.2.2.2
  refine ⟨j, oc, h1, h2, h3, ⟨v, G', e1, ⟨e2, e4, b.1.trans a.1.symm, fun i hi => ?_⟩, e3, e4, e5, e6⟩, h5⟩
  have hi2 : i < X.2.2.2.1.2.1 := by have := a.1; omega
  exact (b.2 i hi2).trans (a.2 i hi2).symm
/-- what the law keeps between two calls -/
def LV (G0 G : mG) : Prop := (∃ c, Cpl c G) ∧ (∀ i, i < 20 → G 71 i = ky i) ∧ G 1001 0 = G0 1001 0 ∧ ∀ j : Nat, (j : Int) < G0 1001 0 → G 1000 j = G0 1000 j
/-- the class's answer -/
theorem bth_1 {M1 M2 : mM} {as : List mV} {G : mG} {K : Option mV → mG → Prop} (h : bth 60 M1 M2 as G) (hk : ∀ (a : Int) (G1 : mG), P2 nk71 60 M2 (mR 69 :: as) G1 (fun v2 G2 => v2 = some (mI a) ∧ ∃ c, Cpl c G2) → G1 71 = G 71 → G1 1001 0 = G 1001 0 → (∀ j : Nat, (j : Int) < G 1001 0 → G1 1000 j = G 1000 j) → K (some (mI a)) G1) : MP tD 60 0 0 true 119 119 M1 (mR 5 :: as) G K := by
  refine MP.to (D2 := nk71) (MP.sc h) (fun _ q => by cases q) (fun v G1 q _ => ?_)
  obtain ⟨⟨a, e, h2⟩, f1, s1, s2⟩ := q
  subst e
  exact hk a G1 h2 (f1 71 (by decide)) s1 s2
/-- the reference's answer, the same -/
theorem bth_2 {M2 : mM} {as : List mV} {G1 : mG} {a : Int} {K : Option mV → mG → Prop} (h : P2 nk71 60 M2 (mR 69 :: as) G1 (fun v2 G2 => v2 = some (mI a) ∧ ∃ c, Cpl c G2)) (hk : ∀ G2 : mG, (∃ c, Cpl c G2) → G2 71 = G1 71 → G2 1001 0 = G1 1001 0 → (∀ j : Nat, (j : Int) < G1 1001 0 → G2 1000 j = G1 1000 j) → K (some (mI a)) G2) : MP tD 60 0 0 true 119 119 M2 (mR 69 :: as) G1 K := by
  refine MP.to (D2 := nk71) (MP.sc h) (fun _ q => by cases q) (fun v G2 q _ => ?_)
  obtain ⟨⟨e, h2⟩, f1, s1, s2⟩ := q
  subst e
  exact hk G2 h2 (f1 71 (by decide)) s1 s2
theorem LV_tr {G0 G1 G2 : mG} (h1 : ∀ i, i < 20 → G0 71 i = ky i) (a1 : G1 71 = G0 71) (a2 : G1 1001 0 = G0 1001 0) (a3 : ∀ j : Nat, (j : Int) < G0 1001 0 → G1 1000 j = G0 1000 j) (b0 : ∃ c, Cpl c G2) (b1 : G2 71 = G1 71) (b2 : G2 1001 0 = G1 1001 0) (b3 : ∀ j : Nat, (j : Int) < G1 1001 0 → G2 1000 j = G1 1000 j) : LV G0 G2 :=
  ⟨b0, fun i hi => by rw [b1, a1]; exact h1 i hi, by rw [b2, a2], fun j hj => by rw [b3 j (by rw [a2]; exact hj), a3 j hj]⟩
theorem ix_n {j k : Nat} (hj : j < 100000) (hk : k < 10) : w32 (((j : Nat) : Int) + ((k : Nat) : Int)) = ((j + k : Nat) : Int) := by rw [w32_i (by omega) (by omega)]; omega
set_option maxHeartbeats 8000000 in
theorem lw_0 {Q : Option mV → mG → Prop} {G : mG} {c j : Nat} (hC : Cpl c G) (hky : ∀ i, i < 20 → G 71 i = ky i) (hj : ((j + 5 : Nat) : Int) < G 1001 0) (hl : G 1001 0 ≤ 3072) (h1k : ∀ i : Nat, (i : Int) < G 1001 0 → G 1000 i < 2147483648) (hN : ∀ G2, LV G G2 → WLw Q 820 [some (mR 1), some (mR 5), some (mR 69), some (mI ((j : Nat) : Int))] [] G2) : WLw Q 120 [some (mR 1), some (mR 5), some (mR 69), some (mI ((j : Nat) : Int))] [] G := by
  have e1 : w32 (((j : Nat) : Int) + 1) = ((j + 1 : Nat) : Int) := ix_n (k := 1) (by omega) (by decide)
  have e2 : w32 (((j : Nat) : Int) + 2) = ((j + 2 : Nat) : Int) := ix_n (k := 2) (by omega) (by decide)
  have e3 : w32 (((j : Nat) : Int) + 3) = ((j + 3 : Nat) : Int) := ix_n (k := 3) (by omega) (by decide)
  have e4 : w32 (((j : Nat) : Int) + 4) = ((j + 4 : Nat) : Int) := ix_n (k := 4) (by omega) (by decide)
  have e5 : w32 (((j : Nat) : Int) + 5) = ((j + 5 : Nat) : Int) := ix_n (k := 5) (by omega) (by decide)
  refine wl_vc [146, 149, 175, 178, 820] 400 ?_
  refine ⟨(show 0 ≤ (w32 (((j : Nat) : Int) + 1)) ∧ (w32 (((j : Nat) : Int) + 1)) < G 1001 0 from by rw [e1]; omega), ?_⟩
  refine ⟨(show 0 ≤ (w32 (((j : Nat) : Int) + 2)) ∧ (w32 (((j : Nat) : Int) + 2)) < G 1001 0 from by rw [e2]; omega), ?_⟩
  refine ⟨(show 0 ≤ (w32 (((j : Nat) : Int) + 3)) ∧ (w32 (((j : Nat) : Int) + 3)) < G 1001 0 from by rw [e3]; omega), ?_⟩
  refine ⟨(show 0 ≤ (w32 (((j : Nat) : Int) + 4)) ∧ (w32 (((j : Nat) : Int) + 4)) < G 1001 0 from by rw [e4]; omega), ?_⟩
  refine ⟨(show 0 ≤ (w32 (((j : Nat) : Int) + 5)) ∧ (w32 (((j : Nat) : Int) + 5)) < G 1001 0 from by rw [e5]; omega), ?_⟩
  refine (show WLw Q 146 [some (mR 1), some (mR 5), some (mR 69), some (mI ((j : Nat) : Int))] [mI (G 1000 (Int.toNat (w32 (((j : Nat) : Int) + 5)))), mI (G 1000 (Int.toNat (w32 (((j : Nat) : Int) + 4)))), mI (G 1000 (Int.toNat (w32 (((j : Nat) : Int) + 3)))), mI (G 1000 (Int.toNat (w32 (((j : Nat) : Int) + 2)))), mI (G 1000 (Int.toNat (w32 (((j : Nat) : Int) + 1)))), mR 5] G from ?_)
  rw [e1, e2, e3, e4, e5, st_nat, st_nat, st_nat, st_nat, st_nat]
  refine (show WLw Q 146 [some (mR 1), some (mR 5), some (mR 69), some (mI ((j : Nat) : Int))] [mI (G 1000 (j + 5)), mI (G 1000 (j + 4)), mI (G 1000 (j + 3)), mI (G 1000 (j + 2)), mI (G 1000 (j + 1)), mR 5] G from ?_)
  refine wl_vc [146, 149, 175, 178, 820] 400 ?_
  refine bth_1 (pm_feed hC (G 1000 (j + 1)) (G 1000 (j + 2)) (G 1000 (j + 3)) (G 1000 (j + 4)) (G 1000 (j + 5))) (fun a G1 h2 s0 s1 s2 => ?_)
  refine (show WLw Q 149 [some (mR 1), some (mR 5), some (mR 69), some (mI ((j : Nat) : Int))] [mI a] G1 from ?_)
  refine wl_vc [146, 149, 175, 178, 820] 400 ?_
  refine ⟨(show 0 ≤ (w32 (((j : Nat) : Int) + 1)) ∧ (w32 (((j : Nat) : Int) + 1)) < G1 1001 0 from by rw [e1, s1]; omega), ?_⟩
  refine ⟨(show 0 ≤ (w32 (((j : Nat) : Int) + 2)) ∧ (w32 (((j : Nat) : Int) + 2)) < G1 1001 0 from by rw [e2, s1]; omega), ?_⟩
  refine ⟨(show 0 ≤ (w32 (((j : Nat) : Int) + 3)) ∧ (w32 (((j : Nat) : Int) + 3)) < G1 1001 0 from by rw [e3, s1]; omega), ?_⟩
  refine ⟨(show 0 ≤ (w32 (((j : Nat) : Int) + 4)) ∧ (w32 (((j : Nat) : Int) + 4)) < G1 1001 0 from by rw [e4, s1]; omega), ?_⟩
  refine ⟨(show 0 ≤ (w32 (((j : Nat) : Int) + 5)) ∧ (w32 (((j : Nat) : Int) + 5)) < G1 1001 0 from by rw [e5, s1]; omega), ?_⟩
  refine (show WLw Q 175 [some (mR 1), some (mR 5), some (mR 69), some (mI ((j : Nat) : Int))] [mI (G1 1000 (Int.toNat (w32 (((j : Nat) : Int) + 5)))), mI (G1 1000 (Int.toNat (w32 (((j : Nat) : Int) + 4)))), mI (G1 1000 (Int.toNat (w32 (((j : Nat) : Int) + 3)))), mI (G1 1000 (Int.toNat (w32 (((j : Nat) : Int) + 2)))), mI (G1 1000 (Int.toNat (w32 (((j : Nat) : Int) + 1)))), mR 69, mI a] G1 from ?_)
  rw [e1, e2, e3, e4, e5, st_nat, st_nat, st_nat, st_nat, st_nat]
  rw [s2 (j + 1) (by omega), s2 (j + 2) (by omega), s2 (j + 3) (by omega), s2 (j + 4) (by omega), s2 (j + 5) (by omega)]
  refine (show WLw Q 175 [some (mR 1), some (mR 5), some (mR 69), some (mI ((j : Nat) : Int))] [mI (G 1000 (j + 5)), mI (G 1000 (j + 4)), mI (G 1000 (j + 3)), mI (G 1000 (j + 2)), mI (G 1000 (j + 1)), mR 69, mI a] G1 from ?_)
  refine wl_vc [146, 149, 175, 178, 820] 400 ?_
  refine bth_2 h2 (fun G2 b0 b1 b2 b3 => ?_)
  refine (show WLw Q 178 [some (mR 1), some (mR 5), some (mR 69), some (mI ((j : Nat) : Int))] [mI a, mI a] G2 from ?_)
  refine wl_vc [146, 149, 175, 178, 820] 400 ?_
  refine ⟨fun _ => ?_, fun (c : ¬ a = a) => absurd rfl c⟩
  refine (show WLw Q 820 [some (mR 1), some (mR 5), some (mR 69), some (mI ((j : Nat) : Int))] [] G2 from ?_)
  exact hN G2 (LV_tr hky s0 s1 s2 b0 b1 b2 b3)
set_option maxHeartbeats 8000000 in
theorem lw_1 {Q : Option mV → mG → Prop} {G : mG} {c j : Nat} (hC : Cpl c G) (hky : ∀ i, i < 20 → G 71 i = ky i) (hj : ((j + 5 : Nat) : Int) < G 1001 0) (hl : G 1001 0 ≤ 3072) (h1k : ∀ i : Nat, (i : Int) < G 1001 0 → G 1000 i < 2147483648) (hN : ∀ G2, LV G G2 → WLw Q 820 [some (mR 1), some (mR 5), some (mR 69), some (mI ((j : Nat) : Int))] [] G2) : WLw Q 183 [some (mR 1), some (mR 5), some (mR 69), some (mI ((j : Nat) : Int))] [] G := by
  have e1 : w32 (((j : Nat) : Int) + 1) = ((j + 1 : Nat) : Int) := ix_n (k := 1) (by omega) (by decide)
  have e2 : w32 (((j : Nat) : Int) + 2) = ((j + 2 : Nat) : Int) := ix_n (k := 2) (by omega) (by decide)
  have e3 : w32 (((j : Nat) : Int) + 3) = ((j + 3 : Nat) : Int) := ix_n (k := 3) (by omega) (by decide)
  have e4 : w32 (((j : Nat) : Int) + 4) = ((j + 4 : Nat) : Int) := ix_n (k := 4) (by omega) (by decide)
  have e5 : w32 (((j : Nat) : Int) + 5) = ((j + 5 : Nat) : Int) := ix_n (k := 5) (by omega) (by decide)
  refine wl_vc [189, 192, 198, 201, 820] 400 ?_
  refine ⟨(show 0 ≤ (w32 (((j : Nat) : Int) + 1)) ∧ (w32 (((j : Nat) : Int) + 1)) < G 1001 0 from by rw [e1]; omega), ?_⟩
  refine (show WLw Q 189 [some (mR 1), some (mR 5), some (mR 69), some (mI ((j : Nat) : Int))] [mI (G 1000 (Int.toNat (w32 (((j : Nat) : Int) + 1)))), mR 5] G from ?_)
  rw [e1, st_nat]
  refine (show WLw Q 189 [some (mR 1), some (mR 5), some (mR 69), some (mI ((j : Nat) : Int))] [mI (G 1000 (j + 1)), mR 5] G from ?_)
  refine wl_vc [189, 192, 198, 201, 820] 400 ?_
  refine bth_1 (pm_back hC (G 1000 (j + 1))) (fun a G1 h2 s0 s1 s2 => ?_)
  refine (show WLw Q 192 [some (mR 1), some (mR 5), some (mR 69), some (mI ((j : Nat) : Int))] [mI a] G1 from ?_)
  refine wl_vc [189, 192, 198, 201, 820] 400 ?_
  refine ⟨(show 0 ≤ (w32 (((j : Nat) : Int) + 1)) ∧ (w32 (((j : Nat) : Int) + 1)) < G1 1001 0 from by rw [e1, s1]; omega), ?_⟩
  refine (show WLw Q 198 [some (mR 1), some (mR 5), some (mR 69), some (mI ((j : Nat) : Int))] [mI (G1 1000 (Int.toNat (w32 (((j : Nat) : Int) + 1)))), mR 69, mI a] G1 from ?_)
  rw [e1, st_nat]
  rw [s2 (j + 1) (by omega)]
  refine (show WLw Q 198 [some (mR 1), some (mR 5), some (mR 69), some (mI ((j : Nat) : Int))] [mI (G 1000 (j + 1)), mR 69, mI a] G1 from ?_)
  refine wl_vc [189, 192, 198, 201, 820] 400 ?_
  refine bth_2 h2 (fun G2 b0 b1 b2 b3 => ?_)
  refine (show WLw Q 201 [some (mR 1), some (mR 5), some (mR 69), some (mI ((j : Nat) : Int))] [mI a, mI a] G2 from ?_)
  refine wl_vc [189, 192, 198, 201, 820] 400 ?_
  refine ⟨fun _ => ?_, fun (c : ¬ a = a) => absurd rfl c⟩
  refine (show WLw Q 820 [some (mR 1), some (mR 5), some (mR 69), some (mI ((j : Nat) : Int))] [] G2 from ?_)
  exact hN G2 (LV_tr hky s0 s1 s2 b0 b1 b2 b3)
set_option maxHeartbeats 8000000 in
theorem lw_2 {Q : Option mV → mG → Prop} {G : mG} {c j : Nat} (hC : Cpl c G) (hky : ∀ i, i < 20 → G 71 i = ky i) (hj : ((j + 5 : Nat) : Int) < G 1001 0) (hl : G 1001 0 ≤ 3072) (h1k : ∀ i : Nat, (i : Int) < G 1001 0 → G 1000 i < 2147483648) (hN : ∀ G2, LV G G2 → WLw Q 820 [some (mR 1), some (mR 5), some (mR 69), some (mI ((j : Nat) : Int))] [] G2) : WLw Q 206 [some (mR 1), some (mR 5), some (mR 69), some (mI ((j : Nat) : Int))] [] G := by
  have e1 : w32 (((j : Nat) : Int) + 1) = ((j + 1 : Nat) : Int) := ix_n (k := 1) (by omega) (by decide)
  have e2 : w32 (((j : Nat) : Int) + 2) = ((j + 2 : Nat) : Int) := ix_n (k := 2) (by omega) (by decide)
  have e3 : w32 (((j : Nat) : Int) + 3) = ((j + 3 : Nat) : Int) := ix_n (k := 3) (by omega) (by decide)
  have e4 : w32 (((j : Nat) : Int) + 4) = ((j + 4 : Nat) : Int) := ix_n (k := 4) (by omega) (by decide)
  have e5 : w32 (((j : Nat) : Int) + 5) = ((j + 5 : Nat) : Int) := ix_n (k := 5) (by omega) (by decide)
  refine wl_vc [207, 210, 211, 214, 820] 400 ?_
  refine (show WLw Q 207 [some (mR 1), some (mR 5), some (mR 69), some (mI ((j : Nat) : Int))] [mR 5] G from ?_)
  refine (show WLw Q 207 [some (mR 1), some (mR 5), some (mR 69), some (mI ((j : Nat) : Int))] [mR 5] G from ?_)
  refine wl_vc [207, 210, 211, 214, 820] 400 ?_
  refine bth_1 (pm_read hC hky) (fun a G1 h2 s0 s1 s2 => ?_)
  refine (show WLw Q 210 [some (mR 1), some (mR 5), some (mR 69), some (mI ((j : Nat) : Int))] [mI a] G1 from ?_)
  refine wl_vc [207, 210, 211, 214, 820] 400 ?_
  refine (show WLw Q 211 [some (mR 1), some (mR 5), some (mR 69), some (mI ((j : Nat) : Int))] [mR 69, mI a] G1 from ?_)
  refine (show WLw Q 211 [some (mR 1), some (mR 5), some (mR 69), some (mI ((j : Nat) : Int))] [mR 69, mI a] G1 from ?_)
  refine wl_vc [207, 210, 211, 214, 820] 400 ?_
  refine bth_2 h2 (fun G2 b0 b1 b2 b3 => ?_)
  refine (show WLw Q 214 [some (mR 1), some (mR 5), some (mR 69), some (mI ((j : Nat) : Int))] [mI a, mI a] G2 from ?_)
  refine wl_vc [207, 210, 211, 214, 820] 400 ?_
  refine ⟨fun _ => ?_, fun (c : ¬ a = a) => absurd rfl c⟩
  refine (show WLw Q 820 [some (mR 1), some (mR 5), some (mR 69), some (mI ((j : Nat) : Int))] [] G2 from ?_)
  exact hN G2 (LV_tr hky s0 s1 s2 b0 b1 b2 b3)
set_option maxHeartbeats 8000000 in
theorem lw_3 {Q : Option mV → mG → Prop} {G : mG} {c j : Nat} (hC : Cpl c G) (hky : ∀ i, i < 20 → G 71 i = ky i) (hj : ((j + 5 : Nat) : Int) < G 1001 0) (hl : G 1001 0 ≤ 3072) (h1k : ∀ i : Nat, (i : Int) < G 1001 0 → G 1000 i < 2147483648) (hN : ∀ G2, LV G G2 → WLw Q 820 [some (mR 1), some (mR 5), some (mR 69), some (mI ((j : Nat) : Int))] [] G2) : WLw Q 219 [some (mR 1), some (mR 5), some (mR 69), some (mI ((j : Nat) : Int))] [] G := by
  have e1 : w32 (((j : Nat) : Int) + 1) = ((j + 1 : Nat) : Int) := ix_n (k := 1) (by omega) (by decide)
  have e2 : w32 (((j : Nat) : Int) + 2) = ((j + 2 : Nat) : Int) := ix_n (k := 2) (by omega) (by decide)
  have e3 : w32 (((j : Nat) : Int) + 3) = ((j + 3 : Nat) : Int) := ix_n (k := 3) (by omega) (by decide)
  have e4 : w32 (((j : Nat) : Int) + 4) = ((j + 4 : Nat) : Int) := ix_n (k := 4) (by omega) (by decide)
  have e5 : w32 (((j : Nat) : Int) + 5) = ((j + 5 : Nat) : Int) := ix_n (k := 5) (by omega) (by decide)
  refine wl_vc [220, 223, 224, 227, 820] 400 ?_
  refine (show WLw Q 220 [some (mR 1), some (mR 5), some (mR 69), some (mI ((j : Nat) : Int))] [mR 5] G from ?_)
  refine (show WLw Q 220 [some (mR 1), some (mR 5), some (mR 69), some (mI ((j : Nat) : Int))] [mR 5] G from ?_)
  refine wl_vc [220, 223, 224, 227, 820] 400 ?_
  refine bth_1 (pm_place hC) (fun a G1 h2 s0 s1 s2 => ?_)
  refine (show WLw Q 223 [some (mR 1), some (mR 5), some (mR 69), some (mI ((j : Nat) : Int))] [mI a] G1 from ?_)
  refine wl_vc [220, 223, 224, 227, 820] 400 ?_
  refine (show WLw Q 224 [some (mR 1), some (mR 5), some (mR 69), some (mI ((j : Nat) : Int))] [mR 69, mI a] G1 from ?_)
  refine (show WLw Q 224 [some (mR 1), some (mR 5), some (mR 69), some (mI ((j : Nat) : Int))] [mR 69, mI a] G1 from ?_)
  refine wl_vc [220, 223, 224, 227, 820] 400 ?_
  refine bth_2 h2 (fun G2 b0 b1 b2 b3 => ?_)
  refine (show WLw Q 227 [some (mR 1), some (mR 5), some (mR 69), some (mI ((j : Nat) : Int))] [mI a, mI a] G2 from ?_)
  refine wl_vc [220, 223, 224, 227, 820] 400 ?_
  refine ⟨fun _ => ?_, fun (c : ¬ a = a) => absurd rfl c⟩
  refine (show WLw Q 820 [some (mR 1), some (mR 5), some (mR 69), some (mI ((j : Nat) : Int))] [] G2 from ?_)
  exact hN G2 (LV_tr hky s0 s1 s2 b0 b1 b2 b3)
set_option maxHeartbeats 8000000 in
theorem lw_4 {Q : Option mV → mG → Prop} {G : mG} {c j : Nat} (hC : Cpl c G) (hky : ∀ i, i < 20 → G 71 i = ky i) (hj : ((j + 5 : Nat) : Int) < G 1001 0) (hl : G 1001 0 ≤ 3072) (h1k : ∀ i : Nat, (i : Int) < G 1001 0 → G 1000 i < 2147483648) (hN : ∀ G2, LV G G2 → WLw Q 820 [some (mR 1), some (mR 5), some (mR 69), some (mI ((j : Nat) : Int))] [] G2) : WLw Q 232 [some (mR 1), some (mR 5), some (mR 69), some (mI ((j : Nat) : Int))] [] G := by
  have e1 : w32 (((j : Nat) : Int) + 1) = ((j + 1 : Nat) : Int) := ix_n (k := 1) (by omega) (by decide)
  have e2 : w32 (((j : Nat) : Int) + 2) = ((j + 2 : Nat) : Int) := ix_n (k := 2) (by omega) (by decide)
  have e3 : w32 (((j : Nat) : Int) + 3) = ((j + 3 : Nat) : Int) := ix_n (k := 3) (by omega) (by decide)
  have e4 : w32 (((j : Nat) : Int) + 4) = ((j + 4 : Nat) : Int) := ix_n (k := 4) (by omega) (by decide)
  have e5 : w32 (((j : Nat) : Int) + 5) = ((j + 5 : Nat) : Int) := ix_n (k := 5) (by omega) (by decide)
  refine wl_vc [266, 269, 303, 306, 820] 400 ?_
  refine ⟨(show 0 ≤ (w32 (((j : Nat) : Int) + 1)) ∧ (w32 (((j : Nat) : Int) + 1)) < G 1001 0 from by rw [e1]; omega), ?_⟩
  refine ⟨(show 0 ≤ (w32 (((j : Nat) : Int) + 2)) ∧ (w32 (((j : Nat) : Int) + 2)) < G 1001 0 from by rw [e2]; omega), ?_⟩
  refine ⟨(show 0 ≤ (w32 (((j : Nat) : Int) + 3)) ∧ (w32 (((j : Nat) : Int) + 3)) < G 1001 0 from by rw [e3]; omega), ?_⟩
  refine ⟨(show 0 ≤ (w32 (((j : Nat) : Int) + 4)) ∧ (w32 (((j : Nat) : Int) + 4)) < G 1001 0 from by rw [e4]; omega), ?_⟩
  refine ⟨(show 0 ≤ (w32 (((j : Nat) : Int) + 5)) ∧ (w32 (((j : Nat) : Int) + 5)) < G 1001 0 from by rw [e5]; omega), ?_⟩
  refine ⟨fun (c1 : (G 1000 (Int.toNat (w32 (((j : Nat) : Int) + 5)))) = 0) => ?_, fun (c1 : ¬ (G 1000 (Int.toNat (w32 (((j : Nat) : Int) + 5)))) = 0) => ?_⟩
  · skip
    refine (show WLw Q 266 [some (mR 1), some (mR 5), some (mR 69), some (mI ((j : Nat) : Int))] [mI 0, mI (G 1000 (Int.toNat (w32 (((j : Nat) : Int) + 4)))), mI (G 1000 (Int.toNat (w32 (((j : Nat) : Int) + 3)))), mI (G 1000 (Int.toNat (w32 (((j : Nat) : Int) + 2)))), mI (G 1000 (Int.toNat (w32 (((j : Nat) : Int) + 1)))), mR 5] G from ?_)
    rw [e1, e2, e3, e4, st_nat, st_nat, st_nat, st_nat]
    refine (show WLw Q 266 [some (mR 1), some (mR 5), some (mR 69), some (mI ((j : Nat) : Int))] [mI 0, mI (G 1000 (j + 4)), mI (G 1000 (j + 3)), mI (G 1000 (j + 2)), mI (G 1000 (j + 1)), mR 5] G from ?_)
    refine wl_vc [266, 269, 303, 306, 820] 400 ?_
    refine bth_1 (pm_board hC (G 1000 (j + 1)) (G 1000 (j + 2)) (G 1000 (j + 3)) (G 1000 (j + 4)) 0 (by decide)) (fun a G1 h2 s0 s1 s2 => ?_)
    refine (show WLw Q 269 [some (mR 1), some (mR 5), some (mR 69), some (mI ((j : Nat) : Int))] [mI a] G1 from ?_)
    refine wl_vc [266, 269, 303, 306, 820] 400 ?_
    refine ⟨(show 0 ≤ (w32 (((j : Nat) : Int) + 1)) ∧ (w32 (((j : Nat) : Int) + 1)) < G1 1001 0 from by rw [e1, s1]; omega), ?_⟩
    refine ⟨(show 0 ≤ (w32 (((j : Nat) : Int) + 2)) ∧ (w32 (((j : Nat) : Int) + 2)) < G1 1001 0 from by rw [e2, s1]; omega), ?_⟩
    refine ⟨(show 0 ≤ (w32 (((j : Nat) : Int) + 3)) ∧ (w32 (((j : Nat) : Int) + 3)) < G1 1001 0 from by rw [e3, s1]; omega), ?_⟩
    refine ⟨(show 0 ≤ (w32 (((j : Nat) : Int) + 4)) ∧ (w32 (((j : Nat) : Int) + 4)) < G1 1001 0 from by rw [e4, s1]; omega), ?_⟩
    refine ⟨(show 0 ≤ (w32 (((j : Nat) : Int) + 5)) ∧ (w32 (((j : Nat) : Int) + 5)) < G1 1001 0 from by rw [e5, s1]; omega), ?_⟩
    refine ⟨fun _ => ?_, fun (c : ¬ (G1 1000 (Int.toNat (w32 (((j : Nat) : Int) + 5)))) = 0) => absurd (by rw [e5, st_nat, s2 (j + 5) (by omega)]; rw [e5, st_nat] at c1; exact c1) c⟩
    refine (show WLw Q 303 [some (mR 1), some (mR 5), some (mR 69), some (mI ((j : Nat) : Int))] [mI 0, mI (G1 1000 (Int.toNat (w32 (((j : Nat) : Int) + 4)))), mI (G1 1000 (Int.toNat (w32 (((j : Nat) : Int) + 3)))), mI (G1 1000 (Int.toNat (w32 (((j : Nat) : Int) + 2)))), mI (G1 1000 (Int.toNat (w32 (((j : Nat) : Int) + 1)))), mR 69, mI a] G1 from ?_)
    rw [e1, e2, e3, e4, st_nat, st_nat, st_nat, st_nat]
    rw [s2 (j + 1) (by omega), s2 (j + 2) (by omega), s2 (j + 3) (by omega), s2 (j + 4) (by omega)]
    refine (show WLw Q 303 [some (mR 1), some (mR 5), some (mR 69), some (mI ((j : Nat) : Int))] [mI 0, mI (G 1000 (j + 4)), mI (G 1000 (j + 3)), mI (G 1000 (j + 2)), mI (G 1000 (j + 1)), mR 69, mI a] G1 from ?_)
    refine wl_vc [266, 269, 303, 306, 820] 400 ?_
    refine bth_2 h2 (fun G2 b0 b1 b2 b3 => ?_)
    refine (show WLw Q 306 [some (mR 1), some (mR 5), some (mR 69), some (mI ((j : Nat) : Int))] [mI a, mI a] G2 from ?_)
    refine wl_vc [266, 269, 303, 306, 820] 400 ?_
    refine ⟨fun _ => ?_, fun (c : ¬ a = a) => absurd rfl c⟩
    refine (show WLw Q 820 [some (mR 1), some (mR 5), some (mR 69), some (mI ((j : Nat) : Int))] [] G2 from ?_)
    exact hN G2 (LV_tr hky s0 s1 s2 b0 b1 b2 b3)
  · skip
    refine (show WLw Q 266 [some (mR 1), some (mR 5), some (mR 69), some (mI ((j : Nat) : Int))] [mI 1, mI (G 1000 (Int.toNat (w32 (((j : Nat) : Int) + 4)))), mI (G 1000 (Int.toNat (w32 (((j : Nat) : Int) + 3)))), mI (G 1000 (Int.toNat (w32 (((j : Nat) : Int) + 2)))), mI (G 1000 (Int.toNat (w32 (((j : Nat) : Int) + 1)))), mR 5] G from ?_)
    rw [e1, e2, e3, e4, st_nat, st_nat, st_nat, st_nat]
    refine (show WLw Q 266 [some (mR 1), some (mR 5), some (mR 69), some (mI ((j : Nat) : Int))] [mI 1, mI (G 1000 (j + 4)), mI (G 1000 (j + 3)), mI (G 1000 (j + 2)), mI (G 1000 (j + 1)), mR 5] G from ?_)
    refine wl_vc [266, 269, 303, 306, 820] 400 ?_
    refine bth_1 (pm_board hC (G 1000 (j + 1)) (G 1000 (j + 2)) (G 1000 (j + 3)) (G 1000 (j + 4)) 1 (by decide)) (fun a G1 h2 s0 s1 s2 => ?_)
    refine (show WLw Q 269 [some (mR 1), some (mR 5), some (mR 69), some (mI ((j : Nat) : Int))] [mI a] G1 from ?_)
    refine wl_vc [266, 269, 303, 306, 820] 400 ?_
    refine ⟨(show 0 ≤ (w32 (((j : Nat) : Int) + 1)) ∧ (w32 (((j : Nat) : Int) + 1)) < G1 1001 0 from by rw [e1, s1]; omega), ?_⟩
    refine ⟨(show 0 ≤ (w32 (((j : Nat) : Int) + 2)) ∧ (w32 (((j : Nat) : Int) + 2)) < G1 1001 0 from by rw [e2, s1]; omega), ?_⟩
    refine ⟨(show 0 ≤ (w32 (((j : Nat) : Int) + 3)) ∧ (w32 (((j : Nat) : Int) + 3)) < G1 1001 0 from by rw [e3, s1]; omega), ?_⟩
    refine ⟨(show 0 ≤ (w32 (((j : Nat) : Int) + 4)) ∧ (w32 (((j : Nat) : Int) + 4)) < G1 1001 0 from by rw [e4, s1]; omega), ?_⟩
    refine ⟨(show 0 ≤ (w32 (((j : Nat) : Int) + 5)) ∧ (w32 (((j : Nat) : Int) + 5)) < G1 1001 0 from by rw [e5, s1]; omega), ?_⟩
    refine ⟨fun (c : (G1 1000 (Int.toNat (w32 (((j : Nat) : Int) + 5)))) = 0) => absurd (by rw [e5, st_nat, s2 (j + 5) (by omega)] at c; rw [e5, st_nat]; exact c) c1, fun _ => ?_⟩
    refine (show WLw Q 303 [some (mR 1), some (mR 5), some (mR 69), some (mI ((j : Nat) : Int))] [mI 1, mI (G1 1000 (Int.toNat (w32 (((j : Nat) : Int) + 4)))), mI (G1 1000 (Int.toNat (w32 (((j : Nat) : Int) + 3)))), mI (G1 1000 (Int.toNat (w32 (((j : Nat) : Int) + 2)))), mI (G1 1000 (Int.toNat (w32 (((j : Nat) : Int) + 1)))), mR 69, mI a] G1 from ?_)
    rw [e1, e2, e3, e4, st_nat, st_nat, st_nat, st_nat]
    rw [s2 (j + 1) (by omega), s2 (j + 2) (by omega), s2 (j + 3) (by omega), s2 (j + 4) (by omega)]
    refine (show WLw Q 303 [some (mR 1), some (mR 5), some (mR 69), some (mI ((j : Nat) : Int))] [mI 1, mI (G 1000 (j + 4)), mI (G 1000 (j + 3)), mI (G 1000 (j + 2)), mI (G 1000 (j + 1)), mR 69, mI a] G1 from ?_)
    refine wl_vc [266, 269, 303, 306, 820] 400 ?_
    refine bth_2 h2 (fun G2 b0 b1 b2 b3 => ?_)
    refine (show WLw Q 306 [some (mR 1), some (mR 5), some (mR 69), some (mI ((j : Nat) : Int))] [mI a, mI a] G2 from ?_)
    refine wl_vc [266, 269, 303, 306, 820] 400 ?_
    refine ⟨fun _ => ?_, fun (c : ¬ a = a) => absurd rfl c⟩
    refine (show WLw Q 820 [some (mR 1), some (mR 5), some (mR 69), some (mI ((j : Nat) : Int))] [] G2 from ?_)
    exact hN G2 (LV_tr hky s0 s1 s2 b0 b1 b2 b3)
set_option maxHeartbeats 8000000 in
theorem lw_5 {Q : Option mV → mG → Prop} {G : mG} {c j : Nat} (hC : Cpl c G) (hky : ∀ i, i < 20 → G 71 i = ky i) (hj : ((j + 5 : Nat) : Int) < G 1001 0) (hl : G 1001 0 ≤ 3072) (h1k : ∀ i : Nat, (i : Int) < G 1001 0 → G 1000 i < 2147483648) (hN : ∀ G2, LV G G2 → WLw Q 820 [some (mR 1), some (mR 5), some (mR 69), some (mI ((j : Nat) : Int))] [] G2) : WLw Q 311 [some (mR 1), some (mR 5), some (mR 69), some (mI ((j : Nat) : Int))] [] G := by
  have e1 : w32 (((j : Nat) : Int) + 1) = ((j + 1 : Nat) : Int) := ix_n (k := 1) (by omega) (by decide)
  have e2 : w32 (((j : Nat) : Int) + 2) = ((j + 2 : Nat) : Int) := ix_n (k := 2) (by omega) (by decide)
  have e3 : w32 (((j : Nat) : Int) + 3) = ((j + 3 : Nat) : Int) := ix_n (k := 3) (by omega) (by decide)
  have e4 : w32 (((j : Nat) : Int) + 4) = ((j + 4 : Nat) : Int) := ix_n (k := 4) (by omega) (by decide)
  have e5 : w32 (((j : Nat) : Int) + 5) = ((j + 5 : Nat) : Int) := ix_n (k := 5) (by omega) (by decide)
  refine wl_vc [322, 325, 336, 339, 820] 400 ?_
  refine ⟨(show 0 ≤ (w32 (((j : Nat) : Int) + 1)) ∧ (w32 (((j : Nat) : Int) + 1)) < G 1001 0 from by rw [e1]; omega), ?_⟩
  refine ⟨(show 0 ≤ (w32 (((j : Nat) : Int) + 2)) ∧ (w32 (((j : Nat) : Int) + 2)) < G 1001 0 from by rw [e2]; omega), ?_⟩
  refine (show WLw Q 322 [some (mR 1), some (mR 5), some (mR 69), some (mI ((j : Nat) : Int))] [mI (G 1000 (Int.toNat (w32 (((j : Nat) : Int) + 2)))), mI (G 1000 (Int.toNat (w32 (((j : Nat) : Int) + 1)))), mR 5] G from ?_)
  rw [e1, e2, st_nat, st_nat]
  refine (show WLw Q 322 [some (mR 1), some (mR 5), some (mR 69), some (mI ((j : Nat) : Int))] [mI (G 1000 (j + 2)), mI (G 1000 (j + 1)), mR 5] G from ?_)
  refine wl_vc [322, 325, 336, 339, 820] 400 ?_
  refine bth_1 (pm_pace hC (G 1000 (j + 1)) (G 1000 (j + 2))) (fun a G1 h2 s0 s1 s2 => ?_)
  refine (show WLw Q 325 [some (mR 1), some (mR 5), some (mR 69), some (mI ((j : Nat) : Int))] [mI a] G1 from ?_)
  refine wl_vc [322, 325, 336, 339, 820] 400 ?_
  refine ⟨(show 0 ≤ (w32 (((j : Nat) : Int) + 1)) ∧ (w32 (((j : Nat) : Int) + 1)) < G1 1001 0 from by rw [e1, s1]; omega), ?_⟩
  refine ⟨(show 0 ≤ (w32 (((j : Nat) : Int) + 2)) ∧ (w32 (((j : Nat) : Int) + 2)) < G1 1001 0 from by rw [e2, s1]; omega), ?_⟩
  refine (show WLw Q 336 [some (mR 1), some (mR 5), some (mR 69), some (mI ((j : Nat) : Int))] [mI (G1 1000 (Int.toNat (w32 (((j : Nat) : Int) + 2)))), mI (G1 1000 (Int.toNat (w32 (((j : Nat) : Int) + 1)))), mR 69, mI a] G1 from ?_)
  rw [e1, e2, st_nat, st_nat]
  rw [s2 (j + 1) (by omega), s2 (j + 2) (by omega)]
  refine (show WLw Q 336 [some (mR 1), some (mR 5), some (mR 69), some (mI ((j : Nat) : Int))] [mI (G 1000 (j + 2)), mI (G 1000 (j + 1)), mR 69, mI a] G1 from ?_)
  refine wl_vc [322, 325, 336, 339, 820] 400 ?_
  refine bth_2 h2 (fun G2 b0 b1 b2 b3 => ?_)
  refine (show WLw Q 339 [some (mR 1), some (mR 5), some (mR 69), some (mI ((j : Nat) : Int))] [mI a, mI a] G2 from ?_)
  refine wl_vc [322, 325, 336, 339, 820] 400 ?_
  refine ⟨fun _ => ?_, fun (c : ¬ a = a) => absurd rfl c⟩
  refine (show WLw Q 820 [some (mR 1), some (mR 5), some (mR 69), some (mI ((j : Nat) : Int))] [] G2 from ?_)
  exact hN G2 (LV_tr hky s0 s1 s2 b0 b1 b2 b3)
set_option maxHeartbeats 8000000 in
theorem lw_6 {Q : Option mV → mG → Prop} {G : mG} {c j : Nat} (hC : Cpl c G) (hky : ∀ i, i < 20 → G 71 i = ky i) (hj : ((j + 5 : Nat) : Int) < G 1001 0) (hl : G 1001 0 ≤ 3072) (h1k : ∀ i : Nat, (i : Int) < G 1001 0 → G 1000 i < 2147483648) (hN : ∀ G2, LV G G2 → WLw Q 820 [some (mR 1), some (mR 5), some (mR 69), some (mI ((j : Nat) : Int))] [] G2) : WLw Q 344 [some (mR 1), some (mR 5), some (mR 69), some (mI ((j : Nat) : Int))] [] G := by
  have e1 : w32 (((j : Nat) : Int) + 1) = ((j + 1 : Nat) : Int) := ix_n (k := 1) (by omega) (by decide)
  have e2 : w32 (((j : Nat) : Int) + 2) = ((j + 2 : Nat) : Int) := ix_n (k := 2) (by omega) (by decide)
  have e3 : w32 (((j : Nat) : Int) + 3) = ((j + 3 : Nat) : Int) := ix_n (k := 3) (by omega) (by decide)
  have e4 : w32 (((j : Nat) : Int) + 4) = ((j + 4 : Nat) : Int) := ix_n (k := 4) (by omega) (by decide)
  have e5 : w32 (((j : Nat) : Int) + 5) = ((j + 5 : Nat) : Int) := ix_n (k := 5) (by omega) (by decide)
  refine wl_vc [365, 368, 389, 392, 820] 400 ?_
  refine ⟨(show 0 ≤ (w32 (((j : Nat) : Int) + 1)) ∧ (w32 (((j : Nat) : Int) + 1)) < G 1001 0 from by rw [e1]; omega), ?_⟩
  refine ⟨(show 0 ≤ (w32 (((j : Nat) : Int) + 2)) ∧ (w32 (((j : Nat) : Int) + 2)) < G 1001 0 from by rw [e2]; omega), ?_⟩
  refine ⟨(show 0 ≤ (w32 (((j : Nat) : Int) + 3)) ∧ (w32 (((j : Nat) : Int) + 3)) < G 1001 0 from by rw [e3]; omega), ?_⟩
  refine ⟨(show 0 ≤ (w32 (((j : Nat) : Int) + 4)) ∧ (w32 (((j : Nat) : Int) + 4)) < G 1001 0 from by rw [e4]; omega), ?_⟩
  refine (show WLw Q 365 [some (mR 1), some (mR 5), some (mR 69), some (mI ((j : Nat) : Int))] [mI (G 1000 (Int.toNat (w32 (((j : Nat) : Int) + 4)))), mI (G 1000 (Int.toNat (w32 (((j : Nat) : Int) + 3)))), mI (G 1000 (Int.toNat (w32 (((j : Nat) : Int) + 2)))), mI (G 1000 (Int.toNat (w32 (((j : Nat) : Int) + 1)))), mR 5] G from ?_)
  rw [e1, e2, e3, e4, st_nat, st_nat, st_nat, st_nat]
  refine (show WLw Q 365 [some (mR 1), some (mR 5), some (mR 69), some (mI ((j : Nat) : Int))] [mI (G 1000 (j + 4)), mI (G 1000 (j + 3)), mI (G 1000 (j + 2)), mI (G 1000 (j + 1)), mR 5] G from ?_)
  refine wl_vc [365, 368, 389, 392, 820] 400 ?_
  refine bth_1 (pm_fact hC (G 1000 (j + 1)) (G 1000 (j + 2)) (G 1000 (j + 3)) (G 1000 (j + 4))) (fun a G1 h2 s0 s1 s2 => ?_)
  refine (show WLw Q 368 [some (mR 1), some (mR 5), some (mR 69), some (mI ((j : Nat) : Int))] [mI a] G1 from ?_)
  refine wl_vc [365, 368, 389, 392, 820] 400 ?_
  refine ⟨(show 0 ≤ (w32 (((j : Nat) : Int) + 1)) ∧ (w32 (((j : Nat) : Int) + 1)) < G1 1001 0 from by rw [e1, s1]; omega), ?_⟩
  refine ⟨(show 0 ≤ (w32 (((j : Nat) : Int) + 2)) ∧ (w32 (((j : Nat) : Int) + 2)) < G1 1001 0 from by rw [e2, s1]; omega), ?_⟩
  refine ⟨(show 0 ≤ (w32 (((j : Nat) : Int) + 3)) ∧ (w32 (((j : Nat) : Int) + 3)) < G1 1001 0 from by rw [e3, s1]; omega), ?_⟩
  refine ⟨(show 0 ≤ (w32 (((j : Nat) : Int) + 4)) ∧ (w32 (((j : Nat) : Int) + 4)) < G1 1001 0 from by rw [e4, s1]; omega), ?_⟩
  refine (show WLw Q 389 [some (mR 1), some (mR 5), some (mR 69), some (mI ((j : Nat) : Int))] [mI (G1 1000 (Int.toNat (w32 (((j : Nat) : Int) + 4)))), mI (G1 1000 (Int.toNat (w32 (((j : Nat) : Int) + 3)))), mI (G1 1000 (Int.toNat (w32 (((j : Nat) : Int) + 2)))), mI (G1 1000 (Int.toNat (w32 (((j : Nat) : Int) + 1)))), mR 69, mI a] G1 from ?_)
  rw [e1, e2, e3, e4, st_nat, st_nat, st_nat, st_nat]
  rw [s2 (j + 1) (by omega), s2 (j + 2) (by omega), s2 (j + 3) (by omega), s2 (j + 4) (by omega)]
  refine (show WLw Q 389 [some (mR 1), some (mR 5), some (mR 69), some (mI ((j : Nat) : Int))] [mI (G 1000 (j + 4)), mI (G 1000 (j + 3)), mI (G 1000 (j + 2)), mI (G 1000 (j + 1)), mR 69, mI a] G1 from ?_)
  refine wl_vc [365, 368, 389, 392, 820] 400 ?_
  refine bth_2 h2 (fun G2 b0 b1 b2 b3 => ?_)
  refine (show WLw Q 392 [some (mR 1), some (mR 5), some (mR 69), some (mI ((j : Nat) : Int))] [mI a, mI a] G2 from ?_)
  refine wl_vc [365, 368, 389, 392, 820] 400 ?_
  refine ⟨fun _ => ?_, fun (c : ¬ a = a) => absurd rfl c⟩
  refine (show WLw Q 820 [some (mR 1), some (mR 5), some (mR 69), some (mI ((j : Nat) : Int))] [] G2 from ?_)
  exact hN G2 (LV_tr hky s0 s1 s2 b0 b1 b2 b3)
set_option maxHeartbeats 8000000 in
theorem lw_7 {Q : Option mV → mG → Prop} {G : mG} {c j : Nat} (hC : Cpl c G) (hky : ∀ i, i < 20 → G 71 i = ky i) (hj : ((j + 5 : Nat) : Int) < G 1001 0) (hl : G 1001 0 ≤ 3072) (h1k : ∀ i : Nat, (i : Int) < G 1001 0 → G 1000 i < 2147483648) (hN : ∀ G2, LV G G2 → WLw Q 820 [some (mR 1), some (mR 5), some (mR 69), some (mI ((j : Nat) : Int))] [] G2) : WLw Q 397 [some (mR 1), some (mR 5), some (mR 69), some (mI ((j : Nat) : Int))] [] G := by
  have e1 : w32 (((j : Nat) : Int) + 1) = ((j + 1 : Nat) : Int) := ix_n (k := 1) (by omega) (by decide)
  have e2 : w32 (((j : Nat) : Int) + 2) = ((j + 2 : Nat) : Int) := ix_n (k := 2) (by omega) (by decide)
  have e3 : w32 (((j : Nat) : Int) + 3) = ((j + 3 : Nat) : Int) := ix_n (k := 3) (by omega) (by decide)
  have e4 : w32 (((j : Nat) : Int) + 4) = ((j + 4 : Nat) : Int) := ix_n (k := 4) (by omega) (by decide)
  have e5 : w32 (((j : Nat) : Int) + 5) = ((j + 5 : Nat) : Int) := ix_n (k := 5) (by omega) (by decide)
  refine wl_vc [408, 411, 422, 425, 820] 400 ?_
  refine ⟨(show 0 ≤ (w32 (((j : Nat) : Int) + 1)) ∧ (w32 (((j : Nat) : Int) + 1)) < G 1001 0 from by rw [e1]; omega), ?_⟩
  refine ⟨(show 0 ≤ (w32 (((j : Nat) : Int) + 2)) ∧ (w32 (((j : Nat) : Int) + 2)) < G 1001 0 from by rw [e2]; omega), ?_⟩
  refine (show WLw Q 408 [some (mR 1), some (mR 5), some (mR 69), some (mI ((j : Nat) : Int))] [mI (G 1000 (Int.toNat (w32 (((j : Nat) : Int) + 2)))), mI (G 1000 (Int.toNat (w32 (((j : Nat) : Int) + 1)))), mR 5] G from ?_)
  rw [e1, e2, st_nat, st_nat]
  refine (show WLw Q 408 [some (mR 1), some (mR 5), some (mR 69), some (mI ((j : Nat) : Int))] [mI (G 1000 (j + 2)), mI (G 1000 (j + 1)), mR 5] G from ?_)
  refine wl_vc [408, 411, 422, 425, 820] 400 ?_
  refine bth_1 (pm_give hC (G 1000 (j + 1)) (G 1000 (j + 2))) (fun a G1 h2 s0 s1 s2 => ?_)
  refine (show WLw Q 411 [some (mR 1), some (mR 5), some (mR 69), some (mI ((j : Nat) : Int))] [mI a] G1 from ?_)
  refine wl_vc [408, 411, 422, 425, 820] 400 ?_
  refine ⟨(show 0 ≤ (w32 (((j : Nat) : Int) + 1)) ∧ (w32 (((j : Nat) : Int) + 1)) < G1 1001 0 from by rw [e1, s1]; omega), ?_⟩
  refine ⟨(show 0 ≤ (w32 (((j : Nat) : Int) + 2)) ∧ (w32 (((j : Nat) : Int) + 2)) < G1 1001 0 from by rw [e2, s1]; omega), ?_⟩
  refine (show WLw Q 422 [some (mR 1), some (mR 5), some (mR 69), some (mI ((j : Nat) : Int))] [mI (G1 1000 (Int.toNat (w32 (((j : Nat) : Int) + 2)))), mI (G1 1000 (Int.toNat (w32 (((j : Nat) : Int) + 1)))), mR 69, mI a] G1 from ?_)
  rw [e1, e2, st_nat, st_nat]
  rw [s2 (j + 1) (by omega), s2 (j + 2) (by omega)]
  refine (show WLw Q 422 [some (mR 1), some (mR 5), some (mR 69), some (mI ((j : Nat) : Int))] [mI (G 1000 (j + 2)), mI (G 1000 (j + 1)), mR 69, mI a] G1 from ?_)
  refine wl_vc [408, 411, 422, 425, 820] 400 ?_
  refine bth_2 h2 (fun G2 b0 b1 b2 b3 => ?_)
  refine (show WLw Q 425 [some (mR 1), some (mR 5), some (mR 69), some (mI ((j : Nat) : Int))] [mI a, mI a] G2 from ?_)
  refine wl_vc [408, 411, 422, 425, 820] 400 ?_
  refine ⟨fun _ => ?_, fun (c : ¬ a = a) => absurd rfl c⟩
  refine (show WLw Q 820 [some (mR 1), some (mR 5), some (mR 69), some (mI ((j : Nat) : Int))] [] G2 from ?_)
  exact hN G2 (LV_tr hky s0 s1 s2 b0 b1 b2 b3)
set_option maxHeartbeats 8000000 in
theorem lw_8 {Q : Option mV → mG → Prop} {G : mG} {c j : Nat} (hC : Cpl c G) (hky : ∀ i, i < 20 → G 71 i = ky i) (hj : ((j + 5 : Nat) : Int) < G 1001 0) (hl : G 1001 0 ≤ 3072) (h1k : ∀ i : Nat, (i : Int) < G 1001 0 → G 1000 i < 2147483648) (hN : ∀ G2, LV G G2 → WLw Q 820 [some (mR 1), some (mR 5), some (mR 69), some (mI ((j : Nat) : Int))] [] G2) : WLw Q 430 [some (mR 1), some (mR 5), some (mR 69), some (mI ((j : Nat) : Int))] [] G := by
  have e1 : w32 (((j : Nat) : Int) + 1) = ((j + 1 : Nat) : Int) := ix_n (k := 1) (by omega) (by decide)
  have e2 : w32 (((j : Nat) : Int) + 2) = ((j + 2 : Nat) : Int) := ix_n (k := 2) (by omega) (by decide)
  have e3 : w32 (((j : Nat) : Int) + 3) = ((j + 3 : Nat) : Int) := ix_n (k := 3) (by omega) (by decide)
  have e4 : w32 (((j : Nat) : Int) + 4) = ((j + 4 : Nat) : Int) := ix_n (k := 4) (by omega) (by decide)
  have e5 : w32 (((j : Nat) : Int) + 5) = ((j + 5 : Nat) : Int) := ix_n (k := 5) (by omega) (by decide)
  refine wl_vc [441, 444, 455, 458, 820] 400 ?_
  refine ⟨(show 0 ≤ (w32 (((j : Nat) : Int) + 1)) ∧ (w32 (((j : Nat) : Int) + 1)) < G 1001 0 from by rw [e1]; omega), ?_⟩
  refine ⟨(show 0 ≤ (w32 (((j : Nat) : Int) + 2)) ∧ (w32 (((j : Nat) : Int) + 2)) < G 1001 0 from by rw [e2]; omega), ?_⟩
  refine (show WLw Q 441 [some (mR 1), some (mR 5), some (mR 69), some (mI ((j : Nat) : Int))] [mI (G 1000 (Int.toNat (w32 (((j : Nat) : Int) + 2)))), mI (G 1000 (Int.toNat (w32 (((j : Nat) : Int) + 1)))), mR 5] G from ?_)
  rw [e1, e2, st_nat, st_nat]
  refine (show WLw Q 441 [some (mR 1), some (mR 5), some (mR 69), some (mI ((j : Nat) : Int))] [mI (G 1000 (j + 2)), mI (G 1000 (j + 1)), mR 5] G from ?_)
  refine wl_vc [441, 444, 455, 458, 820] 400 ?_
  refine bth_1 (pm_mend hC (G 1000 (j + 1)) (G 1000 (j + 2))) (fun a G1 h2 s0 s1 s2 => ?_)
  refine (show WLw Q 444 [some (mR 1), some (mR 5), some (mR 69), some (mI ((j : Nat) : Int))] [mI a] G1 from ?_)
  refine wl_vc [441, 444, 455, 458, 820] 400 ?_
  refine ⟨(show 0 ≤ (w32 (((j : Nat) : Int) + 1)) ∧ (w32 (((j : Nat) : Int) + 1)) < G1 1001 0 from by rw [e1, s1]; omega), ?_⟩
  refine ⟨(show 0 ≤ (w32 (((j : Nat) : Int) + 2)) ∧ (w32 (((j : Nat) : Int) + 2)) < G1 1001 0 from by rw [e2, s1]; omega), ?_⟩
  refine (show WLw Q 455 [some (mR 1), some (mR 5), some (mR 69), some (mI ((j : Nat) : Int))] [mI (G1 1000 (Int.toNat (w32 (((j : Nat) : Int) + 2)))), mI (G1 1000 (Int.toNat (w32 (((j : Nat) : Int) + 1)))), mR 69, mI a] G1 from ?_)
  rw [e1, e2, st_nat, st_nat]
  rw [s2 (j + 1) (by omega), s2 (j + 2) (by omega)]
  refine (show WLw Q 455 [some (mR 1), some (mR 5), some (mR 69), some (mI ((j : Nat) : Int))] [mI (G 1000 (j + 2)), mI (G 1000 (j + 1)), mR 69, mI a] G1 from ?_)
  refine wl_vc [441, 444, 455, 458, 820] 400 ?_
  refine bth_2 h2 (fun G2 b0 b1 b2 b3 => ?_)
  refine (show WLw Q 458 [some (mR 1), some (mR 5), some (mR 69), some (mI ((j : Nat) : Int))] [mI a, mI a] G2 from ?_)
  refine wl_vc [441, 444, 455, 458, 820] 400 ?_
  refine ⟨fun _ => ?_, fun (c : ¬ a = a) => absurd rfl c⟩
  refine (show WLw Q 820 [some (mR 1), some (mR 5), some (mR 69), some (mI ((j : Nat) : Int))] [] G2 from ?_)
  exact hN G2 (LV_tr hky s0 s1 s2 b0 b1 b2 b3)
