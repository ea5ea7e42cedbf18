/-! ===== printed by wip/whole/gen73.py: the reference tells its text, piece by piece ===== -/
theorem fx_next (G : mG) : (0 ≤ G 64 11 ∧ G 64 11 ≤ 600) → (0 ≤ (e_X12_next G) 64 11 ∧ (e_X12_next G) 64 11 ≤ 600) := by
  intro h
  unfold e_X12_next
  by_cases z : G 64 11 = 600
  · rw [if_neg (fun y => y z)]
    unfold e_X12_fail
    refine ite_P (P := fun x : mG => 0 ≤ x 64 11 ∧ x 64 11 ≤ 600) ?_ h
    show 0 ≤ gs (gs G 64 13 2) 64 14 _ 64 11 ∧ gs (gs G 64 13 2) 64 14 _ 64 11 ≤ 600
    rw [gs_at_ne (by decide), gs_at_ne (by decide)]
    exact h
  · rw [if_pos z, gs_at, w32_i (by omega) (by omega)]
    omega
theorem fx_fail (G : mG) (x : Int) : (e_X12_fail G x) 64 11 = G 64 11 ∧ (e_X12_fail G x) 64 12 = G 64 12 ∧ (e_X12_fail G x) 64 19 = G 64 19 ∧ (e_X12_fail G x) 64 39 = G 64 39 ∧ (e_X12_fail G x) 64 43 = G 64 43 ∧ (G 64 13 ≤ 0 → (e_X12_fail G x) 64 13 = x) ∧ (0 < G 64 13 → (e_X12_fail G x) 64 13 = G 64 13) := by
  unfold e_X12_fail
  by_cases z : G 64 13 ≤ 0
  · rw [if_pos z]
    refine ⟨?_, ?_, ?_, ?_, ?_, fun _ => ?_, fun y => absurd z (by omega)⟩
    all_goals first | (rw [gs_at_ne (by decide), gs_at_ne (by decide)]; done) | (rw [gs_at_ne (by decide), gs_at])
  · rw [if_neg z]
    exact ⟨rfl, rfl, rfl, rfl, rfl, fun y => absurd y z, fun _ => rfl⟩
theorem fx_must (G : mG) (x : Int) : (0 ≤ G 64 11 ∧ G 64 11 ≤ 600) → (0 ≤ (e_X12_must G x) 64 11 ∧ (e_X12_must G x) 64 11 ≤ 600) := by
  intro h
  unfold e_X12_must
  refine ite_P (P := fun x : mG => 0 ≤ x 64 11 ∧ x 64 11 ≤ 600) ?_ (fx_next G h)
  rw [(fx_fail G 1).1]
  exact h
theorem fx_emit (G : mG) (x y : Int) : (e_X12_emit G x y) 64 11 = G 64 11 ∧ (e_X12_emit G x y) 64 13 = G 64 13 := by
  unfold e_X12_emit
  refine ⟨?_, ?_⟩
  · rw [gs_at_ne (by decide), gs_ne (by decide), gs_ne (by decide)]
  · rw [gs_at_ne (by decide), gs_ne (by decide), gs_ne (by decide)]
theorem fx_wrong (G : mG) (x y : Int) : (∀ k, k ≠ 64 → (e_X12_wrong G x y) k = G k) ∧ (∀ j, j ≠ 15 → j ≠ 16 → (e_X12_wrong G x y) 64 j = G 64 j) := by
  have key : ∀ v w : Int, (∀ k, k ≠ 64 → (gs (gs G 64 15 v) 64 16 w) k = G k) ∧ (∀ j, j ≠ 15 → j ≠ 16 → (gs (gs G 64 15 v) 64 16 w) 64 j = G 64 j) := fun v w => ⟨fun k hk => by rw [gs_ne hk, gs_ne hk], fun j h1 h2 => by rw [gs_at_ne h2, gs_at_ne h1]⟩
  have k0 : (∀ k, k ≠ 64 → G k = G k) ∧ (∀ j, j ≠ 15 → j ≠ 16 → G 64 j = G 64 j) := ⟨fun _ _ => rfl, fun _ _ _ => rfl⟩
  unfold e_X12_wrong
  generalize G 68 (Int.toNat y) = w
  exact ite_P (P := fun z : mG => (∀ k, k ≠ 64 → z k = G k) ∧ (∀ j, j ≠ 15 → j ≠ 16 → z 64 j = G 64 j)) k0 (ite_P (P := fun z : mG => (∀ k, k ≠ 64 → z k = G k) ∧ (∀ j, j ≠ 15 → j ≠ 16 → z 64 j = G 64 j)) (key x w) (ite_P (P := fun z : mG => (∀ k, k ≠ 64 → z k = G k) ∧ (∀ j, j ≠ 15 → j ≠ 16 → z 64 j = G 64 j)) k0 (ite_P (P := fun z : mG => (∀ k, k ≠ 64 → z k = G k) ∧ (∀ j, j ≠ 15 → j ≠ 16 → z 64 j = G 64 j)) (key x w) (ite_P (P := fun z : mG => (∀ k, k ≠ 64 → z k = G k) ∧ (∀ j, j ≠ 15 → j ≠ 16 → z 64 j = G 64 j)) (key x w) k0))))
set_option maxHeartbeats 8000000 in
theorem co_0 {q : Nat} {H : mG} {Q : Option mV → mG → Prop} {z : Int} (hw : 0 ≤ H 64 43 ∧ H 64 43 ≤ 48) (hc : 0 ≤ H 64 39 ∧ H 64 39 < 1400) (h1 : H 64 43 ≤ 0 → Q none H) (h2 : 0 < H 64 43 → ((H 93 (Int.toNat (w32 ((H 64 43) - 1)))) = 6 ∨ (¬ z = 0 ∧ ¬ (H 93 (Int.toNat (w32 ((H 64 43) - 1)))) = 10)) → Q none H) (h3 : 0 < H 64 43 → ¬ (H 93 (Int.toNat (w32 ((H 64 43) - 1)))) = 6 → (z = 0 ∨ (H 93 (Int.toNat (w32 ((H 64 43) - 1)))) = 10) → ∀ k : Int, k = (if (H 93 (Int.toNat (w32 ((H 64 43) - 1)))) = 8 then 2 else if (H 93 (Int.toNat (w32 ((H 64 43) - 1)))) = 9 then 3 else 4) → W2 o_X12 M_X12_comesOut (inN [64, 72, 73, 74, 75, 76, 77, 78, 79, 80, 81, 82, 83, 84, 85, 86, 87, 88, 89, 90, 91, 92, 93]) (q + 2) Q 0 [some (mR 69), some (mI z), none] [] (e_X12_emit (gs H 64 43 (w32 ((H 64 43) - 1))) k 0)) : W2 o_X12 M_X12_comesOut (inN [64, 72, 73, 74, 75, 76, 77, 78, 79, 80, 81, 82, 83, 84, 85, 86, 87, 88, 89, 90, 91, 92, 93]) (q + 2) Q 0 [some (mR 69), some (mI z), none] [] H := by
  refine w2_vc [0, 53] 400 oo_X12 q_X12_comesOut ?_
  refine ⟨fun (c1 : (H 64 43) ≤ 0) => ?_, fun (c1 : 0 < (H 64 43)) => ?_⟩
  · skip
    exact h1 (by omega)
  · skip
    refine ⟨(show 0 ≤ (w32 ((H 64 43) - 1)) ∧ (w32 ((H 64 43) - 1)) < ((48 : Nat) : Int) from by first | omega | (simp (disch := omega) only [w32_i]; omega)), ?_⟩
    refine ⟨fun (c2 : (H 93 (Int.toNat (w32 ((H 64 43) - 1)))) = 6) => ?_, fun (c2 : ¬ (H 93 (Int.toNat (w32 ((H 64 43) - 1)))) = 6) => ?_⟩
    · skip
      exact h2 (by omega) (by omega)
    · skip
      refine ⟨fun (c3 : z = 0) => ?_, fun (c3 : ¬ z = 0) => ?_⟩
      · skip
        refine (show W2 o_X12 M_X12_comesOut (inN [64, 72, 73, 74, 75, 76, 77, 78, 79, 80, 81, 82, 83, 84, 85, 86, 87, 88, 89, 90, 91, 92, 93]) (q + 2) Q 53 [some (mR 69), some (mI z), none] [] (gs H 64 43 (w32 ((H 64 43) - 1))) from ?_)
        refine w2_vc [0, 53] 400 oo_X12 q_X12_comesOut ?_
        refine ⟨(show 0 ≤ (w32 ((H 64 43) - 1)) ∧ (w32 ((H 64 43) - 1)) < ((48 : Nat) : Int) from by first | omega | (simp (disch := omega) only [w32_i]; omega)), ?_⟩
        refine ⟨fun (c4 : ¬ (H 93 (Int.toNat (w32 ((H 64 43) - 1)))) = 8) => ?_, fun (c4 : (H 93 (Int.toNat (w32 ((H 64 43) - 1)))) = 8) => ?_⟩
        · skip
          refine ⟨fun (c5 : ¬ (H 93 (Int.toNat (w32 ((H 64 43) - 1)))) = 9) => ?_, fun (c5 : (H 93 (Int.toNat (w32 ((H 64 43) - 1)))) = 9) => ?_⟩
          · skip
            refine sp_X12_emit (by first | omega | (simp (disch := decide) only [gs_ne, gs_at_ne, gs_at]; omega)) (insub (by decide)) ?_
            have c7 := fx_emit (gs H 64 43 (w32 ((H 64 43) - 1))) 4 0
            refine (show W2 o_X12 M_X12_comesOut (inN [64, 72, 73, 74, 75, 76, 77, 78, 79, 80, 81, 82, 83, 84, 85, 86, 87, 88, 89, 90, 91, 92, 93]) (q + 2) Q 0 [some (mR 69), some (mI z), some (mI (H 93 (Int.toNat (w32 ((H 64 43) - 1)))))] [] (e_X12_emit (gs H 64 43 (w32 ((H 64 43) - 1))) 4 0) from ?_)
            refine WP.fg (L' := [some (mR 69), some (mI z), none]) ⟨rfl, rfl, trivial⟩ ?_
            exact h3 (by omega) (by omega) (by omega) 4 (by first | (rw [if_pos (by omega)]; done) | (rw [if_neg (by omega), if_pos (by omega)]; done) | (rw [if_neg (by omega), if_neg (by omega)]; done))
          · skip
            refine sp_X12_emit (by first | omega | (simp (disch := decide) only [gs_ne, gs_at_ne, gs_at]; omega)) (insub (by decide)) ?_
            have c9 := fx_emit (gs H 64 43 (w32 ((H 64 43) - 1))) 3 0
            refine (show W2 o_X12 M_X12_comesOut (inN [64, 72, 73, 74, 75, 76, 77, 78, 79, 80, 81, 82, 83, 84, 85, 86, 87, 88, 89, 90, 91, 92, 93]) (q + 2) Q 0 [some (mR 69), some (mI z), some (mI (H 93 (Int.toNat (w32 ((H 64 43) - 1)))))] [] (e_X12_emit (gs H 64 43 (w32 ((H 64 43) - 1))) 3 0) from ?_)
            refine WP.fg (L' := [some (mR 69), some (mI z), none]) ⟨rfl, rfl, trivial⟩ ?_
            exact h3 (by omega) (by omega) (by omega) 3 (by first | (rw [if_pos (by omega)]; done) | (rw [if_neg (by omega), if_pos (by omega)]; done) | (rw [if_neg (by omega), if_neg (by omega)]; done))
        · skip
          refine sp_X12_emit (by first | omega | (simp (disch := decide) only [gs_ne, gs_at_ne, gs_at]; omega)) (insub (by decide)) ?_
          have c11 := fx_emit (gs H 64 43 (w32 ((H 64 43) - 1))) 2 0
          refine (show W2 o_X12 M_X12_comesOut (inN [64, 72, 73, 74, 75, 76, 77, 78, 79, 80, 81, 82, 83, 84, 85, 86, 87, 88, 89, 90, 91, 92, 93]) (q + 2) Q 0 [some (mR 69), some (mI z), some (mI (H 93 (Int.toNat (w32 ((H 64 43) - 1)))))] [] (e_X12_emit (gs H 64 43 (w32 ((H 64 43) - 1))) 2 0) from ?_)
          refine WP.fg (L' := [some (mR 69), some (mI z), none]) ⟨rfl, rfl, trivial⟩ ?_
          exact h3 (by omega) (by omega) (by omega) 2 (by first | (rw [if_pos (by omega)]; done) | (rw [if_neg (by omega), if_pos (by omega)]; done) | (rw [if_neg (by omega), if_neg (by omega)]; done))
      · skip
        refine ⟨(show 0 ≤ (w32 ((H 64 43) - 1)) ∧ (w32 ((H 64 43) - 1)) < ((48 : Nat) : Int) from by first | omega | (simp (disch := omega) only [w32_i]; omega)), ?_⟩
        refine ⟨fun (c12 : ¬ (H 93 (Int.toNat (w32 ((H 64 43) - 1)))) = 10) => ?_, fun (c12 : (H 93 (Int.toNat (w32 ((H 64 43) - 1)))) = 10) => ?_⟩
        · skip
          exact h2 (by omega) (by omega)
        · skip
          refine (show W2 o_X12 M_X12_comesOut (inN [64, 72, 73, 74, 75, 76, 77, 78, 79, 80, 81, 82, 83, 84, 85, 86, 87, 88, 89, 90, 91, 92, 93]) (q + 2) Q 53 [some (mR 69), some (mI z), none] [] (gs H 64 43 (w32 ((H 64 43) - 1))) from ?_)
          refine w2_vc [0, 53] 400 oo_X12 q_X12_comesOut ?_
          refine ⟨(show 0 ≤ (w32 ((H 64 43) - 1)) ∧ (w32 ((H 64 43) - 1)) < ((48 : Nat) : Int) from by first | omega | (simp (disch := omega) only [w32_i]; omega)), ?_⟩
          refine ⟨fun (c13 : ¬ (H 93 (Int.toNat (w32 ((H 64 43) - 1)))) = 8) => ?_, fun (c13 : (H 93 (Int.toNat (w32 ((H 64 43) - 1)))) = 8) => ?_⟩
          · skip
            refine ⟨fun (c14 : ¬ (H 93 (Int.toNat (w32 ((H 64 43) - 1)))) = 9) => ?_, fun (c14 : (H 93 (Int.toNat (w32 ((H 64 43) - 1)))) = 9) => ?_⟩
            · skip
              refine sp_X12_emit (by first | omega | (simp (disch := decide) only [gs_ne, gs_at_ne, gs_at]; omega)) (insub (by decide)) ?_
              have c16 := fx_emit (gs H 64 43 (w32 ((H 64 43) - 1))) 4 0
              refine (show W2 o_X12 M_X12_comesOut (inN [64, 72, 73, 74, 75, 76, 77, 78, 79, 80, 81, 82, 83, 84, 85, 86, 87, 88, 89, 90, 91, 92, 93]) (q + 2) Q 0 [some (mR 69), some (mI z), some (mI (H 93 (Int.toNat (w32 ((H 64 43) - 1)))))] [] (e_X12_emit (gs H 64 43 (w32 ((H 64 43) - 1))) 4 0) from ?_)
              refine WP.fg (L' := [some (mR 69), some (mI z), none]) ⟨rfl, rfl, trivial⟩ ?_
              exact h3 (by omega) (by omega) (by omega) 4 (by first | (rw [if_pos (by omega)]; done) | (rw [if_neg (by omega), if_pos (by omega)]; done) | (rw [if_neg (by omega), if_neg (by omega)]; done))
            · skip
              refine sp_X12_emit (by first | omega | (simp (disch := decide) only [gs_ne, gs_at_ne, gs_at]; omega)) (insub (by decide)) ?_
              have c18 := fx_emit (gs H 64 43 (w32 ((H 64 43) - 1))) 3 0
              refine (show W2 o_X12 M_X12_comesOut (inN [64, 72, 73, 74, 75, 76, 77, 78, 79, 80, 81, 82, 83, 84, 85, 86, 87, 88, 89, 90, 91, 92, 93]) (q + 2) Q 0 [some (mR 69), some (mI z), some (mI (H 93 (Int.toNat (w32 ((H 64 43) - 1)))))] [] (e_X12_emit (gs H 64 43 (w32 ((H 64 43) - 1))) 3 0) from ?_)
              refine WP.fg (L' := [some (mR 69), some (mI z), none]) ⟨rfl, rfl, trivial⟩ ?_
              exact h3 (by omega) (by omega) (by omega) 3 (by first | (rw [if_pos (by omega)]; done) | (rw [if_neg (by omega), if_pos (by omega)]; done) | (rw [if_neg (by omega), if_neg (by omega)]; done))
          · skip
            refine sp_X12_emit (by first | omega | (simp (disch := decide) only [gs_ne, gs_at_ne, gs_at]; omega)) (insub (by decide)) ?_
            have c20 := fx_emit (gs H 64 43 (w32 ((H 64 43) - 1))) 2 0
            refine (show W2 o_X12 M_X12_comesOut (inN [64, 72, 73, 74, 75, 76, 77, 78, 79, 80, 81, 82, 83, 84, 85, 86, 87, 88, 89, 90, 91, 92, 93]) (q + 2) Q 0 [some (mR 69), some (mI z), some (mI (H 93 (Int.toNat (w32 ((H 64 43) - 1)))))] [] (e_X12_emit (gs H 64 43 (w32 ((H 64 43) - 1))) 2 0) from ?_)
            refine WP.fg (L' := [some (mR 69), some (mI z), none]) ⟨rfl, rfl, trivial⟩ ?_
            exact h3 (by omega) (by omega) (by omega) 2 (by first | (rw [if_pos (by omega)]; done) | (rw [if_neg (by omega), if_pos (by omega)]; done) | (rw [if_neg (by omega), if_neg (by omega)]; done))
/-- the sign that a waiting one becomes -/
def rk2 (w : Int) : Int := if w = 8 then 2 else if w = 9 then 3 else 4
/-- comesOut, with j waiting -/
def cO (z : Int) : Nat → mG → mG
  | 0, H => H
  | j + 1, H => if H 93 j = 6 ∨ (¬ z = 0 ∧ ¬ H 93 j = 10) then H else cO z j (e_X12_emit (gs H 64 43 ((j : Nat) : Int)) (rk2 (H 93 j)) 0)
theorem co_loop {q : Nat} {Q : Option mV → mG → Prop} {z : Int} : ∀ (j : Nat) (H : mG), H 64 43 = (j : Int) → j ≤ 48 → 0 ≤ H 64 39 → H 64 39 + (j : Int) < 1400 → Q none (cO z j H) → W2 o_X12 M_X12_comesOut (inN [64, 72, 73, 74, 75, 76, 77, 78, 79, 80, 81, 82, 83, 84, 85, 86, 87, 88, 89, 90, 91, 92, 93]) (q + 2) Q 0 [some (mR 69), some (mI z), none] [] H := by
  intro j
  induction j with
  | zero =>
    intro H h43 _ h0 h1 hQ
    exact co_0 (by omega) (by omega) (fun _ => hQ) (fun y _ => absurd y (by omega)) (fun y _ _ => absurd y (by omega))
  | succ j ih =>
    intro H h43 hj h0 h1 hQ
    have e : w32 ((H 64 43) - 1) = ((j : Nat) : Int) := by rw [h43, w32_i (by omega) (by omega)]; omega
    have hQ2 : Q none (if H 93 j = 6 ∨ (¬ z = 0 ∧ ¬ H 93 j = 10) then H else cO z j (e_X12_emit (gs H 64 43 ((j : Nat) : Int)) (rk2 (H 93 j)) 0)) := hQ
    refine co_0 (by omega) (by omega) (fun y => absurd y (by omega)) (fun _ y => ?_) (fun _ y1 y2 k hk => ?_)
    · rw [e, st_nat] at y
      rw [if_pos y] at hQ2
      exact hQ2
    · rw [e, st_nat] at y1 y2 hk
      rw [if_neg (fun y => y.elim y1 (fun y => y2.elim y.1 y.2))] at hQ2
      rw [e, hk]
      have f1 : (e_X12_emit (gs H 64 43 ((j : Nat) : Int)) (rk2 (H 93 j)) 0) 64 43 = (j : Int) := by
        unfold e_X12_emit
        rw [gs_at_ne (by decide), gs_ne (by decide), gs_ne (by decide), gs_at]
      have f2 : (e_X12_emit (gs H 64 43 ((j : Nat) : Int)) (rk2 (H 93 j)) 0) 64 39 = H 64 39 + 1 := by
        unfold e_X12_emit
        rw [gs_at, gs_at_ne (by decide), w32_i (by omega) (by omega)]
      exact ih _ f1 (by omega) (by omega) (by omega) hQ2
theorem sp_X12_comesOut {D : Nat → Bool} {q m : Nat} {H : mG} {z : Int} {Q : Option mV → mG → Prop} (hD : ∀ k, D k = false → inN [64, 72, 73, 74, 75, 76, 77, 78, 79, 80, 81, 82, 83, 84, 85, 86, 87, 88, 89, 90, 91, 92, 93] k = false) (hm : H 64 43 = (m : Int)) (h48 : m ≤ 48) (h0 : 0 ≤ H 64 39) (h1 : H 64 39 + (m : Int) < 1400) (h : Q none (cO z m H)) : P2 D (q + 2) M_X12_comesOut [mR 69, mI z] H Q := by
  refine MP.to (D2 := inN [64, 72, 73, 74, 75, 76, 77, 78, 79, 80, 81, 82, 83, 84, 85, 86, 87, 88, 89, 90, 91, 92, 93]) (Q2 := Q) ?_ hD (fun v G' q _ => q)
  refine p2_vc [0] 400 oo_X12 q_X12_comesOut (by decide) rfl (Nat.le_of_ble_eq_true rfl) ?_
  exact co_loop m H hm h48 h0 h1 h
theorem cO_fr {z : Int} : ∀ (j : Nat) (H : mG), (∀ k, k ≠ 64 → k ≠ 91 → k ≠ 92 → (cO z j H) k = H k) ∧ (∀ i, i ≠ 39 → i ≠ 43 → (cO z j H) 64 i = H 64 i) := by
  intro j
  induction j with
  | zero => exact fun H => ⟨fun _ _ _ _ => rfl, fun _ _ _ => rfl⟩
  | succ j ih =>
    intro H
    have e : cO z (j + 1) H = if H 93 j = 6 ∨ (¬ z = 0 ∧ ¬ H 93 j = 10) then H else cO z j (e_X12_emit (gs H 64 43 ((j : Nat) : Int)) (rk2 (H 93 j)) 0) := rfl
    rw [e]
    by_cases y : H 93 j = 6 ∨ (¬ z = 0 ∧ ¬ H 93 j = 10)
    · rw [if_pos y]; exact ⟨fun _ _ _ _ => rfl, fun _ _ _ => rfl⟩
    · rw [if_neg y]
      obtain ⟨i1, i2⟩ := ih (e_X12_emit (gs H 64 43 ((j : Nat) : Int)) (rk2 (H 93 j)) 0)
      refine ⟨fun k h1 h2 h3 => ?_, fun i h1 h2 => ?_⟩
      · rw [i1 k h1 h2 h3]; unfold e_X12_emit; rw [gs_ne h1, gs_ne h3, gs_ne h2, gs_ne h1]
      · rw [i2 i h1 h2]; unfold e_X12_emit; rw [gs_at_ne h1, gs_ne (by decide), gs_ne (by decide), gs_at_ne h2]
set_option maxHeartbeats 8000000 in
theorem ex_0 {D : Nat → Bool} {q : Nat} {H : mG} {Q : Option mV → mG → Prop} (hD : ∀ k, D k = false → inN [64, 72, 73, 74, 75, 76, 77, 78, 79, 80, 81, 82, 83, 84, 85, 86, 87, 88, 89, 90, 91, 92, 93] k = false) (h : W2 o_X12 M_X12_expression (inN [64, 72, 73, 74, 75, 76, 77, 78, 79, 80, 81, 82, 83, 84, 85, 86, 87, 88, 89, 90, 91, 92, 93]) (q + 5) Q 12 [some (mR 69), some (mI (H 64 12)), some (mI 1), none, none] [] (gs H 64 43 0)) : P2 D (q + 5) M_X12_expression [mR 69] H Q := by
  refine MP.to (D2 := inN [64, 72, 73, 74, 75, 76, 77, 78, 79, 80, 81, 82, 83, 84, 85, 86, 87, 88, 89, 90, 91, 92, 93]) (Q2 := Q) ?_ hD (fun v G' q _ => q)
  refine p2_vc [5, 12] 400 oo_X12 q_X12_expression (by decide) rfl (Nat.le_of_ble_eq_true rfl) ?_
  refine (show W2 o_X12 M_X12_expression (inN [64, 72, 73, 74, 75, 76, 77, 78, 79, 80, 81, 82, 83, 84, 85, 86, 87, 88, 89, 90, 91, 92, 93]) (q + 5) Q 5 [some (mR 69), none, none, none, none] [] (gs H 64 43 0) from ?_)
  refine w2_vc [5, 12] 400 oo_X12 q_X12_expression ?_
  refine (show W2 o_X12 M_X12_expression (inN [64, 72, 73, 74, 75, 76, 77, 78, 79, 80, 81, 82, 83, 84, 85, 86, 87, 88, 89, 90, 91, 92, 93]) (q + 5) Q 12 [some (mR 69), some (mI (H 64 12)), some (mI 1), none, none] [] (gs H 64 43 0) from ?_)
  exact h
set_option maxHeartbeats 8000000 in
theorem ex_12b {q : Nat} {H : mG} {Q : Option mV → mG → Prop} {B : Int} (hf : ¬ H 64 13 = 0) (h : Q none H) : W2 o_X12 M_X12_expression (inN [64, 72, 73, 74, 75, 76, 77, 78, 79, 80, 81, 82, 83, 84, 85, 86, 87, 88, 89, 90, 91, 92, 93]) (q + 5) Q 12 [some (mR 69), some (mI B), some (mI 1), none, none] [] H := by
  refine w2_vc [23] 400 oo_X12 q_X12_expression ?_
  refine ⟨fun (c : (1 : Int) = 0) => absurd c (by decide), fun _ => ?_⟩
  refine ⟨fun (c1 : ¬ (H 64 13) = 0) => ?_, fun (c1 : (H 64 13) = 0) => ?_⟩
  · skip
    exact h
  · skip
    refine (show W2 o_X12 M_X12_expression (inN [64, 72, 73, 74, 75, 76, 77, 78, 79, 80, 81, 82, 83, 84, 85, 86, 87, 88, 89, 90, 91, 92, 93]) (q + 5) Q 23 [some (mR 69), some (mI B), some (mI 1), none, none] [] H from ?_)
    exfalso; omega
theorem nx_43 (G : mG) : (e_X12_next G) 64 43 = G 64 43 := by
  unfold e_X12_next
  by_cases z : G 64 11 = 600
  · rw [if_neg (fun y => y z), (fx_fail G 2).2.2.2.2.1]
  · rw [if_pos z, gs_at_ne (by decide)]
set_option maxHeartbeats 8000000 in
theorem ex_12 {q : Nat} {H : mG} {Q : Option mV → mG → Prop} {B : Int} (hf : H 64 13 = 0) (hT : 0 ≤ H 64 11 ∧ H 64 11 ≤ 600) (hw : 0 ≤ H 64 43 ∧ H 64 43 ≤ 46) (hc : 0 ≤ H 64 39 ∧ H 64 39 < 1400) (ho : 0 ≤ H 64 12 ∧ H 64 12 ≤ 6) (h1 : (H 67 (Int.toNat (H 64 11))) = 6 → H 64 12 = 6 → Q none (e_X12_fail H 2)) (h2 : (H 67 (Int.toNat (H 64 11))) = 6 → ¬ H 64 12 = 6 → W2 o_X12 M_X12_expression (inN [64, 72, 73, 74, 75, 76, 77, 78, 79, 80, 81, 82, 83, 84, 85, 86, 87, 88, 89, 90, 91, 92, 93]) (q + 5) Q 12 [some (mR 69), some (mI B), some (mI 1), none, none] [] (gs (gs (e_X12_next (gs H 64 12 (w32 ((H 64 12) + 1)))) 93 (Int.toNat ((e_X12_next (gs H 64 12 (w32 ((H 64 12) + 1)))) 64 43)) 6) 64 43 (w32 (((e_X12_next (gs H 64 12 (w32 ((H 64 12) + 1)))) 64 43) + 1)))) (h3 : ¬ (H 67 (Int.toNat (H 64 11))) = 6 → ¬ (H 67 (Int.toNat (H 64 11))) = 2 → ¬ (34 ≤ (H 67 (Int.toNat (H 64 11))) ∧ (H 67 (Int.toNat (H 64 11))) ≤ 39) → Q none (e_X12_fail H 1)) (h4 : 34 ≤ (H 67 (Int.toNat (H 64 11))) ∧ (H 67 (Int.toNat (H 64 11))) ≤ 39 → W2 o_X12 M_X12_expression (inN [64, 72, 73, 74, 75, 76, 77, 78, 79, 80, 81, 82, 83, 84, 85, 86, 87, 88, 89, 90, 91, 92, 93]) (q + 5) Q 200 [some (mR 69), some (mI B), none, none, none] [] (e_X12_next (e_X12_emit H 1 (w32 ((H 67 (Int.toNat (H 64 11))) - 34))))) (h5 : (H 67 (Int.toNat (H 64 11))) = 2 → W2 o_X12 M_X12_expression (inN [64, 72, 73, 74, 75, 76, 77, 78, 79, 80, 81, 82, 83, 84, 85, 86, 87, 88, 89, 90, 91, 92, 93]) (q + 5) Q 200 [some (mR 69), some (mI B), none, none, none] [] (e_X12_next (e_X12_emit H 0 (H 69 (Int.toNat (H 64 11)))))) : W2 o_X12 M_X12_expression (inN [64, 72, 73, 74, 75, 76, 77, 78, 79, 80, 81, 82, 83, 84, 85, 86, 87, 88, 89, 90, 91, 92, 93]) (q + 5) Q 12 [some (mR 69), some (mI B), some (mI 1), none, none] [] H := by
  refine w2_vc [12, 64, 68, 79, 89, 200] 400 oo_X12 q_X12_expression ?_
  refine ⟨fun (c : (1 : Int) = 0) => absurd c (by decide), fun _ => ?_⟩
  refine ⟨fun (c1 : ¬ (H 64 13) = 0) => ?_, fun (c1 : (H 64 13) = 0) => ?_⟩
  · skip
    exfalso; omega
  · skip
    refine sp_X12_is (by first | omega | (simp (disch := decide) only [gs_ne, gs_at_ne, gs_at]; omega)) ?_
    have c3 := fa_X12_is H 6
    refine ⟨fun (c4 : (f_X12_is H 6) = 0) => ?_, fun (c4 : ¬ (f_X12_is H 6) = 0) => ?_⟩
    · skip
      refine ⟨fun (c5 : ¬ (H 64 13) = 0) => ?_, fun (c5 : (H 64 13) = 0) => ?_⟩
      · skip
        refine sp_X12_is (by first | omega | (simp (disch := decide) only [gs_ne, gs_at_ne, gs_at]; omega)) ?_
        have c7 := fa_X12_is H 2
        refine ⟨fun (c8 : ¬ (f_X12_is H 2) = 0) => ?_, fun (c8 : (f_X12_is H 2) = 0) => ?_⟩
        · skip
          refine ⟨fun (c9 : (H 64 13) ≤ 0) => ?_, fun (c9 : 0 < (H 64 13)) => ?_⟩
          · skip
            refine ⟨fun _ => ?_, fun (c : ¬ (0 : Int) = 0) => absurd c (by decide)⟩
            refine ⟨(show 0 ≤ (H 64 11) ∧ (H 64 11) < ((603 : Nat) : Int) from by first | omega | (simp (disch := omega) only [w32_i]; omega)), ?_⟩
            refine sp_X12_emit (by first | omega | (simp (disch := decide) only [gs_ne, gs_at_ne, gs_at]; omega)) (insub (by decide)) ?_
            have c11 := fx_emit H 0 (H 69 (Int.toNat (H 64 11)))
            have y0 := nx_43 (e_X12_emit H 0 (H 69 (Int.toNat (H 64 11))))
            refine sp_X12_next (by first | omega | (simp (disch := decide) only [gs_ne, gs_at_ne, gs_at]; omega)) (insub (by decide)) ?_
            have c12 := fx_next (e_X12_emit H 0 (H 69 (Int.toNat (H 64 11))))
            refine (show W2 o_X12 M_X12_expression (inN [64, 72, 73, 74, 75, 76, 77, 78, 79, 80, 81, 82, 83, 84, 85, 86, 87, 88, 89, 90, 91, 92, 93]) (q + 5) Q 200 [some (mR 69), some (mI B), some (mI 1), some (mI 0), none] [] (e_X12_next (e_X12_emit H 0 (H 69 (Int.toNat (H 64 11))))) from ?_)
            refine WP.fg (L' := [some (mR 69), some (mI B), none, none, none]) ⟨rfl, rfl, trivial⟩ ?_
            exact h5 (by omega)
          · skip
            exfalso; omega
        · skip
          refine ⟨fun (c : ¬ (0 : Int) = 0) => absurd c (by decide), fun _ => ?_⟩
          refine sp_X12_fail (by first | omega | (simp (disch := decide) only [gs_ne, gs_at_ne, gs_at]; omega)) (insub (by decide)) ?_
          have c14 := fx_fail H 1
          refine ⟨fun (c15 : ((e_X12_fail H 1) 64 13) ≤ 0) => ?_, fun (c15 : 0 < ((e_X12_fail H 1) 64 13)) => ?_⟩
          · skip
            refine ⟨fun _ => ?_, fun (c : ¬ (0 : Int) = 0) => absurd c (by decide)⟩
            refine ⟨(show 0 ≤ ((e_X12_fail H 1) 64 11) ∧ ((e_X12_fail H 1) 64 11) < ((603 : Nat) : Int) from by first | omega | (simp (disch := omega) only [w32_i]; omega)), ?_⟩
            refine sp_X12_emit (by first | omega | (simp (disch := decide) only [gs_ne, gs_at_ne, gs_at]; omega)) (insub (by decide)) ?_
            have c17 := fx_emit (e_X12_fail H 1) 0 ((e_X12_fail H 1) 69 (Int.toNat ((e_X12_fail H 1) 64 11)))
            have y0 := nx_43 (e_X12_emit (e_X12_fail H 1) 0 ((e_X12_fail H 1) 69 (Int.toNat ((e_X12_fail H 1) 64 11))))
            refine sp_X12_next (by first | omega | (simp (disch := decide) only [gs_ne, gs_at_ne, gs_at]; omega)) (insub (by decide)) ?_
            have c18 := fx_next (e_X12_emit (e_X12_fail H 1) 0 ((e_X12_fail H 1) 69 (Int.toNat ((e_X12_fail H 1) 64 11))))
            refine (show W2 o_X12 M_X12_expression (inN [64, 72, 73, 74, 75, 76, 77, 78, 79, 80, 81, 82, 83, 84, 85, 86, 87, 88, 89, 90, 91, 92, 93]) (q + 5) Q 200 [some (mR 69), some (mI B), some (mI 1), some (mI 0), none] [] (e_X12_next (e_X12_emit (e_X12_fail H 1) 0 ((e_X12_fail H 1) 69 (Int.toNat ((e_X12_fail H 1) 64 11))))) from ?_)
            exfalso; omega
          · skip
            exact h3 (by omega) (by omega) (by omega)
      · skip
        refine ⟨(show 0 ≤ (H 64 11) ∧ (H 64 11) < ((603 : Nat) : Int) from by first | omega | (simp (disch := omega) only [w32_i]; omega)), ?_⟩
        refine ⟨fun (c19 : (H 67 (Int.toNat (H 64 11))) < 34) => ?_, fun (c19 : 34 ≤ (H 67 (Int.toNat (H 64 11)))) => ?_⟩
        · skip
          refine sp_X12_is (by first | omega | (simp (disch := decide) only [gs_ne, gs_at_ne, gs_at]; omega)) ?_
          have c21 := fa_X12_is H 2
          refine ⟨fun (c22 : ¬ (f_X12_is H 2) = 0) => ?_, fun (c22 : (f_X12_is H 2) = 0) => ?_⟩
          · skip
            refine ⟨fun (c23 : (H 64 13) ≤ 0) => ?_, fun (c23 : 0 < (H 64 13)) => ?_⟩
            · skip
              refine ⟨fun _ => ?_, fun (c : ¬ (0 : Int) = 0) => absurd c (by decide)⟩
              refine ⟨(show 0 ≤ (H 64 11) ∧ (H 64 11) < ((603 : Nat) : Int) from by first | omega | (simp (disch := omega) only [w32_i]; omega)), ?_⟩
              refine sp_X12_emit (by first | omega | (simp (disch := decide) only [gs_ne, gs_at_ne, gs_at]; omega)) (insub (by decide)) ?_
              have c25 := fx_emit H 0 (H 69 (Int.toNat (H 64 11)))
              have y0 := nx_43 (e_X12_emit H 0 (H 69 (Int.toNat (H 64 11))))
              refine sp_X12_next (by first | omega | (simp (disch := decide) only [gs_ne, gs_at_ne, gs_at]; omega)) (insub (by decide)) ?_
              have c26 := fx_next (e_X12_emit H 0 (H 69 (Int.toNat (H 64 11))))
              refine (show W2 o_X12 M_X12_expression (inN [64, 72, 73, 74, 75, 76, 77, 78, 79, 80, 81, 82, 83, 84, 85, 86, 87, 88, 89, 90, 91, 92, 93]) (q + 5) Q 200 [some (mR 69), some (mI B), some (mI 1), some (mI 0), none] [] (e_X12_next (e_X12_emit H 0 (H 69 (Int.toNat (H 64 11))))) from ?_)
              refine WP.fg (L' := [some (mR 69), some (mI B), none, none, none]) ⟨rfl, rfl, trivial⟩ ?_
              exact h5 (by omega)
            · skip
              exfalso; omega
          · skip
            refine ⟨fun (c : ¬ (0 : Int) = 0) => absurd c (by decide), fun _ => ?_⟩
            refine sp_X12_fail (by first | omega | (simp (disch := decide) only [gs_ne, gs_at_ne, gs_at]; omega)) (insub (by decide)) ?_
            have c28 := fx_fail H 1
            refine ⟨fun (c29 : ((e_X12_fail H 1) 64 13) ≤ 0) => ?_, fun (c29 : 0 < ((e_X12_fail H 1) 64 13)) => ?_⟩
            · skip
              refine ⟨fun _ => ?_, fun (c : ¬ (0 : Int) = 0) => absurd c (by decide)⟩
              refine ⟨(show 0 ≤ ((e_X12_fail H 1) 64 11) ∧ ((e_X12_fail H 1) 64 11) < ((603 : Nat) : Int) from by first | omega | (simp (disch := omega) only [w32_i]; omega)), ?_⟩
              refine sp_X12_emit (by first | omega | (simp (disch := decide) only [gs_ne, gs_at_ne, gs_at]; omega)) (insub (by decide)) ?_
              have c31 := fx_emit (e_X12_fail H 1) 0 ((e_X12_fail H 1) 69 (Int.toNat ((e_X12_fail H 1) 64 11)))
              have y0 := nx_43 (e_X12_emit (e_X12_fail H 1) 0 ((e_X12_fail H 1) 69 (Int.toNat ((e_X12_fail H 1) 64 11))))
              refine sp_X12_next (by first | omega | (simp (disch := decide) only [gs_ne, gs_at_ne, gs_at]; omega)) (insub (by decide)) ?_
              have c32 := fx_next (e_X12_emit (e_X12_fail H 1) 0 ((e_X12_fail H 1) 69 (Int.toNat ((e_X12_fail H 1) 64 11))))
              refine (show W2 o_X12 M_X12_expression (inN [64, 72, 73, 74, 75, 76, 77, 78, 79, 80, 81, 82, 83, 84, 85, 86, 87, 88, 89, 90, 91, 92, 93]) (q + 5) Q 200 [some (mR 69), some (mI B), some (mI 1), some (mI 0), none] [] (e_X12_next (e_X12_emit (e_X12_fail H 1) 0 ((e_X12_fail H 1) 69 (Int.toNat ((e_X12_fail H 1) 64 11))))) from ?_)
              exfalso; omega
            · skip
              exact h3 (by omega) (by omega) (by omega)
        · skip
          refine ⟨(show 0 ≤ (H 64 11) ∧ (H 64 11) < ((603 : Nat) : Int) from by first | omega | (simp (disch := omega) only [w32_i]; omega)), ?_⟩
          refine ⟨fun (c33 : 39 < (H 67 (Int.toNat (H 64 11)))) => ?_, fun (c33 : (H 67 (Int.toNat (H 64 11))) ≤ 39) => ?_⟩
          · skip
            refine sp_X12_is (by first | omega | (simp (disch := decide) only [gs_ne, gs_at_ne, gs_at]; omega)) ?_
            have c35 := fa_X12_is H 2
            refine ⟨fun (c36 : ¬ (f_X12_is H 2) = 0) => ?_, fun (c36 : (f_X12_is H 2) = 0) => ?_⟩
            · skip
              refine ⟨fun (c37 : (H 64 13) ≤ 0) => ?_, fun (c37 : 0 < (H 64 13)) => ?_⟩
              · skip
                refine ⟨fun _ => ?_, fun (c : ¬ (0 : Int) = 0) => absurd c (by decide)⟩
                refine ⟨(show 0 ≤ (H 64 11) ∧ (H 64 11) < ((603 : Nat) : Int) from by first | omega | (simp (disch := omega) only [w32_i]; omega)), ?_⟩
                refine sp_X12_emit (by first | omega | (simp (disch := decide) only [gs_ne, gs_at_ne, gs_at]; omega)) (insub (by decide)) ?_
                have c39 := fx_emit H 0 (H 69 (Int.toNat (H 64 11)))
                have y0 := nx_43 (e_X12_emit H 0 (H 69 (Int.toNat (H 64 11))))
                refine sp_X12_next (by first | omega | (simp (disch := decide) only [gs_ne, gs_at_ne, gs_at]; omega)) (insub (by decide)) ?_
                have c40 := fx_next (e_X12_emit H 0 (H 69 (Int.toNat (H 64 11))))
                refine (show W2 o_X12 M_X12_expression (inN [64, 72, 73, 74, 75, 76, 77, 78, 79, 80, 81, 82, 83, 84, 85, 86, 87, 88, 89, 90, 91, 92, 93]) (q + 5) Q 200 [some (mR 69), some (mI B), some (mI 1), some (mI 0), none] [] (e_X12_next (e_X12_emit H 0 (H 69 (Int.toNat (H 64 11))))) from ?_)
                refine WP.fg (L' := [some (mR 69), some (mI B), none, none, none]) ⟨rfl, rfl, trivial⟩ ?_
                exact h5 (by omega)
              · skip
                exfalso; omega
            · skip
              refine ⟨fun (c : ¬ (0 : Int) = 0) => absurd c (by decide), fun _ => ?_⟩
              refine sp_X12_fail (by first | omega | (simp (disch := decide) only [gs_ne, gs_at_ne, gs_at]; omega)) (insub (by decide)) ?_
              have c42 := fx_fail H 1
              refine ⟨fun (c43 : ((e_X12_fail H 1) 64 13) ≤ 0) => ?_, fun (c43 : 0 < ((e_X12_fail H 1) 64 13)) => ?_⟩
              · skip
                refine ⟨fun _ => ?_, fun (c : ¬ (0 : Int) = 0) => absurd c (by decide)⟩
                refine ⟨(show 0 ≤ ((e_X12_fail H 1) 64 11) ∧ ((e_X12_fail H 1) 64 11) < ((603 : Nat) : Int) from by first | omega | (simp (disch := omega) only [w32_i]; omega)), ?_⟩
                refine sp_X12_emit (by first | omega | (simp (disch := decide) only [gs_ne, gs_at_ne, gs_at]; omega)) (insub (by decide)) ?_
                have c45 := fx_emit (e_X12_fail H 1) 0 ((e_X12_fail H 1) 69 (Int.toNat ((e_X12_fail H 1) 64 11)))
                have y0 := nx_43 (e_X12_emit (e_X12_fail H 1) 0 ((e_X12_fail H 1) 69 (Int.toNat ((e_X12_fail H 1) 64 11))))
                refine sp_X12_next (by first | omega | (simp (disch := decide) only [gs_ne, gs_at_ne, gs_at]; omega)) (insub (by decide)) ?_
                have c46 := fx_next (e_X12_emit (e_X12_fail H 1) 0 ((e_X12_fail H 1) 69 (Int.toNat ((e_X12_fail H 1) 64 11))))
                refine (show W2 o_X12 M_X12_expression (inN [64, 72, 73, 74, 75, 76, 77, 78, 79, 80, 81, 82, 83, 84, 85, 86, 87, 88, 89, 90, 91, 92, 93]) (q + 5) Q 200 [some (mR 69), some (mI B), some (mI 1), some (mI 0), none] [] (e_X12_next (e_X12_emit (e_X12_fail H 1) 0 ((e_X12_fail H 1) 69 (Int.toNat ((e_X12_fail H 1) 64 11))))) from ?_)
                exfalso; omega
              · skip
                exact h3 (by omega) (by omega) (by omega)
          · skip
            refine sp_X12_is (by first | omega | (simp (disch := decide) only [gs_ne, gs_at_ne, gs_at]; omega)) ?_
            have c48 := fa_X12_is H 2
            refine ⟨fun (c49 : ¬ (f_X12_is H 2) = 0) => ?_, fun (c49 : (f_X12_is H 2) = 0) => ?_⟩
            · skip
              refine ⟨fun (c50 : (H 64 13) ≤ 0) => ?_, fun (c50 : 0 < (H 64 13)) => ?_⟩
              · skip
                refine ⟨fun (c : (1 : Int) = 0) => absurd c (by decide), fun _ => ?_⟩
                refine ⟨(show 0 ≤ (H 64 11) ∧ (H 64 11) < ((603 : Nat) : Int) from by first | omega | (simp (disch := omega) only [w32_i]; omega)), ?_⟩
                refine sp_X12_emit (by first | omega | (simp (disch := decide) only [gs_ne, gs_at_ne, gs_at]; omega)) (insub (by decide)) ?_
                have c52 := fx_emit H 1 (w32 ((H 67 (Int.toNat (H 64 11))) - 34))
                have y0 := nx_43 (e_X12_emit H 1 (w32 ((H 67 (Int.toNat (H 64 11))) - 34)))
                refine sp_X12_next (by first | omega | (simp (disch := decide) only [gs_ne, gs_at_ne, gs_at]; omega)) (insub (by decide)) ?_
                have c53 := fx_next (e_X12_emit H 1 (w32 ((H 67 (Int.toNat (H 64 11))) - 34)))
                refine (show W2 o_X12 M_X12_expression (inN [64, 72, 73, 74, 75, 76, 77, 78, 79, 80, 81, 82, 83, 84, 85, 86, 87, 88, 89, 90, 91, 92, 93]) (q + 5) Q 200 [some (mR 69), some (mI B), some (mI 1), some (mI 1), none] [] (e_X12_next (e_X12_emit H 1 (w32 ((H 67 (Int.toNat (H 64 11))) - 34)))) from ?_)
                refine WP.fg (L' := [some (mR 69), some (mI B), none, none, none]) ⟨rfl, rfl, trivial⟩ ?_
                exact h4 (by omega)
              · skip
                exfalso; omega
            · skip
              refine ⟨fun _ => ?_, fun (c : (1 : Int) = 0) => absurd c (by decide)⟩
              refine ⟨fun (c54 : (H 64 13) ≤ 0) => ?_, fun (c54 : 0 < (H 64 13)) => ?_⟩
              · skip
                refine ⟨fun (c : (1 : Int) = 0) => absurd c (by decide), fun _ => ?_⟩
                refine ⟨(show 0 ≤ (H 64 11) ∧ (H 64 11) < ((603 : Nat) : Int) from by first | omega | (simp (disch := omega) only [w32_i]; omega)), ?_⟩
                refine sp_X12_emit (by first | omega | (simp (disch := decide) only [gs_ne, gs_at_ne, gs_at]; omega)) (insub (by decide)) ?_
                have c56 := fx_emit H 1 (w32 ((H 67 (Int.toNat (H 64 11))) - 34))
                have y0 := nx_43 (e_X12_emit H 1 (w32 ((H 67 (Int.toNat (H 64 11))) - 34)))
                refine sp_X12_next (by first | omega | (simp (disch := decide) only [gs_ne, gs_at_ne, gs_at]; omega)) (insub (by decide)) ?_
                have c57 := fx_next (e_X12_emit H 1 (w32 ((H 67 (Int.toNat (H 64 11))) - 34)))
                refine (show W2 o_X12 M_X12_expression (inN [64, 72, 73, 74, 75, 76, 77, 78, 79, 80, 81, 82, 83, 84, 85, 86, 87, 88, 89, 90, 91, 92, 93]) (q + 5) Q 200 [some (mR 69), some (mI B), some (mI 1), some (mI 1), none] [] (e_X12_next (e_X12_emit H 1 (w32 ((H 67 (Int.toNat (H 64 11))) - 34)))) from ?_)
                refine WP.fg (L' := [some (mR 69), some (mI B), none, none, none]) ⟨rfl, rfl, trivial⟩ ?_
                exact h4 (by omega)
              · skip
                exfalso; omega
    · skip
      refine ⟨fun (c58 : ¬ (H 64 12) = 6) => ?_, fun (c58 : (H 64 12) = 6) => ?_⟩
      · skip
        refine ⟨fun (c59 : (H 64 13) ≤ 0) => ?_, fun (c59 : 0 < (H 64 13)) => ?_⟩
        · skip
          refine (show W2 o_X12 M_X12_expression (inN [64, 72, 73, 74, 75, 76, 77, 78, 79, 80, 81, 82, 83, 84, 85, 86, 87, 88, 89, 90, 91, 92, 93]) (q + 5) Q 64 [some (mR 69), some (mI B), some (mI 1), none, none] [] (gs H 64 12 (w32 ((H 64 12) + 1))) from ?_)
          refine w2_vc [12, 64, 68, 79, 89, 200] 400 oo_X12 q_X12_expression ?_
          have y0 := nx_43 (gs H 64 12 (w32 ((H 64 12) + 1)))
          refine sp_X12_next (by first | omega | (simp (disch := decide) only [gs_ne, gs_at_ne, gs_at]; omega)) (insub (by decide)) ?_
          have c60 := fx_next (gs H 64 12 (w32 ((H 64 12) + 1)))
          have y1 : (gs H 64 12 (w32 ((H 64 12) + 1))) 64 43 = H 64 43 := gs_at_ne (by decide)
          refine (show W2 o_X12 M_X12_expression (inN [64, 72, 73, 74, 75, 76, 77, 78, 79, 80, 81, 82, 83, 84, 85, 86, 87, 88, 89, 90, 91, 92, 93]) (q + 5) Q 68 [some (mR 69), some (mI B), some (mI 1), none, none] [] (e_X12_next (gs H 64 12 (w32 ((H 64 12) + 1)))) from ?_)
          refine w2_vc [12, 64, 68, 79, 89, 200] 400 oo_X12 q_X12_expression ?_
          refine ⟨(show 0 ≤ ((e_X12_next (gs H 64 12 (w32 ((H 64 12) + 1)))) 64 43) ∧ ((e_X12_next (gs H 64 12 (w32 ((H 64 12) + 1)))) 64 43) < ((48 : Nat) : Int) from by first | omega | (simp (disch := omega) only [w32_i]; omega)), ?_⟩
          refine (show W2 o_X12 M_X12_expression (inN [64, 72, 73, 74, 75, 76, 77, 78, 79, 80, 81, 82, 83, 84, 85, 86, 87, 88, 89, 90, 91, 92, 93]) (q + 5) Q 79 [some (mR 69), some (mI B), some (mI 1), none, none] [] (gs (e_X12_next (gs H 64 12 (w32 ((H 64 12) + 1)))) 93 (Int.toNat ((e_X12_next (gs H 64 12 (w32 ((H 64 12) + 1)))) 64 43)) 6) from ?_)
          refine w2_vc [12, 64, 68, 79, 89, 200] 400 oo_X12 q_X12_expression ?_
          refine (show W2 o_X12 M_X12_expression (inN [64, 72, 73, 74, 75, 76, 77, 78, 79, 80, 81, 82, 83, 84, 85, 86, 87, 88, 89, 90, 91, 92, 93]) (q + 5) Q 89 [some (mR 69), some (mI B), some (mI 1), none, none] [] (gs (gs (e_X12_next (gs H 64 12 (w32 ((H 64 12) + 1)))) 93 (Int.toNat ((e_X12_next (gs H 64 12 (w32 ((H 64 12) + 1)))) 64 43)) 6) 64 43 (w32 (((e_X12_next (gs H 64 12 (w32 ((H 64 12) + 1)))) 64 43) + 1))) from ?_)
          refine w2_vc [12, 64, 68, 79, 89, 200] 400 oo_X12 q_X12_expression ?_
          refine (show W2 o_X12 M_X12_expression (inN [64, 72, 73, 74, 75, 76, 77, 78, 79, 80, 81, 82, 83, 84, 85, 86, 87, 88, 89, 90, 91, 92, 93]) (q + 5) Q 12 [some (mR 69), some (mI B), some (mI 1), none, none] [] (gs (gs (e_X12_next (gs H 64 12 (w32 ((H 64 12) + 1)))) 93 (Int.toNat ((e_X12_next (gs H 64 12 (w32 ((H 64 12) + 1)))) 64 43)) 6) 64 43 (w32 (((e_X12_next (gs H 64 12 (w32 ((H 64 12) + 1)))) 64 43) + 1))) from ?_)
          exact h2 (by omega) (by omega)
        · skip
          exfalso; omega
      · skip
        refine sp_X12_fail (by first | omega | (simp (disch := decide) only [gs_ne, gs_at_ne, gs_at]; omega)) (insub (by decide)) ?_
        have c62 := fx_fail H 2
        refine ⟨fun (c63 : ((e_X12_fail H 2) 64 13) ≤ 0) => ?_, fun (c63 : 0 < ((e_X12_fail H 2) 64 13)) => ?_⟩
        · skip
          refine (show W2 o_X12 M_X12_expression (inN [64, 72, 73, 74, 75, 76, 77, 78, 79, 80, 81, 82, 83, 84, 85, 86, 87, 88, 89, 90, 91, 92, 93]) (q + 5) Q 64 [some (mR 69), some (mI B), some (mI 1), none, none] [] (gs (e_X12_fail H 2) 64 12 (w32 (((e_X12_fail H 2) 64 12) + 1))) from ?_)
          refine w2_vc [12, 64, 68, 79, 89, 200] 400 oo_X12 q_X12_expression ?_
          have y0 := nx_43 (gs (e_X12_fail H 2) 64 12 (w32 (((e_X12_fail H 2) 64 12) + 1)))
          refine sp_X12_next (by first | omega | (simp (disch := decide) only [gs_ne, gs_at_ne, gs_at]; omega)) (insub (by decide)) ?_
          have c64 := fx_next (gs (e_X12_fail H 2) 64 12 (w32 (((e_X12_fail H 2) 64 12) + 1)))
          refine (show W2 o_X12 M_X12_expression (inN [64, 72, 73, 74, 75, 76, 77, 78, 79, 80, 81, 82, 83, 84, 85, 86, 87, 88, 89, 90, 91, 92, 93]) (q + 5) Q 68 [some (mR 69), some (mI B), some (mI 1), none, none] [] (e_X12_next (gs (e_X12_fail H 2) 64 12 (w32 (((e_X12_fail H 2) 64 12) + 1)))) from ?_)
          refine w2_vc [12, 64, 68, 79, 89, 200] 400 oo_X12 q_X12_expression ?_
          refine ⟨(show 0 ≤ ((e_X12_next (gs (e_X12_fail H 2) 64 12 (w32 (((e_X12_fail H 2) 64 12) + 1)))) 64 43) ∧ ((e_X12_next (gs (e_X12_fail H 2) 64 12 (w32 (((e_X12_fail H 2) 64 12) + 1)))) 64 43) < ((48 : Nat) : Int) from by first | omega | (simp (disch := omega) only [w32_i]; omega)), ?_⟩
          refine (show W2 o_X12 M_X12_expression (inN [64, 72, 73, 74, 75, 76, 77, 78, 79, 80, 81, 82, 83, 84, 85, 86, 87, 88, 89, 90, 91, 92, 93]) (q + 5) Q 79 [some (mR 69), some (mI B), some (mI 1), none, none] [] (gs (e_X12_next (gs (e_X12_fail H 2) 64 12 (w32 (((e_X12_fail H 2) 64 12) + 1)))) 93 (Int.toNat ((e_X12_next (gs (e_X12_fail H 2) 64 12 (w32 (((e_X12_fail H 2) 64 12) + 1)))) 64 43)) 6) from ?_)
          refine w2_vc [12, 64, 68, 79, 89, 200] 400 oo_X12 q_X12_expression ?_
          refine (show W2 o_X12 M_X12_expression (inN [64, 72, 73, 74, 75, 76, 77, 78, 79, 80, 81, 82, 83, 84, 85, 86, 87, 88, 89, 90, 91, 92, 93]) (q + 5) Q 89 [some (mR 69), some (mI B), some (mI 1), none, none] [] (gs (gs (e_X12_next (gs (e_X12_fail H 2) 64 12 (w32 (((e_X12_fail H 2) 64 12) + 1)))) 93 (Int.toNat ((e_X12_next (gs (e_X12_fail H 2) 64 12 (w32 (((e_X12_fail H 2) 64 12) + 1)))) 64 43)) 6) 64 43 (w32 (((e_X12_next (gs (e_X12_fail H 2) 64 12 (w32 (((e_X12_fail H 2) 64 12) + 1)))) 64 43) + 1))) from ?_)
          refine w2_vc [12, 64, 68, 79, 89, 200] 400 oo_X12 q_X12_expression ?_
          refine (show W2 o_X12 M_X12_expression (inN [64, 72, 73, 74, 75, 76, 77, 78, 79, 80, 81, 82, 83, 84, 85, 86, 87, 88, 89, 90, 91, 92, 93]) (q + 5) Q 12 [some (mR 69), some (mI B), some (mI 1), none, none] [] (gs (gs (e_X12_next (gs (e_X12_fail H 2) 64 12 (w32 (((e_X12_fail H 2) 64 12) + 1)))) 93 (Int.toNat ((e_X12_next (gs (e_X12_fail H 2) 64 12 (w32 (((e_X12_fail H 2) 64 12) + 1)))) 64 43)) 6) 64 43 (w32 (((e_X12_next (gs (e_X12_fail H 2) 64 12 (w32 (((e_X12_fail H 2) 64 12) + 1)))) 64 43) + 1))) from ?_)
          exfalso; omega
        · skip
          exact h1 (by omega) (by omega)
set_option maxHeartbeats 8000000 in
theorem ex_200 {q : Nat} {H : mG} {Q : Option mV → mG → Prop} {B : Int} {m : Nat} (hT : 0 ≤ H 64 11 ∧ H 64 11 ≤ 600) (hf : 0 ≤ H 64 13) (hw : H 64 43 = (m : Int)) (hm : m ≤ 46) (h43 : ∀ z : Int, (z = 0 ∨ z = 1) → 0 ≤ (cO z m H) 64 43 ∧ (cO z m H) 64 43 ≤ 46) (hc : 0 ≤ H 64 39 ∧ H 64 39 + (m : Int) < 1400) (ho : 0 ≤ H 64 12 ∧ H 64 12 ≤ 6) (h1 : H 64 13 = 0 → (H 67 (Int.toNat (H 64 11))) = 7 → B < H 64 12 → ∀ A, cO 0 m H = A → W2 o_X12 M_X12_expression (inN [64, 72, 73, 74, 75, 76, 77, 78, 79, 80, 81, 82, 83, 84, 85, 86, 87, 88, 89, 90, 91, 92, 93]) (q + 5) Q 200 [some (mR 69), some (mI B), none, none, none] [] (e_X12_next (gs (gs A 64 43 (w32 ((A 64 43) - 1))) 64 12 (w32 ((A 64 12) - 1))))) (h2 : ¬ (H 64 13 = 0 ∧ (H 67 (Int.toNat (H 64 11))) = 7 ∧ B < H 64 12) → ¬ (H 64 13 = 0 ∧ ((H 67 (Int.toNat (H 64 11))) = 8 ∨ (H 67 (Int.toNat (H 64 11))) = 9 ∨ (H 67 (Int.toNat (H 64 11))) = 10)) → B < H 64 12 → Q none (cO 0 m (e_X12_fail H 1))) (h3 : ¬ (H 64 13 = 0 ∧ (H 67 (Int.toNat (H 64 11))) = 7 ∧ B < H 64 12) → ¬ (H 64 13 = 0 ∧ ((H 67 (Int.toNat (H 64 11))) = 8 ∨ (H 67 (Int.toNat (H 64 11))) = 9 ∨ (H 67 (Int.toNat (H 64 11))) = 10)) → H 64 12 ≤ B → Q none (cO 0 m H)) (h4 : ∀ z : Int, ¬ (H 64 13 = 0 ∧ (H 67 (Int.toNat (H 64 11))) = 7 ∧ B < H 64 12) → H 64 13 = 0 → ((H 67 (Int.toNat (H 64 11))) = 8 ∨ (H 67 (Int.toNat (H 64 11))) = 9 ∨ (H 67 (Int.toNat (H 64 11))) = 10) → (z = 0 ∧ ¬ (H 67 (Int.toNat (H 64 11))) = 10 ∨ z = 1 ∧ (H 67 (Int.toNat (H 64 11))) = 10) → ∀ A, cO z m H = A → W2 o_X12 M_X12_expression (inN [64, 72, 73, 74, 75, 76, 77, 78, 79, 80, 81, 82, 83, 84, 85, 86, 87, 88, 89, 90, 91, 92, 93]) (q + 5) Q 12 [some (mR 69), some (mI B), some (mI 1), none, none] [] (e_X12_next (gs (gs A 93 (Int.toNat (A 64 43)) (H 67 (Int.toNat (H 64 11)))) 64 43 (w32 ((A 64 43) + 1))))) : W2 o_X12 M_X12_expression (inN [64, 72, 73, 74, 75, 76, 77, 78, 79, 80, 81, 82, 83, 84, 85, 86, 87, 88, 89, 90, 91, 92, 93]) (q + 5) Q 200 [some (mR 69), some (mI B), none, none, none] [] H := by
  refine w2_vc [12, 200, 222, 232, 242, 246, 304, 332, 343, 353, 357] 400 oo_X12 q_X12_expression ?_
  refine sp_X12_is (by first | omega | (simp (disch := decide) only [gs_ne, gs_at_ne, gs_at]; omega)) ?_
  have c2 := fa_X12_is H 7
  refine ⟨fun (c3 : (f_X12_is H 7) = 0) => ?_, fun (c3 : ¬ (f_X12_is H 7) = 0) => ?_⟩
  · skip
    refine sp_X12_is (by first | omega | (simp (disch := decide) only [gs_ne, gs_at_ne, gs_at]; omega)) ?_
    have c5 := fa_X12_is H 8
    refine ⟨fun (c6 : ¬ (f_X12_is H 8) = 0) => ?_, fun (c6 : (f_X12_is H 8) = 0) => ?_⟩
    · skip
      refine ⟨fun _ => ?_, fun (c : (1 : Int) = 0) => absurd c (by decide)⟩
      refine ⟨(show 0 ≤ (H 64 11) ∧ (H 64 11) < ((603 : Nat) : Int) from by first | omega | (simp (disch := omega) only [w32_i]; omega)), ?_⟩
      refine ⟨fun (c7 : ¬ (H 67 (Int.toNat (H 64 11))) = 10) => ?_, fun (c7 : (H 67 (Int.toNat (H 64 11))) = 10) => ?_⟩
      · skip
        refine sp_X12_comesOut (m := m) (z := 0) (insub (by decide)) (by omega) (by omega) (by omega) (by omega) ?_
        have cf := cO_fr (z := 0) m H
        have cf11 := cf.2 11 (by decide) (by decide)
        have cf12 := cf.2 12 (by decide) (by decide)
        have hA43 := h43 0 (by omega)
        generalize hA : cO 0 m H = A at *
        refine (show W2 o_X12 M_X12_expression (inN [64, 72, 73, 74, 75, 76, 77, 78, 79, 80, 81, 82, 83, 84, 85, 86, 87, 88, 89, 90, 91, 92, 93]) (q + 5) Q 332 [some (mR 69), some (mI B), some (mI 1), none, some (mI (H 67 (Int.toNat (H 64 11))))] [] A from ?_)
        refine w2_vc [12, 200, 222, 232, 242, 246, 304, 332, 343, 353, 357] 400 oo_X12 q_X12_expression ?_
        refine ⟨(show 0 ≤ (A 64 43) ∧ (A 64 43) < ((48 : Nat) : Int) from by first | omega | (simp (disch := omega) only [w32_i]; omega)), ?_⟩
        refine (show W2 o_X12 M_X12_expression (inN [64, 72, 73, 74, 75, 76, 77, 78, 79, 80, 81, 82, 83, 84, 85, 86, 87, 88, 89, 90, 91, 92, 93]) (q + 5) Q 343 [some (mR 69), some (mI B), some (mI 1), none, some (mI (H 67 (Int.toNat (H 64 11))))] [] (gs A 93 (Int.toNat (A 64 43)) (H 67 (Int.toNat (H 64 11)))) from ?_)
        refine w2_vc [12, 200, 222, 232, 242, 246, 304, 332, 343, 353, 357] 400 oo_X12 q_X12_expression ?_
        refine (show W2 o_X12 M_X12_expression (inN [64, 72, 73, 74, 75, 76, 77, 78, 79, 80, 81, 82, 83, 84, 85, 86, 87, 88, 89, 90, 91, 92, 93]) (q + 5) Q 353 [some (mR 69), some (mI B), some (mI 1), none, some (mI (H 67 (Int.toNat (H 64 11))))] [] (gs (gs A 93 (Int.toNat (A 64 43)) (H 67 (Int.toNat (H 64 11)))) 64 43 (w32 ((A 64 43) + 1))) from ?_)
        refine w2_vc [12, 200, 222, 232, 242, 246, 304, 332, 343, 353, 357] 400 oo_X12 q_X12_expression ?_
        refine sp_X12_next (by first | omega | (simp (disch := decide) only [gs_ne, gs_at_ne, gs_at]; omega)) (insub (by decide)) ?_
        have c10 := fx_next (gs (gs A 93 (Int.toNat (A 64 43)) (H 67 (Int.toNat (H 64 11)))) 64 43 (w32 ((A 64 43) + 1)))
        refine (show W2 o_X12 M_X12_expression (inN [64, 72, 73, 74, 75, 76, 77, 78, 79, 80, 81, 82, 83, 84, 85, 86, 87, 88, 89, 90, 91, 92, 93]) (q + 5) Q 357 [some (mR 69), some (mI B), some (mI 1), none, some (mI (H 67 (Int.toNat (H 64 11))))] [] (e_X12_next (gs (gs A 93 (Int.toNat (A 64 43)) (H 67 (Int.toNat (H 64 11)))) 64 43 (w32 ((A 64 43) + 1))) ) from ?_)
        refine w2_vc [12, 200, 222, 232, 242, 246, 304, 332, 343, 353, 357] 400 oo_X12 q_X12_expression ?_
        refine (show W2 o_X12 M_X12_expression (inN [64, 72, 73, 74, 75, 76, 77, 78, 79, 80, 81, 82, 83, 84, 85, 86, 87, 88, 89, 90, 91, 92, 93]) (q + 5) Q 12 [some (mR 69), some (mI B), some (mI 1), none, some (mI (H 67 (Int.toNat (H 64 11))))] [] (e_X12_next (gs (gs A 93 (Int.toNat (A 64 43)) (H 67 (Int.toNat (H 64 11)))) 64 43 (w32 ((A 64 43) + 1))) ) from ?_)
        refine WP.fg (L' := [some (mR 69), some (mI B), some (mI 1), none, none]) ⟨rfl, rfl, rfl, trivial⟩ ?_
        exact h4 0 (by omega) (by omega) (by omega) (by omega) A hA
      · skip
        refine sp_X12_comesOut (m := m) (z := 1) (insub (by decide)) (by omega) (by omega) (by omega) (by omega) ?_
        have cf := cO_fr (z := 1) m H
        have cf11 := cf.2 11 (by decide) (by decide)
        have cf12 := cf.2 12 (by decide) (by decide)
        have hA43 := h43 1 (by omega)
        generalize hA : cO 1 m H = A at *
        refine (show W2 o_X12 M_X12_expression (inN [64, 72, 73, 74, 75, 76, 77, 78, 79, 80, 81, 82, 83, 84, 85, 86, 87, 88, 89, 90, 91, 92, 93]) (q + 5) Q 332 [some (mR 69), some (mI B), some (mI 1), none, some (mI (H 67 (Int.toNat (H 64 11))))] [] A from ?_)
        refine w2_vc [12, 200, 222, 232, 242, 246, 304, 332, 343, 353, 357] 400 oo_X12 q_X12_expression ?_
        refine ⟨(show 0 ≤ (A 64 43) ∧ (A 64 43) < ((48 : Nat) : Int) from by first | omega | (simp (disch := omega) only [w32_i]; omega)), ?_⟩
        refine (show W2 o_X12 M_X12_expression (inN [64, 72, 73, 74, 75, 76, 77, 78, 79, 80, 81, 82, 83, 84, 85, 86, 87, 88, 89, 90, 91, 92, 93]) (q + 5) Q 343 [some (mR 69), some (mI B), some (mI 1), none, some (mI (H 67 (Int.toNat (H 64 11))))] [] (gs A 93 (Int.toNat (A 64 43)) (H 67 (Int.toNat (H 64 11)))) from ?_)
        refine w2_vc [12, 200, 222, 232, 242, 246, 304, 332, 343, 353, 357] 400 oo_X12 q_X12_expression ?_
        refine (show W2 o_X12 M_X12_expression (inN [64, 72, 73, 74, 75, 76, 77, 78, 79, 80, 81, 82, 83, 84, 85, 86, 87, 88, 89, 90, 91, 92, 93]) (q + 5) Q 353 [some (mR 69), some (mI B), some (mI 1), none, some (mI (H 67 (Int.toNat (H 64 11))))] [] (gs (gs A 93 (Int.toNat (A 64 43)) (H 67 (Int.toNat (H 64 11)))) 64 43 (w32 ((A 64 43) + 1))) from ?_)
        refine w2_vc [12, 200, 222, 232, 242, 246, 304, 332, 343, 353, 357] 400 oo_X12 q_X12_expression ?_
        refine sp_X12_next (by first | omega | (simp (disch := decide) only [gs_ne, gs_at_ne, gs_at]; omega)) (insub (by decide)) ?_
        have c13 := fx_next (gs (gs A 93 (Int.toNat (A 64 43)) (H 67 (Int.toNat (H 64 11)))) 64 43 (w32 ((A 64 43) + 1)))
        refine (show W2 o_X12 M_X12_expression (inN [64, 72, 73, 74, 75, 76, 77, 78, 79, 80, 81, 82, 83, 84, 85, 86, 87, 88, 89, 90, 91, 92, 93]) (q + 5) Q 357 [some (mR 69), some (mI B), some (mI 1), none, some (mI (H 67 (Int.toNat (H 64 11))))] [] (e_X12_next (gs (gs A 93 (Int.toNat (A 64 43)) (H 67 (Int.toNat (H 64 11)))) 64 43 (w32 ((A 64 43) + 1))) ) from ?_)
        refine w2_vc [12, 200, 222, 232, 242, 246, 304, 332, 343, 353, 357] 400 oo_X12 q_X12_expression ?_
        refine (show W2 o_X12 M_X12_expression (inN [64, 72, 73, 74, 75, 76, 77, 78, 79, 80, 81, 82, 83, 84, 85, 86, 87, 88, 89, 90, 91, 92, 93]) (q + 5) Q 12 [some (mR 69), some (mI B), some (mI 1), none, some (mI (H 67 (Int.toNat (H 64 11))))] [] (e_X12_next (gs (gs A 93 (Int.toNat (A 64 43)) (H 67 (Int.toNat (H 64 11)))) 64 43 (w32 ((A 64 43) + 1))) ) from ?_)
        refine WP.fg (L' := [some (mR 69), some (mI B), some (mI 1), none, none]) ⟨rfl, rfl, rfl, trivial⟩ ?_
        exact h4 1 (by omega) (by omega) (by omega) (by omega) A hA
    · skip
      refine sp_X12_is (by first | omega | (simp (disch := decide) only [gs_ne, gs_at_ne, gs_at]; omega)) ?_
      have c15 := fa_X12_is H 9
      refine ⟨fun (c16 : ¬ (f_X12_is H 9) = 0) => ?_, fun (c16 : (f_X12_is H 9) = 0) => ?_⟩
      · skip
        refine ⟨fun _ => ?_, fun (c : (1 : Int) = 0) => absurd c (by decide)⟩
        refine ⟨(show 0 ≤ (H 64 11) ∧ (H 64 11) < ((603 : Nat) : Int) from by first | omega | (simp (disch := omega) only [w32_i]; omega)), ?_⟩
        refine ⟨fun (c17 : ¬ (H 67 (Int.toNat (H 64 11))) = 10) => ?_, fun (c17 : (H 67 (Int.toNat (H 64 11))) = 10) => ?_⟩
        · skip
          refine sp_X12_comesOut (m := m) (z := 0) (insub (by decide)) (by omega) (by omega) (by omega) (by omega) ?_
          have cf := cO_fr (z := 0) m H
          have cf11 := cf.2 11 (by decide) (by decide)
          have cf12 := cf.2 12 (by decide) (by decide)
          have hA43 := h43 0 (by omega)
          generalize hA : cO 0 m H = A at *
          refine (show W2 o_X12 M_X12_expression (inN [64, 72, 73, 74, 75, 76, 77, 78, 79, 80, 81, 82, 83, 84, 85, 86, 87, 88, 89, 90, 91, 92, 93]) (q + 5) Q 332 [some (mR 69), some (mI B), some (mI 1), none, some (mI (H 67 (Int.toNat (H 64 11))))] [] A from ?_)
          refine w2_vc [12, 200, 222, 232, 242, 246, 304, 332, 343, 353, 357] 400 oo_X12 q_X12_expression ?_
          refine ⟨(show 0 ≤ (A 64 43) ∧ (A 64 43) < ((48 : Nat) : Int) from by first | omega | (simp (disch := omega) only [w32_i]; omega)), ?_⟩
          refine (show W2 o_X12 M_X12_expression (inN [64, 72, 73, 74, 75, 76, 77, 78, 79, 80, 81, 82, 83, 84, 85, 86, 87, 88, 89, 90, 91, 92, 93]) (q + 5) Q 343 [some (mR 69), some (mI B), some (mI 1), none, some (mI (H 67 (Int.toNat (H 64 11))))] [] (gs A 93 (Int.toNat (A 64 43)) (H 67 (Int.toNat (H 64 11)))) from ?_)
          refine w2_vc [12, 200, 222, 232, 242, 246, 304, 332, 343, 353, 357] 400 oo_X12 q_X12_expression ?_
          refine (show W2 o_X12 M_X12_expression (inN [64, 72, 73, 74, 75, 76, 77, 78, 79, 80, 81, 82, 83, 84, 85, 86, 87, 88, 89, 90, 91, 92, 93]) (q + 5) Q 353 [some (mR 69), some (mI B), some (mI 1), none, some (mI (H 67 (Int.toNat (H 64 11))))] [] (gs (gs A 93 (Int.toNat (A 64 43)) (H 67 (Int.toNat (H 64 11)))) 64 43 (w32 ((A 64 43) + 1))) from ?_)
          refine w2_vc [12, 200, 222, 232, 242, 246, 304, 332, 343, 353, 357] 400 oo_X12 q_X12_expression ?_
          refine sp_X12_next (by first | omega | (simp (disch := decide) only [gs_ne, gs_at_ne, gs_at]; omega)) (insub (by decide)) ?_
          have c20 := fx_next (gs (gs A 93 (Int.toNat (A 64 43)) (H 67 (Int.toNat (H 64 11)))) 64 43 (w32 ((A 64 43) + 1)))
          refine (show W2 o_X12 M_X12_expression (inN [64, 72, 73, 74, 75, 76, 77, 78, 79, 80, 81, 82, 83, 84, 85, 86, 87, 88, 89, 90, 91, 92, 93]) (q + 5) Q 357 [some (mR 69), some (mI B), some (mI 1), none, some (mI (H 67 (Int.toNat (H 64 11))))] [] (e_X12_next (gs (gs A 93 (Int.toNat (A 64 43)) (H 67 (Int.toNat (H 64 11)))) 64 43 (w32 ((A 64 43) + 1))) ) from ?_)
          refine w2_vc [12, 200, 222, 232, 242, 246, 304, 332, 343, 353, 357] 400 oo_X12 q_X12_expression ?_
          refine (show W2 o_X12 M_X12_expression (inN [64, 72, 73, 74, 75, 76, 77, 78, 79, 80, 81, 82, 83, 84, 85, 86, 87, 88, 89, 90, 91, 92, 93]) (q + 5) Q 12 [some (mR 69), some (mI B), some (mI 1), none, some (mI (H 67 (Int.toNat (H 64 11))))] [] (e_X12_next (gs (gs A 93 (Int.toNat (A 64 43)) (H 67 (Int.toNat (H 64 11)))) 64 43 (w32 ((A 64 43) + 1))) ) from ?_)
          refine WP.fg (L' := [some (mR 69), some (mI B), some (mI 1), none, none]) ⟨rfl, rfl, rfl, trivial⟩ ?_
          exact h4 0 (by omega) (by omega) (by omega) (by omega) A hA
        · skip
          refine sp_X12_comesOut (m := m) (z := 1) (insub (by decide)) (by omega) (by omega) (by omega) (by omega) ?_
          have cf := cO_fr (z := 1) m H
          have cf11 := cf.2 11 (by decide) (by decide)
          have cf12 := cf.2 12 (by decide) (by decide)
          have hA43 := h43 1 (by omega)
          generalize hA : cO 1 m H = A at *
          refine (show W2 o_X12 M_X12_expression (inN [64, 72, 73, 74, 75, 76, 77, 78, 79, 80, 81, 82, 83, 84, 85, 86, 87, 88, 89, 90, 91, 92, 93]) (q + 5) Q 332 [some (mR 69), some (mI B), some (mI 1), none, some (mI (H 67 (Int.toNat (H 64 11))))] [] A from ?_)
          refine w2_vc [12, 200, 222, 232, 242, 246, 304, 332, 343, 353, 357] 400 oo_X12 q_X12_expression ?_
          refine ⟨(show 0 ≤ (A 64 43) ∧ (A 64 43) < ((48 : Nat) : Int) from by first | omega | (simp (disch := omega) only [w32_i]; omega)), ?_⟩
          refine (show W2 o_X12 M_X12_expression (inN [64, 72, 73, 74, 75, 76, 77, 78, 79, 80, 81, 82, 83, 84, 85, 86, 87, 88, 89, 90, 91, 92, 93]) (q + 5) Q 343 [some (mR 69), some (mI B), some (mI 1), none, some (mI (H 67 (Int.toNat (H 64 11))))] [] (gs A 93 (Int.toNat (A 64 43)) (H 67 (Int.toNat (H 64 11)))) from ?_)
          refine w2_vc [12, 200, 222, 232, 242, 246, 304, 332, 343, 353, 357] 400 oo_X12 q_X12_expression ?_
          refine (show W2 o_X12 M_X12_expression (inN [64, 72, 73, 74, 75, 76, 77, 78, 79, 80, 81, 82, 83, 84, 85, 86, 87, 88, 89, 90, 91, 92, 93]) (q + 5) Q 353 [some (mR 69), some (mI B), some (mI 1), none, some (mI (H 67 (Int.toNat (H 64 11))))] [] (gs (gs A 93 (Int.toNat (A 64 43)) (H 67 (Int.toNat (H 64 11)))) 64 43 (w32 ((A 64 43) + 1))) from ?_)
          refine w2_vc [12, 200, 222, 232, 242, 246, 304, 332, 343, 353, 357] 400 oo_X12 q_X12_expression ?_
          refine sp_X12_next (by first | omega | (simp (disch := decide) only [gs_ne, gs_at_ne, gs_at]; omega)) (insub (by decide)) ?_
          have c23 := fx_next (gs (gs A 93 (Int.toNat (A 64 43)) (H 67 (Int.toNat (H 64 11)))) 64 43 (w32 ((A 64 43) + 1)))
          refine (show W2 o_X12 M_X12_expression (inN [64, 72, 73, 74, 75, 76, 77, 78, 79, 80, 81, 82, 83, 84, 85, 86, 87, 88, 89, 90, 91, 92, 93]) (q + 5) Q 357 [some (mR 69), some (mI B), some (mI 1), none, some (mI (H 67 (Int.toNat (H 64 11))))] [] (e_X12_next (gs (gs A 93 (Int.toNat (A 64 43)) (H 67 (Int.toNat (H 64 11)))) 64 43 (w32 ((A 64 43) + 1))) ) from ?_)
          refine w2_vc [12, 200, 222, 232, 242, 246, 304, 332, 343, 353, 357] 400 oo_X12 q_X12_expression ?_
          refine (show W2 o_X12 M_X12_expression (inN [64, 72, 73, 74, 75, 76, 77, 78, 79, 80, 81, 82, 83, 84, 85, 86, 87, 88, 89, 90, 91, 92, 93]) (q + 5) Q 12 [some (mR 69), some (mI B), some (mI 1), none, some (mI (H 67 (Int.toNat (H 64 11))))] [] (e_X12_next (gs (gs A 93 (Int.toNat (A 64 43)) (H 67 (Int.toNat (H 64 11)))) 64 43 (w32 ((A 64 43) + 1))) ) from ?_)
          refine WP.fg (L' := [some (mR 69), some (mI B), some (mI 1), none, none]) ⟨rfl, rfl, rfl, trivial⟩ ?_
          exact h4 1 (by omega) (by omega) (by omega) (by omega) A hA
      · skip
        refine sp_X12_is (by first | omega | (simp (disch := decide) only [gs_ne, gs_at_ne, gs_at]; omega)) ?_
        have c25 := fa_X12_is H 10
        refine ⟨fun (c26 : (f_X12_is H 10) = 0) => ?_, fun (c26 : ¬ (f_X12_is H 10) = 0) => ?_⟩
        · skip
          refine ⟨fun (c : ¬ (0 : Int) = 0) => absurd c (by decide), fun _ => ?_⟩
          refine ⟨fun (c27 : (H 64 12) ≤ B) => ?_, fun (c27 : B < (H 64 12)) => ?_⟩
          · skip
            refine sp_X12_comesOut (m := m) (z := 0) (insub (by decide)) (by omega) (by omega) (by omega) (by omega) ?_
            have cf := cO_fr (z := 0) m H
            have cf11 := cf.2 11 (by decide) (by decide)
            have cf12 := cf.2 12 (by decide) (by decide)
            have hA43 := h43 0 (by omega)
            generalize hA : cO 0 m H = A at *
            refine (show W2 o_X12 M_X12_expression (inN [64, 72, 73, 74, 75, 76, 77, 78, 79, 80, 81, 82, 83, 84, 85, 86, 87, 88, 89, 90, 91, 92, 93]) (q + 5) Q 304 [some (mR 69), some (mI B), some (mI 0), none, none] [] A from ?_)
            refine w2_vc [12, 200, 222, 232, 242, 246, 304, 332, 343, 353, 357] 400 oo_X12 q_X12_expression ?_
            rw [← hA]
            exact h3 (by omega) (by omega) (by omega)
          · skip
            refine sp_X12_fail (by first | omega | (simp (disch := decide) only [gs_ne, gs_at_ne, gs_at]; omega)) (insub (by decide)) ?_
            have c30 := fx_fail H 1
            have f31 := fx_fail H 1
            refine sp_X12_comesOut (m := m) (z := 0) (insub (by decide)) (by omega) (by omega) (by omega) (by omega) ?_
            have cf := cO_fr (z := 0) m (e_X12_fail H 1)
            have cf11 := cf.2 11 (by decide) (by decide)
            have cf12 := cf.2 12 (by decide) (by decide)
            refine (show W2 o_X12 M_X12_expression (inN [64, 72, 73, 74, 75, 76, 77, 78, 79, 80, 81, 82, 83, 84, 85, 86, 87, 88, 89, 90, 91, 92, 93]) (q + 5) Q 304 [some (mR 69), some (mI B), some (mI 0), none, none] [] (cO 0 m (e_X12_fail H 1)) from ?_)
            refine w2_vc [12, 200, 222, 232, 242, 246, 304, 332, 343, 353, 357] 400 oo_X12 q_X12_expression ?_
            exact h2 (by omega) (by omega) (by omega)
        · skip
          refine ⟨fun _ => ?_, fun (c : (1 : Int) = 0) => absurd c (by decide)⟩
          refine ⟨(show 0 ≤ (H 64 11) ∧ (H 64 11) < ((603 : Nat) : Int) from by first | omega | (simp (disch := omega) only [w32_i]; omega)), ?_⟩
          refine ⟨fun (c32 : ¬ (H 67 (Int.toNat (H 64 11))) = 10) => ?_, fun (c32 : (H 67 (Int.toNat (H 64 11))) = 10) => ?_⟩
          · skip
            refine sp_X12_comesOut (m := m) (z := 0) (insub (by decide)) (by omega) (by omega) (by omega) (by omega) ?_
            have cf := cO_fr (z := 0) m H
            have cf11 := cf.2 11 (by decide) (by decide)
            have cf12 := cf.2 12 (by decide) (by decide)
            have hA43 := h43 0 (by omega)
            generalize hA : cO 0 m H = A at *
            refine (show W2 o_X12 M_X12_expression (inN [64, 72, 73, 74, 75, 76, 77, 78, 79, 80, 81, 82, 83, 84, 85, 86, 87, 88, 89, 90, 91, 92, 93]) (q + 5) Q 332 [some (mR 69), some (mI B), some (mI 1), none, some (mI (H 67 (Int.toNat (H 64 11))))] [] A from ?_)
            refine w2_vc [12, 200, 222, 232, 242, 246, 304, 332, 343, 353, 357] 400 oo_X12 q_X12_expression ?_
            refine ⟨(show 0 ≤ (A 64 43) ∧ (A 64 43) < ((48 : Nat) : Int) from by first | omega | (simp (disch := omega) only [w32_i]; omega)), ?_⟩
            refine (show W2 o_X12 M_X12_expression (inN [64, 72, 73, 74, 75, 76, 77, 78, 79, 80, 81, 82, 83, 84, 85, 86, 87, 88, 89, 90, 91, 92, 93]) (q + 5) Q 343 [some (mR 69), some (mI B), some (mI 1), none, some (mI (H 67 (Int.toNat (H 64 11))))] [] (gs A 93 (Int.toNat (A 64 43)) (H 67 (Int.toNat (H 64 11)))) from ?_)
            refine w2_vc [12, 200, 222, 232, 242, 246, 304, 332, 343, 353, 357] 400 oo_X12 q_X12_expression ?_
            refine (show W2 o_X12 M_X12_expression (inN [64, 72, 73, 74, 75, 76, 77, 78, 79, 80, 81, 82, 83, 84, 85, 86, 87, 88, 89, 90, 91, 92, 93]) (q + 5) Q 353 [some (mR 69), some (mI B), some (mI 1), none, some (mI (H 67 (Int.toNat (H 64 11))))] [] (gs (gs A 93 (Int.toNat (A 64 43)) (H 67 (Int.toNat (H 64 11)))) 64 43 (w32 ((A 64 43) + 1))) from ?_)
            refine w2_vc [12, 200, 222, 232, 242, 246, 304, 332, 343, 353, 357] 400 oo_X12 q_X12_expression ?_
            refine sp_X12_next (by first | omega | (simp (disch := decide) only [gs_ne, gs_at_ne, gs_at]; omega)) (insub (by decide)) ?_
            have c35 := fx_next (gs (gs A 93 (Int.toNat (A 64 43)) (H 67 (Int.toNat (H 64 11)))) 64 43 (w32 ((A 64 43) + 1)))
            refine (show W2 o_X12 M_X12_expression (inN [64, 72, 73, 74, 75, 76, 77, 78, 79, 80, 81, 82, 83, 84, 85, 86, 87, 88, 89, 90, 91, 92, 93]) (q + 5) Q 357 [some (mR 69), some (mI B), some (mI 1), none, some (mI (H 67 (Int.toNat (H 64 11))))] [] (e_X12_next (gs (gs A 93 (Int.toNat (A 64 43)) (H 67 (Int.toNat (H 64 11)))) 64 43 (w32 ((A 64 43) + 1))) ) from ?_)
            refine w2_vc [12, 200, 222, 232, 242, 246, 304, 332, 343, 353, 357] 400 oo_X12 q_X12_expression ?_
            refine (show W2 o_X12 M_X12_expression (inN [64, 72, 73, 74, 75, 76, 77, 78, 79, 80, 81, 82, 83, 84, 85, 86, 87, 88, 89, 90, 91, 92, 93]) (q + 5) Q 12 [some (mR 69), some (mI B), some (mI 1), none, some (mI (H 67 (Int.toNat (H 64 11))))] [] (e_X12_next (gs (gs A 93 (Int.toNat (A 64 43)) (H 67 (Int.toNat (H 64 11)))) 64 43 (w32 ((A 64 43) + 1))) ) from ?_)
            refine WP.fg (L' := [some (mR 69), some (mI B), some (mI 1), none, none]) ⟨rfl, rfl, rfl, trivial⟩ ?_
            exact h4 0 (by omega) (by omega) (by omega) (by omega) A hA
          · skip
            refine sp_X12_comesOut (m := m) (z := 1) (insub (by decide)) (by omega) (by omega) (by omega) (by omega) ?_
            have cf := cO_fr (z := 1) m H
            have cf11 := cf.2 11 (by decide) (by decide)
            have cf12 := cf.2 12 (by decide) (by decide)
            have hA43 := h43 1 (by omega)
            generalize hA : cO 1 m H = A at *
            refine (show W2 o_X12 M_X12_expression (inN [64, 72, 73, 74, 75, 76, 77, 78, 79, 80, 81, 82, 83, 84, 85, 86, 87, 88, 89, 90, 91, 92, 93]) (q + 5) Q 332 [some (mR 69), some (mI B), some (mI 1), none, some (mI (H 67 (Int.toNat (H 64 11))))] [] A from ?_)
            refine w2_vc [12, 200, 222, 232, 242, 246, 304, 332, 343, 353, 357] 400 oo_X12 q_X12_expression ?_
            refine ⟨(show 0 ≤ (A 64 43) ∧ (A 64 43) < ((48 : Nat) : Int) from by first | omega | (simp (disch := omega) only [w32_i]; omega)), ?_⟩
            refine (show W2 o_X12 M_X12_expression (inN [64, 72, 73, 74, 75, 76, 77, 78, 79, 80, 81, 82, 83, 84, 85, 86, 87, 88, 89, 90, 91, 92, 93]) (q + 5) Q 343 [some (mR 69), some (mI B), some (mI 1), none, some (mI (H 67 (Int.toNat (H 64 11))))] [] (gs A 93 (Int.toNat (A 64 43)) (H 67 (Int.toNat (H 64 11)))) from ?_)
            refine w2_vc [12, 200, 222, 232, 242, 246, 304, 332, 343, 353, 357] 400 oo_X12 q_X12_expression ?_
            refine (show W2 o_X12 M_X12_expression (inN [64, 72, 73, 74, 75, 76, 77, 78, 79, 80, 81, 82, 83, 84, 85, 86, 87, 88, 89, 90, 91, 92, 93]) (q + 5) Q 353 [some (mR 69), some (mI B), some (mI 1), none, some (mI (H 67 (Int.toNat (H 64 11))))] [] (gs (gs A 93 (Int.toNat (A 64 43)) (H 67 (Int.toNat (H 64 11)))) 64 43 (w32 ((A 64 43) + 1))) from ?_)
            refine w2_vc [12, 200, 222, 232, 242, 246, 304, 332, 343, 353, 357] 400 oo_X12 q_X12_expression ?_
            refine sp_X12_next (by first | omega | (simp (disch := decide) only [gs_ne, gs_at_ne, gs_at]; omega)) (insub (by decide)) ?_
            have c38 := fx_next (gs (gs A 93 (Int.toNat (A 64 43)) (H 67 (Int.toNat (H 64 11)))) 64 43 (w32 ((A 64 43) + 1)))
            refine (show W2 o_X12 M_X12_expression (inN [64, 72, 73, 74, 75, 76, 77, 78, 79, 80, 81, 82, 83, 84, 85, 86, 87, 88, 89, 90, 91, 92, 93]) (q + 5) Q 357 [some (mR 69), some (mI B), some (mI 1), none, some (mI (H 67 (Int.toNat (H 64 11))))] [] (e_X12_next (gs (gs A 93 (Int.toNat (A 64 43)) (H 67 (Int.toNat (H 64 11)))) 64 43 (w32 ((A 64 43) + 1))) ) from ?_)
            refine w2_vc [12, 200, 222, 232, 242, 246, 304, 332, 343, 353, 357] 400 oo_X12 q_X12_expression ?_
            refine (show W2 o_X12 M_X12_expression (inN [64, 72, 73, 74, 75, 76, 77, 78, 79, 80, 81, 82, 83, 84, 85, 86, 87, 88, 89, 90, 91, 92, 93]) (q + 5) Q 12 [some (mR 69), some (mI B), some (mI 1), none, some (mI (H 67 (Int.toNat (H 64 11))))] [] (e_X12_next (gs (gs A 93 (Int.toNat (A 64 43)) (H 67 (Int.toNat (H 64 11)))) 64 43 (w32 ((A 64 43) + 1))) ) from ?_)
            refine WP.fg (L' := [some (mR 69), some (mI B), some (mI 1), none, none]) ⟨rfl, rfl, rfl, trivial⟩ ?_
            exact h4 1 (by omega) (by omega) (by omega) (by omega) A hA
  · skip
    refine ⟨fun (c39 : (H 64 12) ≤ B) => ?_, fun (c39 : B < (H 64 12)) => ?_⟩
    · skip
      refine sp_X12_is (by first | omega | (simp (disch := decide) only [gs_ne, gs_at_ne, gs_at]; omega)) ?_
      have c41 := fa_X12_is H 8
      refine ⟨fun (c42 : ¬ (f_X12_is H 8) = 0) => ?_, fun (c42 : (f_X12_is H 8) = 0) => ?_⟩
      · skip
        refine ⟨fun _ => ?_, fun (c : (1 : Int) = 0) => absurd c (by decide)⟩
        refine ⟨(show 0 ≤ (H 64 11) ∧ (H 64 11) < ((603 : Nat) : Int) from by first | omega | (simp (disch := omega) only [w32_i]; omega)), ?_⟩
        refine ⟨fun (c43 : ¬ (H 67 (Int.toNat (H 64 11))) = 10) => ?_, fun (c43 : (H 67 (Int.toNat (H 64 11))) = 10) => ?_⟩
        · skip
          refine sp_X12_comesOut (m := m) (z := 0) (insub (by decide)) (by omega) (by omega) (by omega) (by omega) ?_
          have cf := cO_fr (z := 0) m H
          have cf11 := cf.2 11 (by decide) (by decide)
          have cf12 := cf.2 12 (by decide) (by decide)
          have hA43 := h43 0 (by omega)
          generalize hA : cO 0 m H = A at *
          refine (show W2 o_X12 M_X12_expression (inN [64, 72, 73, 74, 75, 76, 77, 78, 79, 80, 81, 82, 83, 84, 85, 86, 87, 88, 89, 90, 91, 92, 93]) (q + 5) Q 332 [some (mR 69), some (mI B), some (mI 1), none, some (mI (H 67 (Int.toNat (H 64 11))))] [] A from ?_)
          refine w2_vc [12, 200, 222, 232, 242, 246, 304, 332, 343, 353, 357] 400 oo_X12 q_X12_expression ?_
          refine ⟨(show 0 ≤ (A 64 43) ∧ (A 64 43) < ((48 : Nat) : Int) from by first | omega | (simp (disch := omega) only [w32_i]; omega)), ?_⟩
          refine (show W2 o_X12 M_X12_expression (inN [64, 72, 73, 74, 75, 76, 77, 78, 79, 80, 81, 82, 83, 84, 85, 86, 87, 88, 89, 90, 91, 92, 93]) (q + 5) Q 343 [some (mR 69), some (mI B), some (mI 1), none, some (mI (H 67 (Int.toNat (H 64 11))))] [] (gs A 93 (Int.toNat (A 64 43)) (H 67 (Int.toNat (H 64 11)))) from ?_)
          refine w2_vc [12, 200, 222, 232, 242, 246, 304, 332, 343, 353, 357] 400 oo_X12 q_X12_expression ?_
          refine (show W2 o_X12 M_X12_expression (inN [64, 72, 73, 74, 75, 76, 77, 78, 79, 80, 81, 82, 83, 84, 85, 86, 87, 88, 89, 90, 91, 92, 93]) (q + 5) Q 353 [some (mR 69), some (mI B), some (mI 1), none, some (mI (H 67 (Int.toNat (H 64 11))))] [] (gs (gs A 93 (Int.toNat (A 64 43)) (H 67 (Int.toNat (H 64 11)))) 64 43 (w32 ((A 64 43) + 1))) from ?_)
          refine w2_vc [12, 200, 222, 232, 242, 246, 304, 332, 343, 353, 357] 400 oo_X12 q_X12_expression ?_
          refine sp_X12_next (by first | omega | (simp (disch := decide) only [gs_ne, gs_at_ne, gs_at]; omega)) (insub (by decide)) ?_
          have c46 := fx_next (gs (gs A 93 (Int.toNat (A 64 43)) (H 67 (Int.toNat (H 64 11)))) 64 43 (w32 ((A 64 43) + 1)))
          refine (show W2 o_X12 M_X12_expression (inN [64, 72, 73, 74, 75, 76, 77, 78, 79, 80, 81, 82, 83, 84, 85, 86, 87, 88, 89, 90, 91, 92, 93]) (q + 5) Q 357 [some (mR 69), some (mI B), some (mI 1), none, some (mI (H 67 (Int.toNat (H 64 11))))] [] (e_X12_next (gs (gs A 93 (Int.toNat (A 64 43)) (H 67 (Int.toNat (H 64 11)))) 64 43 (w32 ((A 64 43) + 1))) ) from ?_)
          refine w2_vc [12, 200, 222, 232, 242, 246, 304, 332, 343, 353, 357] 400 oo_X12 q_X12_expression ?_
          refine (show W2 o_X12 M_X12_expression (inN [64, 72, 73, 74, 75, 76, 77, 78, 79, 80, 81, 82, 83, 84, 85, 86, 87, 88, 89, 90, 91, 92, 93]) (q + 5) Q 12 [some (mR 69), some (mI B), some (mI 1), none, some (mI (H 67 (Int.toNat (H 64 11))))] [] (e_X12_next (gs (gs A 93 (Int.toNat (A 64 43)) (H 67 (Int.toNat (H 64 11)))) 64 43 (w32 ((A 64 43) + 1))) ) from ?_)
          refine WP.fg (L' := [some (mR 69), some (mI B), some (mI 1), none, none]) ⟨rfl, rfl, rfl, trivial⟩ ?_
          exact h4 0 (by omega) (by omega) (by omega) (by omega) A hA
        · skip
          refine sp_X12_comesOut (m := m) (z := 1) (insub (by decide)) (by omega) (by omega) (by omega) (by omega) ?_
          have cf := cO_fr (z := 1) m H
          have cf11 := cf.2 11 (by decide) (by decide)
          have cf12 := cf.2 12 (by decide) (by decide)
          have hA43 := h43 1 (by omega)
          generalize hA : cO 1 m H = A at *
          refine (show W2 o_X12 M_X12_expression (inN [64, 72, 73, 74, 75, 76, 77, 78, 79, 80, 81, 82, 83, 84, 85, 86, 87, 88, 89, 90, 91, 92, 93]) (q + 5) Q 332 [some (mR 69), some (mI B), some (mI 1), none, some (mI (H 67 (Int.toNat (H 64 11))))] [] A from ?_)
          refine w2_vc [12, 200, 222, 232, 242, 246, 304, 332, 343, 353, 357] 400 oo_X12 q_X12_expression ?_
          refine ⟨(show 0 ≤ (A 64 43) ∧ (A 64 43) < ((48 : Nat) : Int) from by first | omega | (simp (disch := omega) only [w32_i]; omega)), ?_⟩
          refine (show W2 o_X12 M_X12_expression (inN [64, 72, 73, 74, 75, 76, 77, 78, 79, 80, 81, 82, 83, 84, 85, 86, 87, 88, 89, 90, 91, 92, 93]) (q + 5) Q 343 [some (mR 69), some (mI B), some (mI 1), none, some (mI (H 67 (Int.toNat (H 64 11))))] [] (gs A 93 (Int.toNat (A 64 43)) (H 67 (Int.toNat (H 64 11)))) from ?_)
          refine w2_vc [12, 200, 222, 232, 242, 246, 304, 332, 343, 353, 357] 400 oo_X12 q_X12_expression ?_
          refine (show W2 o_X12 M_X12_expression (inN [64, 72, 73, 74, 75, 76, 77, 78, 79, 80, 81, 82, 83, 84, 85, 86, 87, 88, 89, 90, 91, 92, 93]) (q + 5) Q 353 [some (mR 69), some (mI B), some (mI 1), none, some (mI (H 67 (Int.toNat (H 64 11))))] [] (gs (gs A 93 (Int.toNat (A 64 43)) (H 67 (Int.toNat (H 64 11)))) 64 43 (w32 ((A 64 43) + 1))) from ?_)
          refine w2_vc [12, 200, 222, 232, 242, 246, 304, 332, 343, 353, 357] 400 oo_X12 q_X12_expression ?_
          refine sp_X12_next (by first | omega | (simp (disch := decide) only [gs_ne, gs_at_ne, gs_at]; omega)) (insub (by decide)) ?_
          have c49 := fx_next (gs (gs A 93 (Int.toNat (A 64 43)) (H 67 (Int.toNat (H 64 11)))) 64 43 (w32 ((A 64 43) + 1)))
          refine (show W2 o_X12 M_X12_expression (inN [64, 72, 73, 74, 75, 76, 77, 78, 79, 80, 81, 82, 83, 84, 85, 86, 87, 88, 89, 90, 91, 92, 93]) (q + 5) Q 357 [some (mR 69), some (mI B), some (mI 1), none, some (mI (H 67 (Int.toNat (H 64 11))))] [] (e_X12_next (gs (gs A 93 (Int.toNat (A 64 43)) (H 67 (Int.toNat (H 64 11)))) 64 43 (w32 ((A 64 43) + 1))) ) from ?_)
          refine w2_vc [12, 200, 222, 232, 242, 246, 304, 332, 343, 353, 357] 400 oo_X12 q_X12_expression ?_
          refine (show W2 o_X12 M_X12_expression (inN [64, 72, 73, 74, 75, 76, 77, 78, 79, 80, 81, 82, 83, 84, 85, 86, 87, 88, 89, 90, 91, 92, 93]) (q + 5) Q 12 [some (mR 69), some (mI B), some (mI 1), none, some (mI (H 67 (Int.toNat (H 64 11))))] [] (e_X12_next (gs (gs A 93 (Int.toNat (A 64 43)) (H 67 (Int.toNat (H 64 11)))) 64 43 (w32 ((A 64 43) + 1))) ) from ?_)
          refine WP.fg (L' := [some (mR 69), some (mI B), some (mI 1), none, none]) ⟨rfl, rfl, rfl, trivial⟩ ?_
          exact h4 1 (by omega) (by omega) (by omega) (by omega) A hA
      · skip
        refine sp_X12_is (by first | omega | (simp (disch := decide) only [gs_ne, gs_at_ne, gs_at]; omega)) ?_
        have c51 := fa_X12_is H 9
        refine ⟨fun (c52 : ¬ (f_X12_is H 9) = 0) => ?_, fun (c52 : (f_X12_is H 9) = 0) => ?_⟩
        · skip
          refine ⟨fun _ => ?_, fun (c : (1 : Int) = 0) => absurd c (by decide)⟩
          refine ⟨(show 0 ≤ (H 64 11) ∧ (H 64 11) < ((603 : Nat) : Int) from by first | omega | (simp (disch := omega) only [w32_i]; omega)), ?_⟩
          refine ⟨fun (c53 : ¬ (H 67 (Int.toNat (H 64 11))) = 10) => ?_, fun (c53 : (H 67 (Int.toNat (H 64 11))) = 10) => ?_⟩
          · skip
            refine sp_X12_comesOut (m := m) (z := 0) (insub (by decide)) (by omega) (by omega) (by omega) (by omega) ?_
            have cf := cO_fr (z := 0) m H
            have cf11 := cf.2 11 (by decide) (by decide)
            have cf12 := cf.2 12 (by decide) (by decide)
            have hA43 := h43 0 (by omega)
            generalize hA : cO 0 m H = A at *
            refine (show W2 o_X12 M_X12_expression (inN [64, 72, 73, 74, 75, 76, 77, 78, 79, 80, 81, 82, 83, 84, 85, 86, 87, 88, 89, 90, 91, 92, 93]) (q + 5) Q 332 [some (mR 69), some (mI B), some (mI 1), none, some (mI (H 67 (Int.toNat (H 64 11))))] [] A from ?_)
            refine w2_vc [12, 200, 222, 232, 242, 246, 304, 332, 343, 353, 357] 400 oo_X12 q_X12_expression ?_
            refine ⟨(show 0 ≤ (A 64 43) ∧ (A 64 43) < ((48 : Nat) : Int) from by first | omega | (simp (disch := omega) only [w32_i]; omega)), ?_⟩
            refine (show W2 o_X12 M_X12_expression (inN [64, 72, 73, 74, 75, 76, 77, 78, 79, 80, 81, 82, 83, 84, 85, 86, 87, 88, 89, 90, 91, 92, 93]) (q + 5) Q 343 [some (mR 69), some (mI B), some (mI 1), none, some (mI (H 67 (Int.toNat (H 64 11))))] [] (gs A 93 (Int.toNat (A 64 43)) (H 67 (Int.toNat (H 64 11)))) from ?_)
            refine w2_vc [12, 200, 222, 232, 242, 246, 304, 332, 343, 353, 357] 400 oo_X12 q_X12_expression ?_
            refine (show W2 o_X12 M_X12_expression (inN [64, 72, 73, 74, 75, 76, 77, 78, 79, 80, 81, 82, 83, 84, 85, 86, 87, 88, 89, 90, 91, 92, 93]) (q + 5) Q 353 [some (mR 69), some (mI B), some (mI 1), none, some (mI (H 67 (Int.toNat (H 64 11))))] [] (gs (gs A 93 (Int.toNat (A 64 43)) (H 67 (Int.toNat (H 64 11)))) 64 43 (w32 ((A 64 43) + 1))) from ?_)
            refine w2_vc [12, 200, 222, 232, 242, 246, 304, 332, 343, 353, 357] 400 oo_X12 q_X12_expression ?_
            refine sp_X12_next (by first | omega | (simp (disch := decide) only [gs_ne, gs_at_ne, gs_at]; omega)) (insub (by decide)) ?_
            have c56 := fx_next (gs (gs A 93 (Int.toNat (A 64 43)) (H 67 (Int.toNat (H 64 11)))) 64 43 (w32 ((A 64 43) + 1)))
            refine (show W2 o_X12 M_X12_expression (inN [64, 72, 73, 74, 75, 76, 77, 78, 79, 80, 81, 82, 83, 84, 85, 86, 87, 88, 89, 90, 91, 92, 93]) (q + 5) Q 357 [some (mR 69), some (mI B), some (mI 1), none, some (mI (H 67 (Int.toNat (H 64 11))))] [] (e_X12_next (gs (gs A 93 (Int.toNat (A 64 43)) (H 67 (Int.toNat (H 64 11)))) 64 43 (w32 ((A 64 43) + 1))) ) from ?_)
            refine w2_vc [12, 200, 222, 232, 242, 246, 304, 332, 343, 353, 357] 400 oo_X12 q_X12_expression ?_
            refine (show W2 o_X12 M_X12_expression (inN [64, 72, 73, 74, 75, 76, 77, 78, 79, 80, 81, 82, 83, 84, 85, 86, 87, 88, 89, 90, 91, 92, 93]) (q + 5) Q 12 [some (mR 69), some (mI B), some (mI 1), none, some (mI (H 67 (Int.toNat (H 64 11))))] [] (e_X12_next (gs (gs A 93 (Int.toNat (A 64 43)) (H 67 (Int.toNat (H 64 11)))) 64 43 (w32 ((A 64 43) + 1))) ) from ?_)
            refine WP.fg (L' := [some (mR 69), some (mI B), some (mI 1), none, none]) ⟨rfl, rfl, rfl, trivial⟩ ?_
            exact h4 0 (by omega) (by omega) (by omega) (by omega) A hA
          · skip
            refine sp_X12_comesOut (m := m) (z := 1) (insub (by decide)) (by omega) (by omega) (by omega) (by omega) ?_
            have cf := cO_fr (z := 1) m H
            have cf11 := cf.2 11 (by decide) (by decide)
            have cf12 := cf.2 12 (by decide) (by decide)
            have hA43 := h43 1 (by omega)
            generalize hA : cO 1 m H = A at *
            refine (show W2 o_X12 M_X12_expression (inN [64, 72, 73, 74, 75, 76, 77, 78, 79, 80, 81, 82, 83, 84, 85, 86, 87, 88, 89, 90, 91, 92, 93]) (q + 5) Q 332 [some (mR 69), some (mI B), some (mI 1), none, some (mI (H 67 (Int.toNat (H 64 11))))] [] A from ?_)
            refine w2_vc [12, 200, 222, 232, 242, 246, 304, 332, 343, 353, 357] 400 oo_X12 q_X12_expression ?_
            refine ⟨(show 0 ≤ (A 64 43) ∧ (A 64 43) < ((48 : Nat) : Int) from by first | omega | (simp (disch := omega) only [w32_i]; omega)), ?_⟩
            refine (show W2 o_X12 M_X12_expression (inN [64, 72, 73, 74, 75, 76, 77, 78, 79, 80, 81, 82, 83, 84, 85, 86, 87, 88, 89, 90, 91, 92, 93]) (q + 5) Q 343 [some (mR 69), some (mI B), some (mI 1), none, some (mI (H 67 (Int.toNat (H 64 11))))] [] (gs A 93 (Int.toNat (A 64 43)) (H 67 (Int.toNat (H 64 11)))) from ?_)
            refine w2_vc [12, 200, 222, 232, 242, 246, 304, 332, 343, 353, 357] 400 oo_X12 q_X12_expression ?_
            refine (show W2 o_X12 M_X12_expression (inN [64, 72, 73, 74, 75, 76, 77, 78, 79, 80, 81, 82, 83, 84, 85, 86, 87, 88, 89, 90, 91, 92, 93]) (q + 5) Q 353 [some (mR 69), some (mI B), some (mI 1), none, some (mI (H 67 (Int.toNat (H 64 11))))] [] (gs (gs A 93 (Int.toNat (A 64 43)) (H 67 (Int.toNat (H 64 11)))) 64 43 (w32 ((A 64 43) + 1))) from ?_)
            refine w2_vc [12, 200, 222, 232, 242, 246, 304, 332, 343, 353, 357] 400 oo_X12 q_X12_expression ?_
            refine sp_X12_next (by first | omega | (simp (disch := decide) only [gs_ne, gs_at_ne, gs_at]; omega)) (insub (by decide)) ?_
            have c59 := fx_next (gs (gs A 93 (Int.toNat (A 64 43)) (H 67 (Int.toNat (H 64 11)))) 64 43 (w32 ((A 64 43) + 1)))
            refine (show W2 o_X12 M_X12_expression (inN [64, 72, 73, 74, 75, 76, 77, 78, 79, 80, 81, 82, 83, 84, 85, 86, 87, 88, 89, 90, 91, 92, 93]) (q + 5) Q 357 [some (mR 69), some (mI B), some (mI 1), none, some (mI (H 67 (Int.toNat (H 64 11))))] [] (e_X12_next (gs (gs A 93 (Int.toNat (A 64 43)) (H 67 (Int.toNat (H 64 11)))) 64 43 (w32 ((A 64 43) + 1))) ) from ?_)
            refine w2_vc [12, 200, 222, 232, 242, 246, 304, 332, 343, 353, 357] 400 oo_X12 q_X12_expression ?_
            refine (show W2 o_X12 M_X12_expression (inN [64, 72, 73, 74, 75, 76, 77, 78, 79, 80, 81, 82, 83, 84, 85, 86, 87, 88, 89, 90, 91, 92, 93]) (q + 5) Q 12 [some (mR 69), some (mI B), some (mI 1), none, some (mI (H 67 (Int.toNat (H 64 11))))] [] (e_X12_next (gs (gs A 93 (Int.toNat (A 64 43)) (H 67 (Int.toNat (H 64 11)))) 64 43 (w32 ((A 64 43) + 1))) ) from ?_)
            refine WP.fg (L' := [some (mR 69), some (mI B), some (mI 1), none, none]) ⟨rfl, rfl, rfl, trivial⟩ ?_
            exact h4 1 (by omega) (by omega) (by omega) (by omega) A hA
        · skip
          refine sp_X12_is (by first | omega | (simp (disch := decide) only [gs_ne, gs_at_ne, gs_at]; omega)) ?_
          have c61 := fa_X12_is H 10
          refine ⟨fun (c62 : (f_X12_is H 10) = 0) => ?_, fun (c62 : ¬ (f_X12_is H 10) = 0) => ?_⟩
          · skip
            refine ⟨fun (c : ¬ (0 : Int) = 0) => absurd c (by decide), fun _ => ?_⟩
            refine ⟨fun (c63 : (H 64 12) ≤ B) => ?_, fun (c63 : B < (H 64 12)) => ?_⟩
            · skip
              refine sp_X12_comesOut (m := m) (z := 0) (insub (by decide)) (by omega) (by omega) (by omega) (by omega) ?_
              have cf := cO_fr (z := 0) m H
              have cf11 := cf.2 11 (by decide) (by decide)
              have cf12 := cf.2 12 (by decide) (by decide)
              have hA43 := h43 0 (by omega)
              generalize hA : cO 0 m H = A at *
              refine (show W2 o_X12 M_X12_expression (inN [64, 72, 73, 74, 75, 76, 77, 78, 79, 80, 81, 82, 83, 84, 85, 86, 87, 88, 89, 90, 91, 92, 93]) (q + 5) Q 304 [some (mR 69), some (mI B), some (mI 0), none, none] [] A from ?_)
              refine w2_vc [12, 200, 222, 232, 242, 246, 304, 332, 343, 353, 357] 400 oo_X12 q_X12_expression ?_
              rw [← hA]
              exact h3 (by omega) (by omega) (by omega)
            · skip
              refine sp_X12_fail (by first | omega | (simp (disch := decide) only [gs_ne, gs_at_ne, gs_at]; omega)) (insub (by decide)) ?_
              have c66 := fx_fail H 1
              have f67 := fx_fail H 1
              refine sp_X12_comesOut (m := m) (z := 0) (insub (by decide)) (by omega) (by omega) (by omega) (by omega) ?_
              have cf := cO_fr (z := 0) m (e_X12_fail H 1)
              have cf11 := cf.2 11 (by decide) (by decide)
              have cf12 := cf.2 12 (by decide) (by decide)
              refine (show W2 o_X12 M_X12_expression (inN [64, 72, 73, 74, 75, 76, 77, 78, 79, 80, 81, 82, 83, 84, 85, 86, 87, 88, 89, 90, 91, 92, 93]) (q + 5) Q 304 [some (mR 69), some (mI B), some (mI 0), none, none] [] (cO 0 m (e_X12_fail H 1)) from ?_)
              refine w2_vc [12, 200, 222, 232, 242, 246, 304, 332, 343, 353, 357] 400 oo_X12 q_X12_expression ?_
              exact h2 (by omega) (by omega) (by omega)
          · skip
            refine ⟨fun _ => ?_, fun (c : (1 : Int) = 0) => absurd c (by decide)⟩
            refine ⟨(show 0 ≤ (H 64 11) ∧ (H 64 11) < ((603 : Nat) : Int) from by first | omega | (simp (disch := omega) only [w32_i]; omega)), ?_⟩
            refine ⟨fun (c68 : ¬ (H 67 (Int.toNat (H 64 11))) = 10) => ?_, fun (c68 : (H 67 (Int.toNat (H 64 11))) = 10) => ?_⟩
            · skip
              refine sp_X12_comesOut (m := m) (z := 0) (insub (by decide)) (by omega) (by omega) (by omega) (by omega) ?_
              have cf := cO_fr (z := 0) m H
              have cf11 := cf.2 11 (by decide) (by decide)
              have cf12 := cf.2 12 (by decide) (by decide)
              have hA43 := h43 0 (by omega)
              generalize hA : cO 0 m H = A at *
              refine (show W2 o_X12 M_X12_expression (inN [64, 72, 73, 74, 75, 76, 77, 78, 79, 80, 81, 82, 83, 84, 85, 86, 87, 88, 89, 90, 91, 92, 93]) (q + 5) Q 332 [some (mR 69), some (mI B), some (mI 1), none, some (mI (H 67 (Int.toNat (H 64 11))))] [] A from ?_)
              refine w2_vc [12, 200, 222, 232, 242, 246, 304, 332, 343, 353, 357] 400 oo_X12 q_X12_expression ?_
              refine ⟨(show 0 ≤ (A 64 43) ∧ (A 64 43) < ((48 : Nat) : Int) from by first | omega | (simp (disch := omega) only [w32_i]; omega)), ?_⟩
              refine (show W2 o_X12 M_X12_expression (inN [64, 72, 73, 74, 75, 76, 77, 78, 79, 80, 81, 82, 83, 84, 85, 86, 87, 88, 89, 90, 91, 92, 93]) (q + 5) Q 343 [some (mR 69), some (mI B), some (mI 1), none, some (mI (H 67 (Int.toNat (H 64 11))))] [] (gs A 93 (Int.toNat (A 64 43)) (H 67 (Int.toNat (H 64 11)))) from ?_)
              refine w2_vc [12, 200, 222, 232, 242, 246, 304, 332, 343, 353, 357] 400 oo_X12 q_X12_expression ?_
              refine (show W2 o_X12 M_X12_expression (inN [64, 72, 73, 74, 75, 76, 77, 78, 79, 80, 81, 82, 83, 84, 85, 86, 87, 88, 89, 90, 91, 92, 93]) (q + 5) Q 353 [some (mR 69), some (mI B), some (mI 1), none, some (mI (H 67 (Int.toNat (H 64 11))))] [] (gs (gs A 93 (Int.toNat (A 64 43)) (H 67 (Int.toNat (H 64 11)))) 64 43 (w32 ((A 64 43) + 1))) from ?_)
              refine w2_vc [12, 200, 222, 232, 242, 246, 304, 332, 343, 353, 357] 400 oo_X12 q_X12_expression ?_
              refine sp_X12_next (by first | omega | (simp (disch := decide) only [gs_ne, gs_at_ne, gs_at]; omega)) (insub (by decide)) ?_
              have c71 := fx_next (gs (gs A 93 (Int.toNat (A 64 43)) (H 67 (Int.toNat (H 64 11)))) 64 43 (w32 ((A 64 43) + 1)))
              refine (show W2 o_X12 M_X12_expression (inN [64, 72, 73, 74, 75, 76, 77, 78, 79, 80, 81, 82, 83, 84, 85, 86, 87, 88, 89, 90, 91, 92, 93]) (q + 5) Q 357 [some (mR 69), some (mI B), some (mI 1), none, some (mI (H 67 (Int.toNat (H 64 11))))] [] (e_X12_next (gs (gs A 93 (Int.toNat (A 64 43)) (H 67 (Int.toNat (H 64 11)))) 64 43 (w32 ((A 64 43) + 1))) ) from ?_)
              refine w2_vc [12, 200, 222, 232, 242, 246, 304, 332, 343, 353, 357] 400 oo_X12 q_X12_expression ?_
              refine (show W2 o_X12 M_X12_expression (inN [64, 72, 73, 74, 75, 76, 77, 78, 79, 80, 81, 82, 83, 84, 85, 86, 87, 88, 89, 90, 91, 92, 93]) (q + 5) Q 12 [some (mR 69), some (mI B), some (mI 1), none, some (mI (H 67 (Int.toNat (H 64 11))))] [] (e_X12_next (gs (gs A 93 (Int.toNat (A 64 43)) (H 67 (Int.toNat (H 64 11)))) 64 43 (w32 ((A 64 43) + 1))) ) from ?_)
              refine WP.fg (L' := [some (mR 69), some (mI B), some (mI 1), none, none]) ⟨rfl, rfl, rfl, trivial⟩ ?_
              exact h4 0 (by omega) (by omega) (by omega) (by omega) A hA
            · skip
              refine sp_X12_comesOut (m := m) (z := 1) (insub (by decide)) (by omega) (by omega) (by omega) (by omega) ?_
              have cf := cO_fr (z := 1) m H
              have cf11 := cf.2 11 (by decide) (by decide)
              have cf12 := cf.2 12 (by decide) (by decide)
              have hA43 := h43 1 (by omega)
              generalize hA : cO 1 m H = A at *
              refine (show W2 o_X12 M_X12_expression (inN [64, 72, 73, 74, 75, 76, 77, 78, 79, 80, 81, 82, 83, 84, 85, 86, 87, 88, 89, 90, 91, 92, 93]) (q + 5) Q 332 [some (mR 69), some (mI B), some (mI 1), none, some (mI (H 67 (Int.toNat (H 64 11))))] [] A from ?_)
              refine w2_vc [12, 200, 222, 232, 242, 246, 304, 332, 343, 353, 357] 400 oo_X12 q_X12_expression ?_
              refine ⟨(show 0 ≤ (A 64 43) ∧ (A 64 43) < ((48 : Nat) : Int) from by first | omega | (simp (disch := omega) only [w32_i]; omega)), ?_⟩
              refine (show W2 o_X12 M_X12_expression (inN [64, 72, 73, 74, 75, 76, 77, 78, 79, 80, 81, 82, 83, 84, 85, 86, 87, 88, 89, 90, 91, 92, 93]) (q + 5) Q 343 [some (mR 69), some (mI B), some (mI 1), none, some (mI (H 67 (Int.toNat (H 64 11))))] [] (gs A 93 (Int.toNat (A 64 43)) (H 67 (Int.toNat (H 64 11)))) from ?_)
              refine w2_vc [12, 200, 222, 232, 242, 246, 304, 332, 343, 353, 357] 400 oo_X12 q_X12_expression ?_
              refine (show W2 o_X12 M_X12_expression (inN [64, 72, 73, 74, 75, 76, 77, 78, 79, 80, 81, 82, 83, 84, 85, 86, 87, 88, 89, 90, 91, 92, 93]) (q + 5) Q 353 [some (mR 69), some (mI B), some (mI 1), none, some (mI (H 67 (Int.toNat (H 64 11))))] [] (gs (gs A 93 (Int.toNat (A 64 43)) (H 67 (Int.toNat (H 64 11)))) 64 43 (w32 ((A 64 43) + 1))) from ?_)
              refine w2_vc [12, 200, 222, 232, 242, 246, 304, 332, 343, 353, 357] 400 oo_X12 q_X12_expression ?_
              refine sp_X12_next (by first | omega | (simp (disch := decide) only [gs_ne, gs_at_ne, gs_at]; omega)) (insub (by decide)) ?_
              have c74 := fx_next (gs (gs A 93 (Int.toNat (A 64 43)) (H 67 (Int.toNat (H 64 11)))) 64 43 (w32 ((A 64 43) + 1)))
              refine (show W2 o_X12 M_X12_expression (inN [64, 72, 73, 74, 75, 76, 77, 78, 79, 80, 81, 82, 83, 84, 85, 86, 87, 88, 89, 90, 91, 92, 93]) (q + 5) Q 357 [some (mR 69), some (mI B), some (mI 1), none, some (mI (H 67 (Int.toNat (H 64 11))))] [] (e_X12_next (gs (gs A 93 (Int.toNat (A 64 43)) (H 67 (Int.toNat (H 64 11)))) 64 43 (w32 ((A 64 43) + 1))) ) from ?_)
              refine w2_vc [12, 200, 222, 232, 242, 246, 304, 332, 343, 353, 357] 400 oo_X12 q_X12_expression ?_
              refine (show W2 o_X12 M_X12_expression (inN [64, 72, 73, 74, 75, 76, 77, 78, 79, 80, 81, 82, 83, 84, 85, 86, 87, 88, 89, 90, 91, 92, 93]) (q + 5) Q 12 [some (mR 69), some (mI B), some (mI 1), none, some (mI (H 67 (Int.toNat (H 64 11))))] [] (e_X12_next (gs (gs A 93 (Int.toNat (A 64 43)) (H 67 (Int.toNat (H 64 11)))) 64 43 (w32 ((A 64 43) + 1))) ) from ?_)
              refine WP.fg (L' := [some (mR 69), some (mI B), some (mI 1), none, none]) ⟨rfl, rfl, rfl, trivial⟩ ?_
              exact h4 1 (by omega) (by omega) (by omega) (by omega) A hA
    · skip
      refine sp_X12_comesOut (m := m) (z := 0) (insub (by decide)) (by omega) (by omega) (by omega) (by omega) ?_
      have cf := cO_fr (z := 0) m H
      have cf11 := cf.2 11 (by decide) (by decide)
      have cf12 := cf.2 12 (by decide) (by decide)
      have hA43 := h43 0 (by omega)
      generalize hA : cO 0 m H = A at *
      refine (show W2 o_X12 M_X12_expression (inN [64, 72, 73, 74, 75, 76, 77, 78, 79, 80, 81, 82, 83, 84, 85, 86, 87, 88, 89, 90, 91, 92, 93]) (q + 5) Q 222 [some (mR 69), some (mI B), none, none, none] [] A from ?_)
      refine w2_vc [12, 200, 222, 232, 242, 246, 304, 332, 343, 353, 357] 400 oo_X12 q_X12_expression ?_
      refine (show W2 o_X12 M_X12_expression (inN [64, 72, 73, 74, 75, 76, 77, 78, 79, 80, 81, 82, 83, 84, 85, 86, 87, 88, 89, 90, 91, 92, 93]) (q + 5) Q 232 [some (mR 69), some (mI B), none, none, none] [] (gs A 64 43 (w32 ((A 64 43) - 1))) from ?_)
      refine w2_vc [12, 200, 222, 232, 242, 246, 304, 332, 343, 353, 357] 400 oo_X12 q_X12_expression ?_
      refine (show W2 o_X12 M_X12_expression (inN [64, 72, 73, 74, 75, 76, 77, 78, 79, 80, 81, 82, 83, 84, 85, 86, 87, 88, 89, 90, 91, 92, 93]) (q + 5) Q 242 [some (mR 69), some (mI B), none, none, none] [] (gs (gs A 64 43 (w32 ((A 64 43) - 1))) 64 12 (w32 ((A 64 12) - 1))) from ?_)
      refine w2_vc [12, 200, 222, 232, 242, 246, 304, 332, 343, 353, 357] 400 oo_X12 q_X12_expression ?_
      refine sp_X12_next (by first | omega | (simp (disch := decide) only [gs_ne, gs_at_ne, gs_at]; omega)) (insub (by decide)) ?_
      have c77 := fx_next (gs (gs A 64 43 (w32 ((A 64 43) - 1))) 64 12 (w32 ((A 64 12) - 1)))
      refine (show W2 o_X12 M_X12_expression (inN [64, 72, 73, 74, 75, 76, 77, 78, 79, 80, 81, 82, 83, 84, 85, 86, 87, 88, 89, 90, 91, 92, 93]) (q + 5) Q 246 [some (mR 69), some (mI B), none, none, none] [] (e_X12_next (gs (gs A 64 43 (w32 ((A 64 43) - 1))) 64 12 (w32 ((A 64 12) - 1))) ) from ?_)
      refine w2_vc [12, 200, 222, 232, 242, 246, 304, 332, 343, 353, 357] 400 oo_X12 q_X12_expression ?_
      refine (show W2 o_X12 M_X12_expression (inN [64, 72, 73, 74, 75, 76, 77, 78, 79, 80, 81, 82, 83, 84, 85, 86, 87, 88, 89, 90, 91, 92, 93]) (q + 5) Q 200 [some (mR 69), some (mI B), none, none, none] [] (e_X12_next (gs (gs A 64 43 (w32 ((A 64 43) - 1))) 64 12 (w32 ((A 64 12) - 1))) ) from ?_)
      exact h1 (by omega) (by omega) (by omega) A hA
theorem nx_39 (G : mG) : (e_X12_next G) 64 39 = G 64 39 := by
  unfold e_X12_next
  by_cases z : G 64 11 = 600
  · rw [if_neg (fun y => y z), (fx_fail G 2).2.2.2.1]
  · rw [if_pos z, gs_at_ne (by decide)]
theorem nm_39 (G : mG) : (e_X12_must (e_X12_next G) 2) 64 39 = G 64 39 := by
  unfold e_X12_must
  rw [← nx_39 G]
  exact ite_P (P := fun x : mG => x 64 39 = (e_X12_next G) 64 39) (fx_fail _ 1).2.2.2.1 (nx_39 _)
set_option maxHeartbeats 8000000 in
theorem lt_0 {D : Nat → Bool} {q : Nat} {H : mG} {Q : Option mV → mG → Prop} (hD : ∀ k, D k = false → inN [64, 72, 73, 74, 75, 76, 77, 78, 79, 80, 81, 82, 83, 84, 85, 86, 87, 88, 89, 90, 91, 92, 93] k = false) {o : Int} {R : mG → Prop} (hf : H 64 13 = 0) (hT : 0 ≤ H 64 11 ∧ H 64 11 ≤ 600) (hc : 0 ≤ H 64 39 ∧ H 64 39 < 1400) (h1 : (H 67 (Int.toNat (H 64 11))) = 33 → 0 < (e_X12_must (e_X12_next H) 2) 64 13 → Q none (e_X12_must (e_X12_next H) 2)) (h2 : (H 67 (Int.toNat (H 64 11))) = 33 → (e_X12_must (e_X12_next H) 2) 64 13 ≤ 0 → 7 < ((e_X12_must (e_X12_next H) 2) 69 (Int.toNat ((e_X12_next H) 64 11))) → W2 o_X12 M_X12_literal (inN [64, 72, 73, 74, 75, 76, 77, 78, 79, 80, 81, 82, 83, 84, 85, 86, 87, 88, 89, 90, 91, 92, 93]) (q + 7) Q 144 [some (mR 69), some (mI o), some (mI (H 64 39)), some (mI (H 64 39)), some (mI 4), none] [] (e_X12_emit (e_X12_wrong (e_X12_must (e_X12_next H) 2) 5 ((e_X12_next H) 64 11)) 0 ((e_X12_wrong (e_X12_must (e_X12_next H) 2) 5 ((e_X12_next H) 64 11)) 69 (Int.toNat ((e_X12_next H) 64 11))))) (h3 : (H 67 (Int.toNat (H 64 11))) = 33 → (e_X12_must (e_X12_next H) 2) 64 13 ≤ 0 → ((e_X12_must (e_X12_next H) 2) 69 (Int.toNat ((e_X12_next H) 64 11))) ≤ 7 → W2 o_X12 M_X12_literal (inN [64, 72, 73, 74, 75, 76, 77, 78, 79, 80, 81, 82, 83, 84, 85, 86, 87, 88, 89, 90, 91, 92, 93]) (q + 7) Q 144 [some (mR 69), some (mI o), some (mI (H 64 39)), some (mI (H 64 39)), some (mI 4), none] [] (e_X12_emit (e_X12_must (e_X12_next H) 2) 0 ((e_X12_must (e_X12_next H) 2) 69 (Int.toNat ((e_X12_next H) 64 11))))) (hE : ¬ (H 67 (Int.toNat (H 64 11))) = 33 → (∀ Q' : Option mV → mG → Prop, (∀ H', R H' → Q' none H') → P2 (inN [64, 72, 73, 74, 75, 76, 77, 78, 79, 80, 81, 82, 83, 84, 85, 86, 87, 88, 89, 90, 91, 92, 93]) (q + 6) M_X12_expression [mR 69] H Q')) (h4 : ∀ H2, R H2 → W2 o_X12 M_X12_literal (inN [64, 72, 73, 74, 75, 76, 77, 78, 79, 80, 81, 82, 83, 84, 85, 86, 87, 88, 89, 90, 91, 92, 93]) (q + 7) Q 83 [some (mR 69), some (mI o), some (mI (H 64 39)), some (mI (H 64 39)), some (mI 4), none] [] H2) : P2 D (q + 7) M_X12_literal [mR 69, mI o] H Q := by
  refine MP.to (D2 := inN [64, 72, 73, 74, 75, 76, 77, 78, 79, 80, 81, 82, 83, 84, 85, 86, 87, 88, 89, 90, 91, 92, 93]) (Q2 := Q) ?_ hD (fun v G' q _ => q)
  refine p2_vc [76, 83, 144] 400 oo_X12 q_X12_literal (by decide) rfl (Nat.le_of_ble_eq_true rfl) ?_
  refine sp_X12_is (by first | omega | (simp (disch := decide) only [gs_ne, gs_at_ne, gs_at]; omega)) ?_
  have c2 := fa_X12_is H 33
  refine ⟨fun (c3 : (f_X12_is H 33) = 0) => ?_, fun (c3 : ¬ (f_X12_is H 33) = 0) => ?_⟩
  · skip
    refine hE (by omega) _ (fun H' hH' => ?_)
    refine (show W2 o_X12 M_X12_literal (inN [64, 72, 73, 74, 75, 76, 77, 78, 79, 80, 81, 82, 83, 84, 85, 86, 87, 88, 89, 90, 91, 92, 93]) (q + 7) Q 83 [some (mR 69), some (mI o), some (mI (H 64 39)), some (mI (H 64 39)), some (mI 4), none] [] H' from ?_)
    exact h4 _ hH'
  · skip
    refine sp_X12_next (by first | omega | (simp (disch := decide) only [gs_ne, gs_at_ne, gs_at]; omega)) (insub (by decide)) ?_
    have c5 := fx_next H
    refine sp_X12_must (by first | omega | (simp (disch := decide) only [gs_ne, gs_at_ne, gs_at]; omega)) (insub (by decide)) ?_
    have c7 := fx_must (e_X12_next H ) 2
    refine ⟨fun (c8 : ((e_X12_must (e_X12_next H ) 2) 64 13) ≤ 0) => ?_, fun (c8 : 0 < ((e_X12_must (e_X12_next H ) 2) 64 13)) => ?_⟩
    · skip
      refine ⟨(show 0 ≤ ((e_X12_next H ) 64 11) ∧ ((e_X12_next H ) 64 11) < ((603 : Nat) : Int) from by first | omega | (simp (disch := omega) only [w32_i]; omega)), ?_⟩
      refine ⟨fun (c9 : ((e_X12_must (e_X12_next H ) 2) 69 (Int.toNat ((e_X12_next H ) 64 11))) ≤ 7) => ?_, fun (c9 : 7 < ((e_X12_must (e_X12_next H ) 2) 69 (Int.toNat ((e_X12_next H ) 64 11)))) => ?_⟩
      · skip
        refine ⟨(show 0 ≤ ((e_X12_next H ) 64 11) ∧ ((e_X12_next H ) 64 11) < ((603 : Nat) : Int) from by first | omega | (simp (disch := omega) only [w32_i]; omega)), ?_⟩
        refine sp_X12_emit (by have y1 := nm_39 H; have y2 := (fx_wrong (e_X12_must (e_X12_next H) 2) 5 ((e_X12_next H) 64 11)).2 39 (by decide) (by decide); omega) (insub (by decide)) ?_
        refine (show W2 o_X12 M_X12_literal (inN [64, 72, 73, 74, 75, 76, 77, 78, 79, 80, 81, 82, 83, 84, 85, 86, 87, 88, 89, 90, 91, 92, 93]) (q + 7) Q 76 [some (mR 69), some (mI o), some (mI (H 64 39)), some (mI (H 64 39)), some (mI 4), some (mI ((e_X12_next H ) 64 11))] [] (e_X12_emit (e_X12_must (e_X12_next H ) 2) 0 ((e_X12_must (e_X12_next H ) 2) 69 (Int.toNat ((e_X12_next H ) 64 11)))) from ?_)
        refine w2_vc [76, 83, 144] 400 oo_X12 q_X12_literal ?_
        refine (show W2 o_X12 M_X12_literal (inN [64, 72, 73, 74, 75, 76, 77, 78, 79, 80, 81, 82, 83, 84, 85, 86, 87, 88, 89, 90, 91, 92, 93]) (q + 7) Q 144 [some (mR 69), some (mI o), some (mI (H 64 39)), some (mI (H 64 39)), some (mI 4), some (mI ((e_X12_next H ) 64 11))] [] (e_X12_emit (e_X12_must (e_X12_next H ) 2) 0 ((e_X12_must (e_X12_next H ) 2) 69 (Int.toNat ((e_X12_next H ) 64 11)))) from ?_)
        refine WP.fg (L' := [some (mR 69), some (mI o), some (mI (H 64 39)), some (mI (H 64 39)), some (mI 4), none]) ⟨rfl, rfl, rfl, rfl, rfl, trivial⟩ ?_
        exact h3 (by omega) (by omega) (by omega)
      · skip
        refine sp_X12_wrong (by first | omega | (simp (disch := decide) only [gs_ne, gs_at_ne, gs_at]; omega)) (insub (by decide)) ?_
        refine ⟨(show 0 ≤ ((e_X12_next H ) 64 11) ∧ ((e_X12_next H ) 64 11) < ((603 : Nat) : Int) from by first | omega | (simp (disch := omega) only [w32_i]; omega)), ?_⟩
        refine sp_X12_emit (by have y1 := nm_39 H; have y2 := (fx_wrong (e_X12_must (e_X12_next H) 2) 5 ((e_X12_next H) 64 11)).2 39 (by decide) (by decide); omega) (insub (by decide)) ?_
        refine (show W2 o_X12 M_X12_literal (inN [64, 72, 73, 74, 75, 76, 77, 78, 79, 80, 81, 82, 83, 84, 85, 86, 87, 88, 89, 90, 91, 92, 93]) (q + 7) Q 76 [some (mR 69), some (mI o), some (mI (H 64 39)), some (mI (H 64 39)), some (mI 4), some (mI ((e_X12_next H ) 64 11))] [] (e_X12_emit (e_X12_wrong (e_X12_must (e_X12_next H ) 2) 5 ((e_X12_next H ) 64 11)) 0 ((e_X12_wrong (e_X12_must (e_X12_next H ) 2) 5 ((e_X12_next H ) 64 11)) 69 (Int.toNat ((e_X12_next H ) 64 11)))) from ?_)
        refine w2_vc [76, 83, 144] 400 oo_X12 q_X12_literal ?_
        refine (show W2 o_X12 M_X12_literal (inN [64, 72, 73, 74, 75, 76, 77, 78, 79, 80, 81, 82, 83, 84, 85, 86, 87, 88, 89, 90, 91, 92, 93]) (q + 7) Q 144 [some (mR 69), some (mI o), some (mI (H 64 39)), some (mI (H 64 39)), some (mI 4), some (mI ((e_X12_next H ) 64 11))] [] (e_X12_emit (e_X12_wrong (e_X12_must (e_X12_next H ) 2) 5 ((e_X12_next H ) 64 11)) 0 ((e_X12_wrong (e_X12_must (e_X12_next H ) 2) 5 ((e_X12_next H ) 64 11)) 69 (Int.toNat ((e_X12_next H ) 64 11)))) from ?_)
        refine WP.fg (L' := [some (mR 69), some (mI o), some (mI (H 64 39)), some (mI (H 64 39)), some (mI 4), none]) ⟨rfl, rfl, rfl, rfl, rfl, trivial⟩ ?_
        exact h2 (by omega) (by omega) (by omega)
    · skip
      exact h1 (by omega) (by omega)
set_option maxHeartbeats 8000000 in
theorem lt_83 {q : Nat} {H : mG} {Q : Option mV → mG → Prop} {o a1 a2 so : Int} (hT : 0 ≤ H 64 11 ∧ H 64 11 ≤ 600) (hf : 0 ≤ H 64 13) (hk : 0 ≤ (H 67 (Int.toNat (H 64 11))) ∧ (H 67 (Int.toNat (H 64 11))) ≤ 39) (h1 : 0 < H 64 13 → W2 o_X12 M_X12_literal (inN [64, 72, 73, 74, 75, 76, 77, 78, 79, 80, 81, 82, 83, 84, 85, 86, 87, 88, 89, 90, 91, 92, 93]) (q + 7) Q 140 [some (mR 69), some (mI o), some (mI a1), some (mI ((e_X12_next H) 64 39)), some (mI 0), none] [] (e_X12_next H)) (h2 : H 64 13 = 0 → ¬ (11 ≤ (H 67 (Int.toNat (H 64 11))) ∧ (H 67 (Int.toNat (H 64 11))) ≤ 14) → W2 o_X12 M_X12_literal (inN [64, 72, 73, 74, 75, 76, 77, 78, 79, 80, 81, 82, 83, 84, 85, 86, 87, 88, 89, 90, 91, 92, 93]) (q + 7) Q 140 [some (mR 69), some (mI o), some (mI a1), some (mI ((e_X12_next (e_X12_fail H 1)) 64 39)), some (mI (w32 ((H 67 (Int.toNat (H 64 11))) - 11))), none] [] (e_X12_next (e_X12_fail H 1))) (h3 : H 64 13 = 0 → (11 ≤ (H 67 (Int.toNat (H 64 11))) ∧ (H 67 (Int.toNat (H 64 11))) ≤ 14) → W2 o_X12 M_X12_literal (inN [64, 72, 73, 74, 75, 76, 77, 78, 79, 80, 81, 82, 83, 84, 85, 86, 87, 88, 89, 90, 91, 92, 93]) (q + 7) Q 140 [some (mR 69), some (mI o), some (mI a1), some (mI ((e_X12_next H) 64 39)), some (mI (w32 ((H 67 (Int.toNat (H 64 11))) - 11))), none] [] (e_X12_next H)) : W2 o_X12 M_X12_literal (inN [64, 72, 73, 74, 75, 76, 77, 78, 79, 80, 81, 82, 83, 84, 85, 86, 87, 88, 89, 90, 91, 92, 93]) (q + 7) Q 83 [some (mR 69), some (mI o), some (mI a1), some (mI a2), some (mI so), none] [] H := by
  refine w2_vc [140] 400 oo_X12 q_X12_literal ?_
  refine ⟨fun (c1 : (H 64 13) ≤ 0) => ?_, fun (c1 : 0 < (H 64 13)) => ?_⟩
  · skip
    refine ⟨(show 0 ≤ (H 64 11) ∧ (H 64 11) < ((603 : Nat) : Int) from by first | omega | (simp (disch := omega) only [w32_i]; omega)), ?_⟩
    refine ⟨fun (c2 : ¬ (H 64 13) = 0) => ?_, fun (c2 : (H 64 13) = 0) => ?_⟩
    · skip
      refine sp_X12_next (by first | omega | (simp (disch := decide) only [gs_ne, gs_at_ne, gs_at]; omega)) (insub (by decide)) ?_
      have c4 := fx_next H
      refine (show W2 o_X12 M_X12_literal (inN [64, 72, 73, 74, 75, 76, 77, 78, 79, 80, 81, 82, 83, 84, 85, 86, 87, 88, 89, 90, 91, 92, 93]) (q + 7) Q 140 [some (mR 69), some (mI o), some (mI a1), some (mI ((e_X12_next H ) 64 39)), some (mI (w32 ((H 67 (Int.toNat (H 64 11))) - 11))), none] [] (e_X12_next H ) from ?_)
      first | exact h3 (by omega) (by omega) | (exfalso; omega)
    · skip
      refine ⟨fun (c5 : (w32 ((H 67 (Int.toNat (H 64 11))) - 11)) < 0) => ?_, fun (c5 : 0 ≤ (w32 ((H 67 (Int.toNat (H 64 11))) - 11))) => ?_⟩
      · skip
        refine sp_X12_fail (by first | omega | (simp (disch := decide) only [gs_ne, gs_at_ne, gs_at]; omega)) (insub (by decide)) ?_
        have c7 := fx_fail H 1
        refine sp_X12_next (by first | omega | (simp (disch := decide) only [gs_ne, gs_at_ne, gs_at]; omega)) (insub (by decide)) ?_
        have c9 := fx_next (e_X12_fail H 1)
        refine (show W2 o_X12 M_X12_literal (inN [64, 72, 73, 74, 75, 76, 77, 78, 79, 80, 81, 82, 83, 84, 85, 86, 87, 88, 89, 90, 91, 92, 93]) (q + 7) Q 140 [some (mR 69), some (mI o), some (mI a1), some (mI ((e_X12_next (e_X12_fail H 1) ) 64 39)), some (mI (w32 ((H 67 (Int.toNat (H 64 11))) - 11))), none] [] (e_X12_next (e_X12_fail H 1) ) from ?_)
        exact h2 (by omega) (by omega)
      · skip
        refine ⟨fun (c10 : (w32 ((H 67 (Int.toNat (H 64 11))) - 11)) ≤ 3) => ?_, fun (c10 : 3 < (w32 ((H 67 (Int.toNat (H 64 11))) - 11))) => ?_⟩
        · skip
          refine sp_X12_next (by first | omega | (simp (disch := decide) only [gs_ne, gs_at_ne, gs_at]; omega)) (insub (by decide)) ?_
          have c12 := fx_next H
          refine (show W2 o_X12 M_X12_literal (inN [64, 72, 73, 74, 75, 76, 77, 78, 79, 80, 81, 82, 83, 84, 85, 86, 87, 88, 89, 90, 91, 92, 93]) (q + 7) Q 140 [some (mR 69), some (mI o), some (mI a1), some (mI ((e_X12_next H ) 64 39)), some (mI (w32 ((H 67 (Int.toNat (H 64 11))) - 11))), none] [] (e_X12_next H ) from ?_)
          first | exact h3 (by omega) (by omega) | (exfalso; omega)
        · skip
          refine sp_X12_fail (by first | omega | (simp (disch := decide) only [gs_ne, gs_at_ne, gs_at]; omega)) (insub (by decide)) ?_
          have c14 := fx_fail H 1
          refine sp_X12_next (by first | omega | (simp (disch := decide) only [gs_ne, gs_at_ne, gs_at]; omega)) (insub (by decide)) ?_
          have c16 := fx_next (e_X12_fail H 1)
          refine (show W2 o_X12 M_X12_literal (inN [64, 72, 73, 74, 75, 76, 77, 78, 79, 80, 81, 82, 83, 84, 85, 86, 87, 88, 89, 90, 91, 92, 93]) (q + 7) Q 140 [some (mR 69), some (mI o), some (mI a1), some (mI ((e_X12_next (e_X12_fail H 1) ) 64 39)), some (mI (w32 ((H 67 (Int.toNat (H 64 11))) - 11))), none] [] (e_X12_next (e_X12_fail H 1) ) from ?_)
          exact h2 (by omega) (by omega)
  · skip
    refine ⟨fun (c17 : ¬ (H 64 13) = 0) => ?_, fun (c17 : (H 64 13) = 0) => ?_⟩
    · skip
      refine sp_X12_next (by first | omega | (simp (disch := decide) only [gs_ne, gs_at_ne, gs_at]; omega)) (insub (by decide)) ?_
      have c19 := fx_next H
      refine (show W2 o_X12 M_X12_literal (inN [64, 72, 73, 74, 75, 76, 77, 78, 79, 80, 81, 82, 83, 84, 85, 86, 87, 88, 89, 90, 91, 92, 93]) (q + 7) Q 140 [some (mR 69), some (mI o), some (mI a1), some (mI ((e_X12_next H ) 64 39)), some (mI 0), none] [] (e_X12_next H ) from ?_)
      exact h1 (by omega)
    · skip
      refine ⟨fun (c : (0 : Int) < 0) => absurd c (by decide), fun _ => ?_⟩
      refine ⟨fun _ => ?_, fun (c : 3 < (0 : Int)) => absurd c (by decide)⟩
      refine sp_X12_next (by first | omega | (simp (disch := decide) only [gs_ne, gs_at_ne, gs_at]; omega)) (insub (by decide)) ?_
      have c21 := fx_next H
      refine (show W2 o_X12 M_X12_literal (inN [64, 72, 73, 74, 75, 76, 77, 78, 79, 80, 81, 82, 83, 84, 85, 86, 87, 88, 89, 90, 91, 92, 93]) (q + 7) Q 140 [some (mR 69), some (mI o), some (mI a1), some (mI ((e_X12_next H ) 64 39)), some (mI 0), none] [] (e_X12_next H ) from ?_)
      exact h1 (by omega)
set_option maxHeartbeats 8000000 in
theorem lt_140 {q : Nat} {H : mG} {Q : Option mV → mG → Prop} {o a1 a2 so : Int} {R : mG → Prop} (hE : (∀ Q' : Option mV → mG → Prop, (∀ H', R H' → Q' none H') → P2 (inN [64, 72, 73, 74, 75, 76, 77, 78, 79, 80, 81, 82, 83, 84, 85, 86, 87, 88, 89, 90, 91, 92, 93]) (q + 6) M_X12_expression [mR 69] H Q')) (h : ∀ H2, R H2 → W2 o_X12 M_X12_literal (inN [64, 72, 73, 74, 75, 76, 77, 78, 79, 80, 81, 82, 83, 84, 85, 86, 87, 88, 89, 90, 91, 92, 93]) (q + 7) Q 144 [some (mR 69), some (mI o), some (mI a1), some (mI a2), some (mI so), none] [] H2) : W2 o_X12 M_X12_literal (inN [64, 72, 73, 74, 75, 76, 77, 78, 79, 80, 81, 82, 83, 84, 85, 86, 87, 88, 89, 90, 91, 92, 93]) (q + 7) Q 140 [some (mR 69), some (mI o), some (mI a1), some (mI a2), some (mI so), none] [] H := by
  refine w2_vc [144] 400 oo_X12 q_X12_literal ?_
  refine hE _ (fun H' hH' => ?_)
  refine (show W2 o_X12 M_X12_literal (inN [64, 72, 73, 74, 75, 76, 77, 78, 79, 80, 81, 82, 83, 84, 85, 86, 87, 88, 89, 90, 91, 92, 93]) (q + 7) Q 144 [some (mR 69), some (mI o), some (mI a1), some (mI a2), some (mI so), none] [] H' from ?_)
  exact h H' hH'
set_option maxHeartbeats 8000000 in
theorem lt_144 {q : Nat} {H : mG} {Q : Option mV → mG → Prop} {o a1 a2 so : Int} (ho : o = 0 ∨ o = 1) (hs : 0 ≤ H 64 19 ∧ H 64 19 ≤ 1) (hl : 0 ≤ H 85 (Int.toNat (H 64 19)) ∧ H 85 (Int.toNat (H 64 19)) < 600) (h1 : 0 < H 64 13 → Q none H) (h2 : H 64 13 ≤ 0 → Q none (gs (gs (gs (gs (gs (gs H 86 (Int.toNat (w32 ((w32 (600 * (H 64 19))) + (H 85 (Int.toNat (H 64 19)))))) so) 87 (Int.toNat (w32 ((w32 (600 * (H 64 19))) + (H 85 (Int.toNat (H 64 19)))))) a1) 88 (Int.toNat (w32 ((w32 (600 * (H 64 19))) + (H 85 (Int.toNat (H 64 19)))))) a2) 89 (Int.toNat (w32 ((w32 (600 * (H 64 19))) + (H 85 (Int.toNat (H 64 19)))))) (H 64 39)) 90 (Int.toNat (w32 ((w32 (600 * (H 64 19))) + (H 85 (Int.toNat (H 64 19)))))) o) 85 (Int.toNat (H 64 19)) (w32 ((H 85 (Int.toNat (H 64 19))) + 1)))) : W2 o_X12 M_X12_literal (inN [64, 72, 73, 74, 75, 76, 77, 78, 79, 80, 81, 82, 83, 84, 85, 86, 87, 88, 89, 90, 91, 92, 93]) (q + 7) Q 144 [some (mR 69), some (mI o), some (mI a1), some (mI a2), some (mI so), none] [] H := by
  refine w2_vc [181, 189, 197, 208, 216, 226, 229] 400 oo_X12 q_X12_literal ?_
  refine ⟨fun (c1 : (H 64 13) ≤ 0) => ?_, fun (c1 : 0 < (H 64 13)) => ?_⟩
  · skip
    refine ⟨(show 0 ≤ (H 64 19) ∧ (H 64 19) < ((2 : Nat) : Int) from by first | omega | (simp (disch := omega) only [w32_i]; omega)), ?_⟩
    refine ⟨(show 0 ≤ (w32 ((w32 (600 * (H 64 19))) + (H 85 (Int.toNat (H 64 19))))) ∧ (w32 ((w32 (600 * (H 64 19))) + (H 85 (Int.toNat (H 64 19))))) < ((1200 : Nat) : Int) from by first | omega | (rw [show (w32 ((w32 (600 * (H 64 19))) + (H 85 (Int.toNat (H 64 19))))) = (600 * (H 64 19)) + (H 85 (Int.toNat (H 64 19))) from by rw [w32_i (x := (600 * (H 64 19))) (by omega) (by omega), w32_i (x := (600 * (H 64 19)) + (H 85 (Int.toNat (H 64 19)))) (by omega) (by omega)]]; omega) | (simp (disch := omega) only [w32_i]; omega)), ?_⟩
    refine (show W2 o_X12 M_X12_literal (inN [64, 72, 73, 74, 75, 76, 77, 78, 79, 80, 81, 82, 83, 84, 85, 86, 87, 88, 89, 90, 91, 92, 93]) (q + 7) Q 181 [some (mR 69), some (mI o), some (mI a1), some (mI a2), some (mI so), some (mI (w32 ((w32 (600 * (H 64 19))) + (H 85 (Int.toNat (H 64 19))))))] [] (gs H 86 (Int.toNat (w32 ((w32 (600 * (H 64 19))) + (H 85 (Int.toNat (H 64 19)))))) so) from ?_)
    refine w2_vc [181, 189, 197, 208, 216, 226, 229] 400 oo_X12 q_X12_literal ?_
    refine ⟨(show 0 ≤ (w32 ((w32 (600 * (H 64 19))) + (H 85 (Int.toNat (H 64 19))))) ∧ (w32 ((w32 (600 * (H 64 19))) + (H 85 (Int.toNat (H 64 19))))) < ((1200 : Nat) : Int) from by first | omega | (rw [show (w32 ((w32 (600 * (H 64 19))) + (H 85 (Int.toNat (H 64 19))))) = (600 * (H 64 19)) + (H 85 (Int.toNat (H 64 19))) from by rw [w32_i (x := (600 * (H 64 19))) (by omega) (by omega), w32_i (x := (600 * (H 64 19)) + (H 85 (Int.toNat (H 64 19)))) (by omega) (by omega)]]; omega) | (simp (disch := omega) only [w32_i]; omega)), ?_⟩
    refine (show W2 o_X12 M_X12_literal (inN [64, 72, 73, 74, 75, 76, 77, 78, 79, 80, 81, 82, 83, 84, 85, 86, 87, 88, 89, 90, 91, 92, 93]) (q + 7) Q 189 [some (mR 69), some (mI o), some (mI a1), some (mI a2), some (mI so), some (mI (w32 ((w32 (600 * (H 64 19))) + (H 85 (Int.toNat (H 64 19))))))] [] (gs (gs H 86 (Int.toNat (w32 ((w32 (600 * (H 64 19))) + (H 85 (Int.toNat (H 64 19)))))) so) 87 (Int.toNat (w32 ((w32 (600 * (H 64 19))) + (H 85 (Int.toNat (H 64 19)))))) a1) from ?_)
    refine w2_vc [181, 189, 197, 208, 216, 226, 229] 400 oo_X12 q_X12_literal ?_
    refine ⟨(show 0 ≤ (w32 ((w32 (600 * (H 64 19))) + (H 85 (Int.toNat (H 64 19))))) ∧ (w32 ((w32 (600 * (H 64 19))) + (H 85 (Int.toNat (H 64 19))))) < ((1200 : Nat) : Int) from by first | omega | (rw [show (w32 ((w32 (600 * (H 64 19))) + (H 85 (Int.toNat (H 64 19))))) = (600 * (H 64 19)) + (H 85 (Int.toNat (H 64 19))) from by rw [w32_i (x := (600 * (H 64 19))) (by omega) (by omega), w32_i (x := (600 * (H 64 19)) + (H 85 (Int.toNat (H 64 19)))) (by omega) (by omega)]]; omega) | (simp (disch := omega) only [w32_i]; omega)), ?_⟩
    refine (show W2 o_X12 M_X12_literal (inN [64, 72, 73, 74, 75, 76, 77, 78, 79, 80, 81, 82, 83, 84, 85, 86, 87, 88, 89, 90, 91, 92, 93]) (q + 7) Q 197 [some (mR 69), some (mI o), some (mI a1), some (mI a2), some (mI so), some (mI (w32 ((w32 (600 * (H 64 19))) + (H 85 (Int.toNat (H 64 19))))))] [] (gs (gs (gs H 86 (Int.toNat (w32 ((w32 (600 * (H 64 19))) + (H 85 (Int.toNat (H 64 19)))))) so) 87 (Int.toNat (w32 ((w32 (600 * (H 64 19))) + (H 85 (Int.toNat (H 64 19)))))) a1) 88 (Int.toNat (w32 ((w32 (600 * (H 64 19))) + (H 85 (Int.toNat (H 64 19)))))) a2) from ?_)
    refine w2_vc [181, 189, 197, 208, 216, 226, 229] 400 oo_X12 q_X12_literal ?_
    refine ⟨(show 0 ≤ (w32 ((w32 (600 * (H 64 19))) + (H 85 (Int.toNat (H 64 19))))) ∧ (w32 ((w32 (600 * (H 64 19))) + (H 85 (Int.toNat (H 64 19))))) < ((1200 : Nat) : Int) from by first | omega | (rw [show (w32 ((w32 (600 * (H 64 19))) + (H 85 (Int.toNat (H 64 19))))) = (600 * (H 64 19)) + (H 85 (Int.toNat (H 64 19))) from by rw [w32_i (x := (600 * (H 64 19))) (by omega) (by omega), w32_i (x := (600 * (H 64 19)) + (H 85 (Int.toNat (H 64 19)))) (by omega) (by omega)]]; omega) | (simp (disch := omega) only [w32_i]; omega)), ?_⟩
    refine (show W2 o_X12 M_X12_literal (inN [64, 72, 73, 74, 75, 76, 77, 78, 79, 80, 81, 82, 83, 84, 85, 86, 87, 88, 89, 90, 91, 92, 93]) (q + 7) Q 208 [some (mR 69), some (mI o), some (mI a1), some (mI a2), some (mI so), some (mI (w32 ((w32 (600 * (H 64 19))) + (H 85 (Int.toNat (H 64 19))))))] [] (gs (gs (gs (gs H 86 (Int.toNat (w32 ((w32 (600 * (H 64 19))) + (H 85 (Int.toNat (H 64 19)))))) so) 87 (Int.toNat (w32 ((w32 (600 * (H 64 19))) + (H 85 (Int.toNat (H 64 19)))))) a1) 88 (Int.toNat (w32 ((w32 (600 * (H 64 19))) + (H 85 (Int.toNat (H 64 19)))))) a2) 89 (Int.toNat (w32 ((w32 (600 * (H 64 19))) + (H 85 (Int.toNat (H 64 19)))))) (H 64 39)) from ?_)
    refine w2_vc [181, 189, 197, 208, 216, 226, 229] 400 oo_X12 q_X12_literal ?_
    refine ⟨(show 0 ≤ (w32 ((w32 (600 * (H 64 19))) + (H 85 (Int.toNat (H 64 19))))) ∧ (w32 ((w32 (600 * (H 64 19))) + (H 85 (Int.toNat (H 64 19))))) < ((1200 : Nat) : Int) from by first | omega | (rw [show (w32 ((w32 (600 * (H 64 19))) + (H 85 (Int.toNat (H 64 19))))) = (600 * (H 64 19)) + (H 85 (Int.toNat (H 64 19))) from by rw [w32_i (x := (600 * (H 64 19))) (by omega) (by omega), w32_i (x := (600 * (H 64 19)) + (H 85 (Int.toNat (H 64 19)))) (by omega) (by omega)]]; omega) | (simp (disch := omega) only [w32_i]; omega)), by omega, ?_⟩
    refine (show W2 o_X12 M_X12_literal (inN [64, 72, 73, 74, 75, 76, 77, 78, 79, 80, 81, 82, 83, 84, 85, 86, 87, 88, 89, 90, 91, 92, 93]) (q + 7) Q 216 [some (mR 69), some (mI o), some (mI a1), some (mI a2), some (mI so), some (mI (w32 ((w32 (600 * (H 64 19))) + (H 85 (Int.toNat (H 64 19))))))] [] (gs (gs (gs (gs (gs H 86 (Int.toNat (w32 ((w32 (600 * (H 64 19))) + (H 85 (Int.toNat (H 64 19)))))) so) 87 (Int.toNat (w32 ((w32 (600 * (H 64 19))) + (H 85 (Int.toNat (H 64 19)))))) a1) 88 (Int.toNat (w32 ((w32 (600 * (H 64 19))) + (H 85 (Int.toNat (H 64 19)))))) a2) 89 (Int.toNat (w32 ((w32 (600 * (H 64 19))) + (H 85 (Int.toNat (H 64 19)))))) (H 64 39)) 90 (Int.toNat (w32 ((w32 (600 * (H 64 19))) + (H 85 (Int.toNat (H 64 19)))))) o) from ?_)
    refine w2_vc [181, 189, 197, 208, 216, 226, 229] 400 oo_X12 q_X12_literal ?_
    refine ⟨(show 0 ≤ (H 64 19) ∧ (H 64 19) < ((2 : Nat) : Int) from by first | omega | (simp (disch := omega) only [w32_i]; omega)), ?_⟩
    refine (show W2 o_X12 M_X12_literal (inN [64, 72, 73, 74, 75, 76, 77, 78, 79, 80, 81, 82, 83, 84, 85, 86, 87, 88, 89, 90, 91, 92, 93]) (q + 7) Q 226 [some (mR 69), some (mI o), some (mI a1), some (mI a2), some (mI so), some (mI (w32 ((w32 (600 * (H 64 19))) + (H 85 (Int.toNat (H 64 19))))))] [mI (H 85 (Int.toNat (H 64 19))), mI (H 64 19), mR 90] (gs (gs (gs (gs (gs H 86 (Int.toNat (w32 ((w32 (600 * (H 64 19))) + (H 85 (Int.toNat (H 64 19)))))) so) 87 (Int.toNat (w32 ((w32 (600 * (H 64 19))) + (H 85 (Int.toNat (H 64 19)))))) a1) 88 (Int.toNat (w32 ((w32 (600 * (H 64 19))) + (H 85 (Int.toNat (H 64 19)))))) a2) 89 (Int.toNat (w32 ((w32 (600 * (H 64 19))) + (H 85 (Int.toNat (H 64 19)))))) (H 64 39)) 90 (Int.toNat (w32 ((w32 (600 * (H 64 19))) + (H 85 (Int.toNat (H 64 19)))))) o) from ?_)
    refine w2_vc [181, 189, 197, 208, 216, 226, 229] 400 oo_X12 q_X12_literal ?_
    refine ⟨(show 0 ≤ (H 64 19) ∧ (H 64 19) < ((2 : Nat) : Int) from by first | omega | (simp (disch := omega) only [w32_i]; omega)), ?_⟩
    refine (show W2 o_X12 M_X12_literal (inN [64, 72, 73, 74, 75, 76, 77, 78, 79, 80, 81, 82, 83, 84, 85, 86, 87, 88, 89, 90, 91, 92, 93]) (q + 7) Q 229 [some (mR 69), some (mI o), some (mI a1), some (mI a2), some (mI so), some (mI (w32 ((w32 (600 * (H 64 19))) + (H 85 (Int.toNat (H 64 19))))))] [] (gs (gs (gs (gs (gs (gs H 86 (Int.toNat (w32 ((w32 (600 * (H 64 19))) + (H 85 (Int.toNat (H 64 19)))))) so) 87 (Int.toNat (w32 ((w32 (600 * (H 64 19))) + (H 85 (Int.toNat (H 64 19)))))) a1) 88 (Int.toNat (w32 ((w32 (600 * (H 64 19))) + (H 85 (Int.toNat (H 64 19)))))) a2) 89 (Int.toNat (w32 ((w32 (600 * (H 64 19))) + (H 85 (Int.toNat (H 64 19)))))) (H 64 39)) 90 (Int.toNat (w32 ((w32 (600 * (H 64 19))) + (H 85 (Int.toNat (H 64 19)))))) o) 85 (Int.toNat (H 64 19)) (w32 ((H 85 (Int.toNat (H 64 19))) + 1))) from ?_)
    refine w2_vc [181, 189, 197, 208, 216, 226, 229] 400 oo_X12 q_X12_literal ?_
    exact h2 (by omega)
  · skip
    exact h1 (by omega)
set_option maxHeartbeats 8000000 in
theorem cd_0 {D : Nat → Bool} {q : Nat} {H : mG} {Q : Option mV → mG → Prop} (hD : ∀ k, D k = false → inN [64, 72, 73, 74, 75, 76, 77, 78, 79, 80, 81, 82, 83, 84, 85, 86, 87, 88, 89, 90, 91, 92, 93] k = false) (h : W2 o_X12 M_X12_condition (inN [64, 72, 73, 74, 75, 76, 77, 78, 79, 80, 81, 82, 83, 84, 85, 86, 87, 88, 89, 90, 91, 92, 93]) (q + 9) Q 4 [some (mR 69), some (mI 1), some (mI 1)] [] H) : P2 D (q + 9) M_X12_condition [mR 69] H Q := by
  refine MP.to (D2 := inN [64, 72, 73, 74, 75, 76, 77, 78, 79, 80, 81, 82, 83, 84, 85, 86, 87, 88, 89, 90, 91, 92, 93]) (Q2 := Q) ?_ hD (fun v G' q _ => q)
  refine p2_vc [4] 400 oo_X12 q_X12_condition (by decide) rfl (Nat.le_of_ble_eq_true rfl) ?_
  refine (show W2 o_X12 M_X12_condition (inN [64, 72, 73, 74, 75, 76, 77, 78, 79, 80, 81, 82, 83, 84, 85, 86, 87, 88, 89, 90, 91, 92, 93]) (q + 9) Q 4 [some (mR 69), some (mI 1), some (mI 1)] [] H from ?_)
  exact h
set_option maxHeartbeats 8000000 in
theorem cd_4 {q : Nat} {H : mG} {Q : Option mV → mG → Prop} {o : Int} {R : mG → Prop} (hf : H 64 13 = 0) (hL : (∀ Q' : Option mV → mG → Prop, (∀ H', R H' → Q' none H') → P2 (inN [64, 72, 73, 74, 75, 76, 77, 78, 79, 80, 81, 82, 83, 84, 85, 86, 87, 88, 89, 90, 91, 92, 93]) (q + 8) M_X12_literal [mR 69, mI o] H Q')) (h : ∀ H2, R H2 → W2 o_X12 M_X12_condition (inN [64, 72, 73, 74, 75, 76, 77, 78, 79, 80, 81, 82, 83, 84, 85, 86, 87, 88, 89, 90, 91, 92, 93]) (q + 9) Q 20 [some (mR 69), some (mI o), some (mI 1)] [] H2) : W2 o_X12 M_X12_condition (inN [64, 72, 73, 74, 75, 76, 77, 78, 79, 80, 81, 82, 83, 84, 85, 86, 87, 88, 89, 90, 91, 92, 93]) (q + 9) Q 4 [some (mR 69), some (mI o), some (mI 1)] [] H := by
  refine w2_vc [20] 400 oo_X12 q_X12_condition ?_
  refine ⟨fun (c : (1 : Int) = 0) => absurd c (by decide), fun _ => ?_⟩
  refine ⟨fun (c1 : ¬ (H 64 13) = 0) => ?_, fun (c1 : (H 64 13) = 0) => ?_⟩
  · skip
    exfalso; omega
  · skip
    refine hL _ (fun H' hH' => ?_)
    refine (show W2 o_X12 M_X12_condition (inN [64, 72, 73, 74, 75, 76, 77, 78, 79, 80, 81, 82, 83, 84, 85, 86, 87, 88, 89, 90, 91, 92, 93]) (q + 9) Q 20 [some (mR 69), some (mI o), some (mI 1)] [] H' from ?_)
    exact h H' hH'
set_option maxHeartbeats 8000000 in
theorem cd_4b {q : Nat} {H : mG} {Q : Option mV → mG → Prop} {o : Int} (hf : ¬ H 64 13 = 0) (h : Q none H) : W2 o_X12 M_X12_condition (inN [64, 72, 73, 74, 75, 76, 77, 78, 79, 80, 81, 82, 83, 84, 85, 86, 87, 88, 89, 90, 91, 92, 93]) (q + 9) Q 4 [some (mR 69), some (mI o), some (mI 1)] [] H := by
  refine w2_vc [15] 400 oo_X12 q_X12_condition ?_
  refine ⟨fun (c : (1 : Int) = 0) => absurd c (by decide), fun _ => ?_⟩
  refine ⟨fun (c1 : ¬ (H 64 13) = 0) => ?_, fun (c1 : (H 64 13) = 0) => ?_⟩
  · skip
    exact h
  · skip
    refine (show W2 o_X12 M_X12_condition (inN [64, 72, 73, 74, 75, 76, 77, 78, 79, 80, 81, 82, 83, 84, 85, 86, 87, 88, 89, 90, 91, 92, 93]) (q + 9) Q 15 [some (mR 69), some (mI o), some (mI 1)] [] H from ?_)
    exfalso; omega
set_option maxHeartbeats 8000000 in
theorem cd_20 {q : Nat} {H : mG} {Q : Option mV → mG → Prop} {o : Int} (hT : 0 ≤ H 64 11 ∧ H 64 11 ≤ 600) (h2 : H 64 13 = 0 → (H 67 (Int.toNat (H 64 11))) = 31 → W2 o_X12 M_X12_condition (inN [64, 72, 73, 74, 75, 76, 77, 78, 79, 80, 81, 82, 83, 84, 85, 86, 87, 88, 89, 90, 91, 92, 93]) (q + 9) Q 4 [some (mR 69), some (mI 1), some (mI 1)] [] (e_X12_next H)) (h3 : H 64 13 = 0 → (H 67 (Int.toNat (H 64 11))) = 32 → W2 o_X12 M_X12_condition (inN [64, 72, 73, 74, 75, 76, 77, 78, 79, 80, 81, 82, 83, 84, 85, 86, 87, 88, 89, 90, 91, 92, 93]) (q + 9) Q 4 [some (mR 69), some (mI 0), some (mI 1)] [] (e_X12_next H)) (h4 : ∀ x : Int, ¬ (H 64 13 = 0 ∧ ((H 67 (Int.toNat (H 64 11))) = 31 ∨ (H 67 (Int.toNat (H 64 11))) = 32)) → W2 o_X12 M_X12_condition (inN [64, 72, 73, 74, 75, 76, 77, 78, 79, 80, 81, 82, 83, 84, 85, 86, 87, 88, 89, 90, 91, 92, 93]) (q + 9) Q 4 [some (mR 69), some (mI x), some (mI 0)] [] H) : W2 o_X12 M_X12_condition (inN [64, 72, 73, 74, 75, 76, 77, 78, 79, 80, 81, 82, 83, 84, 85, 86, 87, 88, 89, 90, 91, 92, 93]) (q + 9) Q 20 [some (mR 69), some (mI o), some (mI 1)] [] H := by
  refine w2_vc [4] 400 oo_X12 q_X12_condition ?_
  refine sp_X12_is (by first | omega | (simp (disch := decide) only [gs_ne, gs_at_ne, gs_at]; omega)) ?_
  have c2 := fa_X12_is H 31
  refine ⟨fun (c3 : ¬ (f_X12_is H 31) = 0) => ?_, fun (c3 : (f_X12_is H 31) = 0) => ?_⟩
  · skip
    refine ⟨fun (c : (1 : Int) = 0) => absurd c (by decide), fun _ => ?_⟩
    refine sp_X12_next (by first | omega | (simp (disch := decide) only [gs_ne, gs_at_ne, gs_at]; omega)) (insub (by decide)) ?_
    have c5 := fx_next H
    refine (show W2 o_X12 M_X12_condition (inN [64, 72, 73, 74, 75, 76, 77, 78, 79, 80, 81, 82, 83, 84, 85, 86, 87, 88, 89, 90, 91, 92, 93]) (q + 9) Q 4 [some (mR 69), some (mI (f_X12_is H 31)), some (mI 1)] [] (e_X12_next H ) from ?_)
    first | (rw [show f_X12_is H 31 = 1 from by omega]; exact h2 (by omega) (by omega)) | (rw [show f_X12_is H 31 = 0 from by omega]; exact h3 (by omega) (by omega)) | (exfalso; omega)
  · skip
    refine sp_X12_is (by first | omega | (simp (disch := decide) only [gs_ne, gs_at_ne, gs_at]; omega)) ?_
    have c7 := fa_X12_is H 32
    refine ⟨fun (c8 : (f_X12_is H 32) = 0) => ?_, fun (c8 : ¬ (f_X12_is H 32) = 0) => ?_⟩
    · skip
      refine ⟨fun _ => ?_, fun (c : ¬ (0 : Int) = 0) => absurd c (by decide)⟩
      refine (show W2 o_X12 M_X12_condition (inN [64, 72, 73, 74, 75, 76, 77, 78, 79, 80, 81, 82, 83, 84, 85, 86, 87, 88, 89, 90, 91, 92, 93]) (q + 9) Q 4 [some (mR 69), some (mI (f_X12_is H 31)), some (mI 0)] [] H from ?_)
      exact h4 _ (by omega)
    · skip
      refine ⟨fun (c : (1 : Int) = 0) => absurd c (by decide), fun _ => ?_⟩
      refine sp_X12_next (by first | omega | (simp (disch := decide) only [gs_ne, gs_at_ne, gs_at]; omega)) (insub (by decide)) ?_
      have c10 := fx_next H
      refine (show W2 o_X12 M_X12_condition (inN [64, 72, 73, 74, 75, 76, 77, 78, 79, 80, 81, 82, 83, 84, 85, 86, 87, 88, 89, 90, 91, 92, 93]) (q + 9) Q 4 [some (mR 69), some (mI (f_X12_is H 31)), some (mI 1)] [] (e_X12_next H ) from ?_)
      first | (rw [show f_X12_is H 31 = 1 from by omega]; exact h2 (by omega) (by omega)) | (rw [show f_X12_is H 31 = 0 from by omega]; exact h3 (by omega) (by omega)) | (exfalso; omega)
set_option maxHeartbeats 8000000 in
theorem cd_4c {q : Nat} {H : mG} {Q : Option mV → mG → Prop} {o : Int} (h : Q none H) : W2 o_X12 M_X12_condition (inN [64, 72, 73, 74, 75, 76, 77, 78, 79, 80, 81, 82, 83, 84, 85, 86, 87, 88, 89, 90, 91, 92, 93]) (q + 9) Q 4 [some (mR 69), some (mI o), some (mI 0)] [] H := by
  refine w2_vc [] 400 oo_X12 q_X12_condition ?_
  refine ⟨fun _ => ?_, fun (c : ¬ (0 : Int) = 0) => absurd c (by decide)⟩
  exact h
set_option maxHeartbeats 8000000 in
theorem tl_0 {D : Nat → Bool} {q : Nat} {H : mG} {Q : Option mV → mG → Prop} (hD : ∀ k, D k = false → inN [64, 72, 73, 74, 75, 76, 77, 78, 79, 80, 81, 82, 83, 84, 85, 86, 87, 88, 89, 90, 91, 92, 93] k = false) {cp : Int} (hf : H 64 13 = 0) (hT : 0 ≤ H 64 11 ∧ H 64 11 ≤ 600) (hs : 0 ≤ H 64 19 ∧ H 64 19 ≤ 1) (hm : 0 ≤ H 76 (Int.toNat (H 64 19)) ∧ H 76 (Int.toNat (H 64 19)) ≤ 40) (h1 : ¬ ((H 67 (Int.toNat (H 64 11))) = 24 ∨ (H 67 (Int.toNat (H 64 11))) = 27 ∨ (H 67 (Int.toNat (H 64 11))) = 28 ∨ (H 67 (Int.toNat (H 64 11))) = 29) → Q none (e_X12_fail H 1)) (h2 : ((H 67 (Int.toNat (H 64 11))) = 24 ∨ (H 67 (Int.toNat (H 64 11))) = 27 ∨ (H 67 (Int.toNat (H 64 11))) = 28 ∨ (H 67 (Int.toNat (H 64 11))) = 29) → H 76 (Int.toNat (H 64 19)) = 40 → Q none (e_X12_fail H 2)) (h3 : ((H 67 (Int.toNat (H 64 11))) = 24 ∨ (H 67 (Int.toNat (H 64 11))) = 27 ∨ (H 67 (Int.toNat (H 64 11))) = 28 ∨ (H 67 (Int.toNat (H 64 11))) = 29) → ¬ H 76 (Int.toNat (H 64 19)) = 40 → W2 o_X12 M_X12_tellClause (inN [64, 72, 73, 74, 75, 76, 77, 78, 79, 80, 81, 82, 83, 84, 85, 86, 87, 88, 89, 90, 91, 92, 93]) (q + 12) Q 81 [some (mR 69), some (mI cp), none, none, none, none, none, none] [] H) : P2 D (q + 12) M_X12_tellClause [mR 69, mI cp] H Q := by
  refine MP.to (D2 := inN [64, 72, 73, 74, 75, 76, 77, 78, 79, 80, 81, 82, 83, 84, 85, 86, 87, 88, 89, 90, 91, 92, 93]) (Q2 := Q) ?_ hD (fun v G' q _ => q)
  refine p2_vc [81] 400 oo_X12 q_X12_tellClause (by decide) rfl (Nat.le_of_ble_eq_true rfl) ?_
  refine sp_X12_is (by first | omega | (simp (disch := decide) only [gs_ne, gs_at_ne, gs_at]; omega)) ?_
  have c2 := fa_X12_is H 24
  refine ⟨fun (c3 : ¬ (f_X12_is H 24) = 0) => ?_, fun (c3 : (f_X12_is H 24) = 0) => ?_⟩
  · skip
    refine ⟨fun _ => ?_, fun (c : (1 : Int) = 0) => absurd c (by decide)⟩
    refine ⟨(show 0 ≤ (H 64 19) ∧ (H 64 19) < ((2 : Nat) : Int) from by first | omega | (simp (disch := omega) only [w32_i]; omega)), ?_⟩
    refine ⟨fun (c4 : ¬ (H 76 (Int.toNat (H 64 19))) = 40) => ?_, fun (c4 : (H 76 (Int.toNat (H 64 19))) = 40) => ?_⟩
    · skip
      refine ⟨fun (c5 : (H 64 13) ≤ 0) => ?_, fun (c5 : 0 < (H 64 13)) => ?_⟩
      · skip
        refine (show W2 o_X12 M_X12_tellClause (inN [64, 72, 73, 74, 75, 76, 77, 78, 79, 80, 81, 82, 83, 84, 85, 86, 87, 88, 89, 90, 91, 92, 93]) (q + 12) Q 81 [some (mR 69), some (mI cp), some (mI 1), none, none, none, none, none] [] H from ?_)
        refine WP.fg (L' := [some (mR 69), some (mI cp), none, none, none, none, none, none]) ⟨rfl, rfl, trivial⟩ ?_
        exact h3 (by omega) (by omega)
      · skip
        exfalso; omega
    · skip
      refine sp_X12_fail (by first | omega | (simp (disch := decide) only [gs_ne, gs_at_ne, gs_at]; omega)) (insub (by decide)) ?_
      have c7 := fx_fail H 2
      refine ⟨fun (c8 : ((e_X12_fail H 2) 64 13) ≤ 0) => ?_, fun (c8 : 0 < ((e_X12_fail H 2) 64 13)) => ?_⟩
      · skip
        refine (show W2 o_X12 M_X12_tellClause (inN [64, 72, 73, 74, 75, 76, 77, 78, 79, 80, 81, 82, 83, 84, 85, 86, 87, 88, 89, 90, 91, 92, 93]) (q + 12) Q 81 [some (mR 69), some (mI cp), some (mI 1), none, none, none, none, none] [] (e_X12_fail H 2) from ?_)
        exfalso; omega
      · skip
        exact h2 (by omega) (by omega)
  · skip
    refine sp_X12_is (by first | omega | (simp (disch := decide) only [gs_ne, gs_at_ne, gs_at]; omega)) ?_
    have c10 := fa_X12_is H 27
    refine ⟨fun (c11 : ¬ (f_X12_is H 27) = 0) => ?_, fun (c11 : (f_X12_is H 27) = 0) => ?_⟩
    · skip
      refine ⟨fun _ => ?_, fun (c : (1 : Int) = 0) => absurd c (by decide)⟩
      refine ⟨(show 0 ≤ (H 64 19) ∧ (H 64 19) < ((2 : Nat) : Int) from by first | omega | (simp (disch := omega) only [w32_i]; omega)), ?_⟩
      refine ⟨fun (c12 : ¬ (H 76 (Int.toNat (H 64 19))) = 40) => ?_, fun (c12 : (H 76 (Int.toNat (H 64 19))) = 40) => ?_⟩
      · skip
        refine ⟨fun (c13 : (H 64 13) ≤ 0) => ?_, fun (c13 : 0 < (H 64 13)) => ?_⟩
        · skip
          refine (show W2 o_X12 M_X12_tellClause (inN [64, 72, 73, 74, 75, 76, 77, 78, 79, 80, 81, 82, 83, 84, 85, 86, 87, 88, 89, 90, 91, 92, 93]) (q + 12) Q 81 [some (mR 69), some (mI cp), some (mI 1), none, none, none, none, none] [] H from ?_)
          refine WP.fg (L' := [some (mR 69), some (mI cp), none, none, none, none, none, none]) ⟨rfl, rfl, trivial⟩ ?_
          exact h3 (by omega) (by omega)
        · skip
          exfalso; omega
      · skip
        refine sp_X12_fail (by first | omega | (simp (disch := decide) only [gs_ne, gs_at_ne, gs_at]; omega)) (insub (by decide)) ?_
        have c15 := fx_fail H 2
        refine ⟨fun (c16 : ((e_X12_fail H 2) 64 13) ≤ 0) => ?_, fun (c16 : 0 < ((e_X12_fail H 2) 64 13)) => ?_⟩
        · skip
          refine (show W2 o_X12 M_X12_tellClause (inN [64, 72, 73, 74, 75, 76, 77, 78, 79, 80, 81, 82, 83, 84, 85, 86, 87, 88, 89, 90, 91, 92, 93]) (q + 12) Q 81 [some (mR 69), some (mI cp), some (mI 1), none, none, none, none, none] [] (e_X12_fail H 2) from ?_)
          exfalso; omega
        · skip
          exact h2 (by omega) (by omega)
    · skip
      refine sp_X12_is (by first | omega | (simp (disch := decide) only [gs_ne, gs_at_ne, gs_at]; omega)) ?_
      have c18 := fa_X12_is H 28
      refine ⟨fun (c19 : ¬ (f_X12_is H 28) = 0) => ?_, fun (c19 : (f_X12_is H 28) = 0) => ?_⟩
      · skip
        refine ⟨fun _ => ?_, fun (c : (1 : Int) = 0) => absurd c (by decide)⟩
        refine ⟨(show 0 ≤ (H 64 19) ∧ (H 64 19) < ((2 : Nat) : Int) from by first | omega | (simp (disch := omega) only [w32_i]; omega)), ?_⟩
        refine ⟨fun (c20 : ¬ (H 76 (Int.toNat (H 64 19))) = 40) => ?_, fun (c20 : (H 76 (Int.toNat (H 64 19))) = 40) => ?_⟩
        · skip
          refine ⟨fun (c21 : (H 64 13) ≤ 0) => ?_, fun (c21 : 0 < (H 64 13)) => ?_⟩
          · skip
            refine (show W2 o_X12 M_X12_tellClause (inN [64, 72, 73, 74, 75, 76, 77, 78, 79, 80, 81, 82, 83, 84, 85, 86, 87, 88, 89, 90, 91, 92, 93]) (q + 12) Q 81 [some (mR 69), some (mI cp), some (mI 1), none, none, none, none, none] [] H from ?_)
            refine WP.fg (L' := [some (mR 69), some (mI cp), none, none, none, none, none, none]) ⟨rfl, rfl, trivial⟩ ?_
            exact h3 (by omega) (by omega)
          · skip
            exfalso; omega
        · skip
          refine sp_X12_fail (by first | omega | (simp (disch := decide) only [gs_ne, gs_at_ne, gs_at]; omega)) (insub (by decide)) ?_
          have c23 := fx_fail H 2
          refine ⟨fun (c24 : ((e_X12_fail H 2) 64 13) ≤ 0) => ?_, fun (c24 : 0 < ((e_X12_fail H 2) 64 13)) => ?_⟩
          · skip
            refine (show W2 o_X12 M_X12_tellClause (inN [64, 72, 73, 74, 75, 76, 77, 78, 79, 80, 81, 82, 83, 84, 85, 86, 87, 88, 89, 90, 91, 92, 93]) (q + 12) Q 81 [some (mR 69), some (mI cp), some (mI 1), none, none, none, none, none] [] (e_X12_fail H 2) from ?_)
            exfalso; omega
          · skip
            exact h2 (by omega) (by omega)
      · skip
        refine sp_X12_is (by first | omega | (simp (disch := decide) only [gs_ne, gs_at_ne, gs_at]; omega)) ?_
        have c26 := fa_X12_is H 29
        refine ⟨fun (c27 : (f_X12_is H 29) = 0) => ?_, fun (c27 : ¬ (f_X12_is H 29) = 0) => ?_⟩
        · skip
          refine ⟨fun (c : ¬ (0 : Int) = 0) => absurd c (by decide), fun _ => ?_⟩
          refine sp_X12_fail (by first | omega | (simp (disch := decide) only [gs_ne, gs_at_ne, gs_at]; omega)) (insub (by decide)) ?_
          have c29 := fx_fail H 1
          refine ⟨fun (c30 : ((e_X12_fail H 1) 64 13) ≤ 0) => ?_, fun (c30 : 0 < ((e_X12_fail H 1) 64 13)) => ?_⟩
          · skip
            refine (show W2 o_X12 M_X12_tellClause (inN [64, 72, 73, 74, 75, 76, 77, 78, 79, 80, 81, 82, 83, 84, 85, 86, 87, 88, 89, 90, 91, 92, 93]) (q + 12) Q 81 [some (mR 69), some (mI cp), some (mI 0), none, none, none, none, none] [] (e_X12_fail H 1) from ?_)
            exfalso; omega
          · skip
            exact h1 (by omega)
        · skip
          refine ⟨fun _ => ?_, fun (c : (1 : Int) = 0) => absurd c (by decide)⟩
          refine ⟨(show 0 ≤ (H 64 19) ∧ (H 64 19) < ((2 : Nat) : Int) from by first | omega | (simp (disch := omega) only [w32_i]; omega)), ?_⟩
          refine ⟨fun (c31 : ¬ (H 76 (Int.toNat (H 64 19))) = 40) => ?_, fun (c31 : (H 76 (Int.toNat (H 64 19))) = 40) => ?_⟩
          · skip
            refine ⟨fun (c32 : (H 64 13) ≤ 0) => ?_, fun (c32 : 0 < (H 64 13)) => ?_⟩
            · skip
              refine (show W2 o_X12 M_X12_tellClause (inN [64, 72, 73, 74, 75, 76, 77, 78, 79, 80, 81, 82, 83, 84, 85, 86, 87, 88, 89, 90, 91, 92, 93]) (q + 12) Q 81 [some (mR 69), some (mI cp), some (mI 1), none, none, none, none, none] [] H from ?_)
              refine WP.fg (L' := [some (mR 69), some (mI cp), none, none, none, none, none, none]) ⟨rfl, rfl, trivial⟩ ?_
              exact h3 (by omega) (by omega)
            · skip
              exfalso; omega
          · skip
            refine sp_X12_fail (by first | omega | (simp (disch := decide) only [gs_ne, gs_at_ne, gs_at]; omega)) (insub (by decide)) ?_
            have c34 := fx_fail H 2
            refine ⟨fun (c35 : ((e_X12_fail H 2) 64 13) ≤ 0) => ?_, fun (c35 : 0 < ((e_X12_fail H 2) 64 13)) => ?_⟩
            · skip
              refine (show W2 o_X12 M_X12_tellClause (inN [64, 72, 73, 74, 75, 76, 77, 78, 79, 80, 81, 82, 83, 84, 85, 86, 87, 88, 89, 90, 91, 92, 93]) (q + 12) Q 81 [some (mR 69), some (mI cp), some (mI 1), none, none, none, none, none] [] (e_X12_fail H 2) from ?_)
              exfalso; omega
            · skip
              exact h2 (by omega) (by omega)
set_option maxHeartbeats 8000000 in
theorem tl_81 {q : Nat} {H : mG} {Q : Option mV → mG → Prop} {cp : Int} (hf : H 64 13 = 0) (hT : 0 ≤ H 64 11 ∧ H 64 11 ≤ 600) (hs : 0 ≤ H 64 19 ∧ H 64 19 ≤ 1) (hm : 0 ≤ H 76 (Int.toNat (H 64 19)) ∧ H 76 (Int.toNat (H 64 19)) < 40) (hb : ((H 67 (Int.toNat (H 64 11))) = 24 ∨ (H 67 (Int.toNat (H 64 11))) = 27 ∨ (H 67 (Int.toNat (H 64 11))) = 28 ∨ (H 67 (Int.toNat (H 64 11))) = 29)) (h : ∀ so : Int, (so = 0 ∧ (H 67 (Int.toNat (H 64 11))) = 24 ∨ so = 1 ∧ (H 67 (Int.toNat (H 64 11))) = 27 ∨ so = 2 ∧ (H 67 (Int.toNat (H 64 11))) = 28 ∨ so = 3 ∧ (H 67 (Int.toNat (H 64 11))) = 29) → W2 o_X12 M_X12_tellClause (inN [64, 72, 73, 74, 75, 76, 77, 78, 79, 80, 81, 82, 83, 84, 85, 86, 87, 88, 89, 90, 91, 92, 93]) (q + 12) Q 167 [some (mR 69), some (mI cp), none, some (mI (w32 ((w32 (40 * (H 64 19))) + (H 76 (Int.toNat (H 64 19)))))), none, none, none, none] [] (gs (gs (gs H 78 (Int.toNat (w32 ((w32 (40 * (H 64 19))) + (H 76 (Int.toNat (H 64 19)))))) cp) 82 (Int.toNat (w32 ((w32 (40 * (H 64 19))) + (H 76 (Int.toNat (H 64 19)))))) (H 85 (Int.toNat (H 64 19)))) 77 (Int.toNat (w32 ((w32 (40 * (H 64 19))) + (H 76 (Int.toNat (H 64 19)))))) so)) : W2 o_X12 M_X12_tellClause (inN [64, 72, 73, 74, 75, 76, 77, 78, 79, 80, 81, 82, 83, 84, 85, 86, 87, 88, 89, 90, 91, 92, 93]) (q + 12) Q 81 [some (mR 69), some (mI cp), none, none, none, none, none, none] [] H := by
  refine w2_vc [106, 120, 121, 132, 145, 158, 167] 400 oo_X12 q_X12_tellClause ?_
  refine ⟨(show 0 ≤ (H 64 19) ∧ (H 64 19) < ((2 : Nat) : Int) from by first | omega | (simp (disch := omega) only [w32_i]; omega)), ?_⟩
  refine ⟨(show 0 ≤ (w32 ((w32 (40 * (H 64 19))) + (H 76 (Int.toNat (H 64 19))))) ∧ (w32 ((w32 (40 * (H 64 19))) + (H 76 (Int.toNat (H 64 19))))) < ((80 : Nat) : Int) from by first | omega | (rw [show (w32 ((w32 (40 * (H 64 19))) + (H 76 (Int.toNat (H 64 19))))) = (40 * (H 64 19)) + (H 76 (Int.toNat (H 64 19))) from by rw [w32_i (x := (40 * (H 64 19))) (by omega) (by omega), w32_i (x := (40 * (H 64 19)) + (H 76 (Int.toNat (H 64 19)))) (by omega) (by omega)]]; omega) | (simp (disch := omega) only [w32_i]; omega)), ?_⟩
  refine (show W2 o_X12 M_X12_tellClause (inN [64, 72, 73, 74, 75, 76, 77, 78, 79, 80, 81, 82, 83, 84, 85, 86, 87, 88, 89, 90, 91, 92, 93]) (q + 12) Q 106 [some (mR 69), some (mI cp), none, some (mI (w32 ((w32 (40 * (H 64 19))) + (H 76 (Int.toNat (H 64 19)))))), none, none, none, none] [] (gs H 78 (Int.toNat (w32 ((w32 (40 * (H 64 19))) + (H 76 (Int.toNat (H 64 19)))))) cp) from ?_)
  refine w2_vc [106, 120, 121, 132, 145, 158, 167] 400 oo_X12 q_X12_tellClause ?_
  refine ⟨(show 0 ≤ (H 64 19) ∧ (H 64 19) < ((2 : Nat) : Int) from by first | omega | (simp (disch := omega) only [w32_i]; omega)), ?_⟩
  refine (show W2 o_X12 M_X12_tellClause (inN [64, 72, 73, 74, 75, 76, 77, 78, 79, 80, 81, 82, 83, 84, 85, 86, 87, 88, 89, 90, 91, 92, 93]) (q + 12) Q 120 [some (mR 69), some (mI cp), none, some (mI (w32 ((w32 (40 * (H 64 19))) + (H 76 (Int.toNat (H 64 19)))))), none, none, none, none] [mI (H 85 (Int.toNat (H 64 19))), mI (w32 ((w32 (40 * (H 64 19))) + (H 76 (Int.toNat (H 64 19))))), mR 87] (gs H 78 (Int.toNat (w32 ((w32 (40 * (H 64 19))) + (H 76 (Int.toNat (H 64 19)))))) cp) from ?_)
  refine w2_vc [106, 120, 121, 132, 145, 158, 167] 400 oo_X12 q_X12_tellClause ?_
  refine ⟨(show 0 ≤ (w32 ((w32 (40 * (H 64 19))) + (H 76 (Int.toNat (H 64 19))))) ∧ (w32 ((w32 (40 * (H 64 19))) + (H 76 (Int.toNat (H 64 19))))) < ((80 : Nat) : Int) from by first | omega | (rw [show (w32 ((w32 (40 * (H 64 19))) + (H 76 (Int.toNat (H 64 19))))) = (40 * (H 64 19)) + (H 76 (Int.toNat (H 64 19))) from by rw [w32_i (x := (40 * (H 64 19))) (by omega) (by omega), w32_i (x := (40 * (H 64 19)) + (H 76 (Int.toNat (H 64 19)))) (by omega) (by omega)]]; omega) | (simp (disch := omega) only [w32_i]; omega)), ?_⟩
  refine (show W2 o_X12 M_X12_tellClause (inN [64, 72, 73, 74, 75, 76, 77, 78, 79, 80, 81, 82, 83, 84, 85, 86, 87, 88, 89, 90, 91, 92, 93]) (q + 12) Q 121 [some (mR 69), some (mI cp), none, some (mI (w32 ((w32 (40 * (H 64 19))) + (H 76 (Int.toNat (H 64 19)))))), none, none, none, none] [] (gs (gs H 78 (Int.toNat (w32 ((w32 (40 * (H 64 19))) + (H 76 (Int.toNat (H 64 19)))))) cp) 82 (Int.toNat (w32 ((w32 (40 * (H 64 19))) + (H 76 (Int.toNat (H 64 19)))))) (H 85 (Int.toNat (H 64 19)))) from ?_)
  refine w2_vc [106, 120, 121, 132, 145, 158, 167] 400 oo_X12 q_X12_tellClause ?_
  refine sp_X12_is (by rw [gs_ne (by decide), gs_ne (by decide)]; omega) ?_
  have c1 : (f_X12_is (gs (gs H 78 (Int.toNat (w32 ((w32 (40 * (H 64 19))) + (H 76 (Int.toNat (H 64 19)))))) cp) 82 (Int.toNat (w32 ((w32 (40 * (H 64 19))) + (H 76 (Int.toNat (H 64 19)))))) (H 85 (Int.toNat (H 64 19)))) 24 = 1 ∧ (H 67 (Int.toNat (H 64 11))) = 24) ∨ (f_X12_is (gs (gs H 78 (Int.toNat (w32 ((w32 (40 * (H 64 19))) + (H 76 (Int.toNat (H 64 19)))))) cp) 82 (Int.toNat (w32 ((w32 (40 * (H 64 19))) + (H 76 (Int.toNat (H 64 19)))))) (H 85 (Int.toNat (H 64 19)))) 24 = 0 ∧ ¬ (H 67 (Int.toNat (H 64 11))) = 24) := by have y := fa_X12_is (gs (gs H 78 (Int.toNat (w32 ((w32 (40 * (H 64 19))) + (H 76 (Int.toNat (H 64 19)))))) cp) 82 (Int.toNat (w32 ((w32 (40 * (H 64 19))) + (H 76 (Int.toNat (H 64 19)))))) (H 85 (Int.toNat (H 64 19)))) 24; rw [gs_ne (by decide), gs_ne (by decide), gs_ne (by decide), gs_ne (by decide)] at y; omega
  refine (show W2 o_X12 M_X12_tellClause (inN [64, 72, 73, 74, 75, 76, 77, 78, 79, 80, 81, 82, 83, 84, 85, 86, 87, 88, 89, 90, 91, 92, 93]) (q + 12) Q 132 [some (mR 69), some (mI cp), none, some (mI (w32 ((w32 (40 * (H 64 19))) + (H 76 (Int.toNat (H 64 19)))))), none, none, none, none] [mI (f_X12_is (gs (gs H 78 (Int.toNat (w32 ((w32 (40 * (H 64 19))) + (H 76 (Int.toNat (H 64 19)))))) cp) 82 (Int.toNat (w32 ((w32 (40 * (H 64 19))) + (H 76 (Int.toNat (H 64 19)))))) (H 85 (Int.toNat (H 64 19)))) 24), mI (w32 ((w32 (40 * (H 64 19))) + (H 76 (Int.toNat (H 64 19))))), mR 82] (gs (gs H 78 (Int.toNat (w32 ((w32 (40 * (H 64 19))) + (H 76 (Int.toNat (H 64 19)))))) cp) 82 (Int.toNat (w32 ((w32 (40 * (H 64 19))) + (H 76 (Int.toNat (H 64 19)))))) (H 85 (Int.toNat (H 64 19)))) from ?_)
  refine w2_vc [106, 120, 121, 132, 145, 158, 167] 400 oo_X12 q_X12_tellClause ?_
  refine ⟨fun (c2 : (f_X12_is (gs (gs H 78 (Int.toNat (w32 ((w32 (40 * (H 64 19))) + (H 76 (Int.toNat (H 64 19)))))) cp) 82 (Int.toNat (w32 ((w32 (40 * (H 64 19))) + (H 76 (Int.toNat (H 64 19)))))) (H 85 (Int.toNat (H 64 19)))) 24) = 0) => ?_, fun (c2 : ¬ (f_X12_is (gs (gs H 78 (Int.toNat (w32 ((w32 (40 * (H 64 19))) + (H 76 (Int.toNat (H 64 19)))))) cp) 82 (Int.toNat (w32 ((w32 (40 * (H 64 19))) + (H 76 (Int.toNat (H 64 19)))))) (H 85 (Int.toNat (H 64 19)))) 24) = 0) => ?_⟩
  · skip
    refine sp_X12_is (by rw [gs_ne (by decide), gs_ne (by decide)]; omega) ?_
    have c3 : (f_X12_is (gs (gs H 78 (Int.toNat (w32 ((w32 (40 * (H 64 19))) + (H 76 (Int.toNat (H 64 19)))))) cp) 82 (Int.toNat (w32 ((w32 (40 * (H 64 19))) + (H 76 (Int.toNat (H 64 19)))))) (H 85 (Int.toNat (H 64 19)))) 27 = 1 ∧ (H 67 (Int.toNat (H 64 11))) = 27) ∨ (f_X12_is (gs (gs H 78 (Int.toNat (w32 ((w32 (40 * (H 64 19))) + (H 76 (Int.toNat (H 64 19)))))) cp) 82 (Int.toNat (w32 ((w32 (40 * (H 64 19))) + (H 76 (Int.toNat (H 64 19)))))) (H 85 (Int.toNat (H 64 19)))) 27 = 0 ∧ ¬ (H 67 (Int.toNat (H 64 11))) = 27) := by have y := fa_X12_is (gs (gs H 78 (Int.toNat (w32 ((w32 (40 * (H 64 19))) + (H 76 (Int.toNat (H 64 19)))))) cp) 82 (Int.toNat (w32 ((w32 (40 * (H 64 19))) + (H 76 (Int.toNat (H 64 19)))))) (H 85 (Int.toNat (H 64 19)))) 27; rw [gs_ne (by decide), gs_ne (by decide), gs_ne (by decide), gs_ne (by decide)] at y; omega
    refine (show W2 o_X12 M_X12_tellClause (inN [64, 72, 73, 74, 75, 76, 77, 78, 79, 80, 81, 82, 83, 84, 85, 86, 87, 88, 89, 90, 91, 92, 93]) (q + 12) Q 145 [some (mR 69), some (mI cp), none, some (mI (w32 ((w32 (40 * (H 64 19))) + (H 76 (Int.toNat (H 64 19)))))), none, none, none, none] [mI (f_X12_is (gs (gs H 78 (Int.toNat (w32 ((w32 (40 * (H 64 19))) + (H 76 (Int.toNat (H 64 19)))))) cp) 82 (Int.toNat (w32 ((w32 (40 * (H 64 19))) + (H 76 (Int.toNat (H 64 19)))))) (H 85 (Int.toNat (H 64 19)))) 27), mI (w32 ((w32 (40 * (H 64 19))) + (H 76 (Int.toNat (H 64 19))))), mR 82] (gs (gs H 78 (Int.toNat (w32 ((w32 (40 * (H 64 19))) + (H 76 (Int.toNat (H 64 19)))))) cp) 82 (Int.toNat (w32 ((w32 (40 * (H 64 19))) + (H 76 (Int.toNat (H 64 19)))))) (H 85 (Int.toNat (H 64 19)))) from ?_)
    refine w2_vc [106, 120, 121, 132, 145, 158, 167] 400 oo_X12 q_X12_tellClause ?_
    refine ⟨fun (c4 : (f_X12_is (gs (gs H 78 (Int.toNat (w32 ((w32 (40 * (H 64 19))) + (H 76 (Int.toNat (H 64 19)))))) cp) 82 (Int.toNat (w32 ((w32 (40 * (H 64 19))) + (H 76 (Int.toNat (H 64 19)))))) (H 85 (Int.toNat (H 64 19)))) 27) = 0) => ?_, fun (c4 : ¬ (f_X12_is (gs (gs H 78 (Int.toNat (w32 ((w32 (40 * (H 64 19))) + (H 76 (Int.toNat (H 64 19)))))) cp) 82 (Int.toNat (w32 ((w32 (40 * (H 64 19))) + (H 76 (Int.toNat (H 64 19)))))) (H 85 (Int.toNat (H 64 19)))) 27) = 0) => ?_⟩
    · skip
      refine sp_X12_is (by rw [gs_ne (by decide), gs_ne (by decide)]; omega) ?_
      have c5 : (f_X12_is (gs (gs H 78 (Int.toNat (w32 ((w32 (40 * (H 64 19))) + (H 76 (Int.toNat (H 64 19)))))) cp) 82 (Int.toNat (w32 ((w32 (40 * (H 64 19))) + (H 76 (Int.toNat (H 64 19)))))) (H 85 (Int.toNat (H 64 19)))) 28 = 1 ∧ (H 67 (Int.toNat (H 64 11))) = 28) ∨ (f_X12_is (gs (gs H 78 (Int.toNat (w32 ((w32 (40 * (H 64 19))) + (H 76 (Int.toNat (H 64 19)))))) cp) 82 (Int.toNat (w32 ((w32 (40 * (H 64 19))) + (H 76 (Int.toNat (H 64 19)))))) (H 85 (Int.toNat (H 64 19)))) 28 = 0 ∧ ¬ (H 67 (Int.toNat (H 64 11))) = 28) := by have y := fa_X12_is (gs (gs H 78 (Int.toNat (w32 ((w32 (40 * (H 64 19))) + (H 76 (Int.toNat (H 64 19)))))) cp) 82 (Int.toNat (w32 ((w32 (40 * (H 64 19))) + (H 76 (Int.toNat (H 64 19)))))) (H 85 (Int.toNat (H 64 19)))) 28; rw [gs_ne (by decide), gs_ne (by decide), gs_ne (by decide), gs_ne (by decide)] at y; omega
      refine (show W2 o_X12 M_X12_tellClause (inN [64, 72, 73, 74, 75, 76, 77, 78, 79, 80, 81, 82, 83, 84, 85, 86, 87, 88, 89, 90, 91, 92, 93]) (q + 12) Q 158 [some (mR 69), some (mI cp), none, some (mI (w32 ((w32 (40 * (H 64 19))) + (H 76 (Int.toNat (H 64 19)))))), none, none, none, none] [mI (f_X12_is (gs (gs H 78 (Int.toNat (w32 ((w32 (40 * (H 64 19))) + (H 76 (Int.toNat (H 64 19)))))) cp) 82 (Int.toNat (w32 ((w32 (40 * (H 64 19))) + (H 76 (Int.toNat (H 64 19)))))) (H 85 (Int.toNat (H 64 19)))) 28), mI (w32 ((w32 (40 * (H 64 19))) + (H 76 (Int.toNat (H 64 19))))), mR 82] (gs (gs H 78 (Int.toNat (w32 ((w32 (40 * (H 64 19))) + (H 76 (Int.toNat (H 64 19)))))) cp) 82 (Int.toNat (w32 ((w32 (40 * (H 64 19))) + (H 76 (Int.toNat (H 64 19)))))) (H 85 (Int.toNat (H 64 19)))) from ?_)
      refine w2_vc [106, 120, 121, 132, 145, 158, 167] 400 oo_X12 q_X12_tellClause ?_
      refine ⟨fun (c6 : (f_X12_is (gs (gs H 78 (Int.toNat (w32 ((w32 (40 * (H 64 19))) + (H 76 (Int.toNat (H 64 19)))))) cp) 82 (Int.toNat (w32 ((w32 (40 * (H 64 19))) + (H 76 (Int.toNat (H 64 19)))))) (H 85 (Int.toNat (H 64 19)))) 28) = 0) => ?_, fun (c6 : ¬ (f_X12_is (gs (gs H 78 (Int.toNat (w32 ((w32 (40 * (H 64 19))) + (H 76 (Int.toNat (H 64 19)))))) cp) 82 (Int.toNat (w32 ((w32 (40 * (H 64 19))) + (H 76 (Int.toNat (H 64 19)))))) (H 85 (Int.toNat (H 64 19)))) 28) = 0) => ?_⟩
      · skip
        refine ⟨(show 0 ≤ (w32 ((w32 (40 * (H 64 19))) + (H 76 (Int.toNat (H 64 19))))) ∧ (w32 ((w32 (40 * (H 64 19))) + (H 76 (Int.toNat (H 64 19))))) < ((80 : Nat) : Int) from by first | omega | (rw [show (w32 ((w32 (40 * (H 64 19))) + (H 76 (Int.toNat (H 64 19))))) = (40 * (H 64 19)) + (H 76 (Int.toNat (H 64 19))) from by rw [w32_i (x := (40 * (H 64 19))) (by omega) (by omega), w32_i (x := (40 * (H 64 19)) + (H 76 (Int.toNat (H 64 19)))) (by omega) (by omega)]]; omega) | (simp (disch := omega) only [w32_i]; omega)), ?_⟩
        refine (show W2 o_X12 M_X12_tellClause (inN [64, 72, 73, 74, 75, 76, 77, 78, 79, 80, 81, 82, 83, 84, 85, 86, 87, 88, 89, 90, 91, 92, 93]) (q + 12) Q 167 [some (mR 69), some (mI cp), none, some (mI (w32 ((w32 (40 * (H 64 19))) + (H 76 (Int.toNat (H 64 19)))))), none, none, none, none] [] (gs (gs (gs H 78 (Int.toNat (w32 ((w32 (40 * (H 64 19))) + (H 76 (Int.toNat (H 64 19)))))) cp) 82 (Int.toNat (w32 ((w32 (40 * (H 64 19))) + (H 76 (Int.toNat (H 64 19)))))) (H 85 (Int.toNat (H 64 19)))) 77 (Int.toNat (w32 ((w32 (40 * (H 64 19))) + (H 76 (Int.toNat (H 64 19)))))) 3) from ?_)
        refine WP.fg (L' := [some (mR 69), some (mI cp), none, some (mI (w32 ((w32 (40 * (H 64 19))) + (H 76 (Int.toNat (H 64 19)))))), none, none, none, none]) ⟨rfl, rfl, rfl, trivial⟩ ?_
        exact h 3 (by omega)
      · skip
        refine ⟨(show 0 ≤ (w32 ((w32 (40 * (H 64 19))) + (H 76 (Int.toNat (H 64 19))))) ∧ (w32 ((w32 (40 * (H 64 19))) + (H 76 (Int.toNat (H 64 19))))) < ((80 : Nat) : Int) from by first | omega | (rw [show (w32 ((w32 (40 * (H 64 19))) + (H 76 (Int.toNat (H 64 19))))) = (40 * (H 64 19)) + (H 76 (Int.toNat (H 64 19))) from by rw [w32_i (x := (40 * (H 64 19))) (by omega) (by omega), w32_i (x := (40 * (H 64 19)) + (H 76 (Int.toNat (H 64 19)))) (by omega) (by omega)]]; omega) | (simp (disch := omega) only [w32_i]; omega)), ?_⟩
        refine (show W2 o_X12 M_X12_tellClause (inN [64, 72, 73, 74, 75, 76, 77, 78, 79, 80, 81, 82, 83, 84, 85, 86, 87, 88, 89, 90, 91, 92, 93]) (q + 12) Q 167 [some (mR 69), some (mI cp), none, some (mI (w32 ((w32 (40 * (H 64 19))) + (H 76 (Int.toNat (H 64 19)))))), none, none, none, none] [] (gs (gs (gs H 78 (Int.toNat (w32 ((w32 (40 * (H 64 19))) + (H 76 (Int.toNat (H 64 19)))))) cp) 82 (Int.toNat (w32 ((w32 (40 * (H 64 19))) + (H 76 (Int.toNat (H 64 19)))))) (H 85 (Int.toNat (H 64 19)))) 77 (Int.toNat (w32 ((w32 (40 * (H 64 19))) + (H 76 (Int.toNat (H 64 19)))))) 2) from ?_)
        refine WP.fg (L' := [some (mR 69), some (mI cp), none, some (mI (w32 ((w32 (40 * (H 64 19))) + (H 76 (Int.toNat (H 64 19)))))), none, none, none, none]) ⟨rfl, rfl, rfl, trivial⟩ ?_
        exact h 2 (by omega)
    · skip
      refine ⟨(show 0 ≤ (w32 ((w32 (40 * (H 64 19))) + (H 76 (Int.toNat (H 64 19))))) ∧ (w32 ((w32 (40 * (H 64 19))) + (H 76 (Int.toNat (H 64 19))))) < ((80 : Nat) : Int) from by first | omega | (rw [show (w32 ((w32 (40 * (H 64 19))) + (H 76 (Int.toNat (H 64 19))))) = (40 * (H 64 19)) + (H 76 (Int.toNat (H 64 19))) from by rw [w32_i (x := (40 * (H 64 19))) (by omega) (by omega), w32_i (x := (40 * (H 64 19)) + (H 76 (Int.toNat (H 64 19)))) (by omega) (by omega)]]; omega) | (simp (disch := omega) only [w32_i]; omega)), ?_⟩
      refine (show W2 o_X12 M_X12_tellClause (inN [64, 72, 73, 74, 75, 76, 77, 78, 79, 80, 81, 82, 83, 84, 85, 86, 87, 88, 89, 90, 91, 92, 93]) (q + 12) Q 167 [some (mR 69), some (mI cp), none, some (mI (w32 ((w32 (40 * (H 64 19))) + (H 76 (Int.toNat (H 64 19)))))), none, none, none, none] [] (gs (gs (gs H 78 (Int.toNat (w32 ((w32 (40 * (H 64 19))) + (H 76 (Int.toNat (H 64 19)))))) cp) 82 (Int.toNat (w32 ((w32 (40 * (H 64 19))) + (H 76 (Int.toNat (H 64 19)))))) (H 85 (Int.toNat (H 64 19)))) 77 (Int.toNat (w32 ((w32 (40 * (H 64 19))) + (H 76 (Int.toNat (H 64 19)))))) 1) from ?_)
      refine WP.fg (L' := [some (mR 69), some (mI cp), none, some (mI (w32 ((w32 (40 * (H 64 19))) + (H 76 (Int.toNat (H 64 19)))))), none, none, none, none]) ⟨rfl, rfl, rfl, trivial⟩ ?_
      exact h 1 (by omega)
  · skip
    refine ⟨(show 0 ≤ (w32 ((w32 (40 * (H 64 19))) + (H 76 (Int.toNat (H 64 19))))) ∧ (w32 ((w32 (40 * (H 64 19))) + (H 76 (Int.toNat (H 64 19))))) < ((80 : Nat) : Int) from by first | omega | (rw [show (w32 ((w32 (40 * (H 64 19))) + (H 76 (Int.toNat (H 64 19))))) = (40 * (H 64 19)) + (H 76 (Int.toNat (H 64 19))) from by rw [w32_i (x := (40 * (H 64 19))) (by omega) (by omega), w32_i (x := (40 * (H 64 19)) + (H 76 (Int.toNat (H 64 19)))) (by omega) (by omega)]]; omega) | (simp (disch := omega) only [w32_i]; omega)), ?_⟩
    refine (show W2 o_X12 M_X12_tellClause (inN [64, 72, 73, 74, 75, 76, 77, 78, 79, 80, 81, 82, 83, 84, 85, 86, 87, 88, 89, 90, 91, 92, 93]) (q + 12) Q 167 [some (mR 69), some (mI cp), none, some (mI (w32 ((w32 (40 * (H 64 19))) + (H 76 (Int.toNat (H 64 19)))))), none, none, none, none] [] (gs (gs (gs H 78 (Int.toNat (w32 ((w32 (40 * (H 64 19))) + (H 76 (Int.toNat (H 64 19)))))) cp) 82 (Int.toNat (w32 ((w32 (40 * (H 64 19))) + (H 76 (Int.toNat (H 64 19)))))) (H 85 (Int.toNat (H 64 19)))) 77 (Int.toNat (w32 ((w32 (40 * (H 64 19))) + (H 76 (Int.toNat (H 64 19)))))) 0) from ?_)
    refine WP.fg (L' := [some (mR 69), some (mI cp), none, some (mI (w32 ((w32 (40 * (H 64 19))) + (H 76 (Int.toNat (H 64 19)))))), none, none, none, none]) ⟨rfl, rfl, rfl, trivial⟩ ?_
    exact h 0 (by omega)
theorem nx_fr (G : mG) {k : Nat} (hk : k ≠ 64) : (e_X12_next G) k = G k := by
  unfold e_X12_next e_X12_fail
  exact ite_P (P := fun x : mG => x k = G k) (gs_ne hk) (ite_P (P := fun x : mG => x k = G k) (by rw [gs_ne hk, gs_ne hk]) rfl)
set_option maxHeartbeats 8000000 in
theorem tl_167 {q : Nat} {H : mG} {Q : Option mV → mG → Prop} {cp : Int} {e : Nat} (hT : 0 ≤ H 64 11 ∧ H 64 11 ≤ 600) (he : e < 80) (h0 : H 77 e = 0 → W2 o_X12 M_X12_tellClause (inN [64, 72, 73, 74, 75, 76, 77, 78, 79, 80, 81, 82, 83, 84, 85, 86, 87, 88, 89, 90, 91, 92, 93]) (q + 12) Q 204 [some (mR 69), some (mI cp), none, some (mI ((e : Nat) : Int)), none, none, none, none] [] (e_X12_next H)) (h1 : H 77 e = 1 → W2 o_X12 M_X12_tellClause (inN [64, 72, 73, 74, 75, 76, 77, 78, 79, 80, 81, 82, 83, 84, 85, 86, 87, 88, 89, 90, 91, 92, 93]) (q + 12) Q 409 [some (mR 69), some (mI cp), none, some (mI ((e : Nat) : Int)), none, none, none, none] [] (e_X12_next H)) (h2 : H 77 e = 2 → W2 o_X12 M_X12_tellClause (inN [64, 72, 73, 74, 75, 76, 77, 78, 79, 80, 81, 82, 83, 84, 85, 86, 87, 88, 89, 90, 91, 92, 93]) (q + 12) Q 416 [some (mR 69), some (mI cp), none, some (mI ((e : Nat) : Int)), none, none, none, none] [] (e_X12_next H)) (h3 : (H 77 e < 0 ∨ 2 < H 77 e) → W2 o_X12 M_X12_tellClause (inN [64, 72, 73, 74, 75, 76, 77, 78, 79, 80, 81, 82, 83, 84, 85, 86, 87, 88, 89, 90, 91, 92, 93]) (q + 12) Q 434 [some (mR 69), some (mI cp), none, some (mI ((e : Nat) : Int)), none, none, none, none] [] (e_X12_next H)) : W2 o_X12 M_X12_tellClause (inN [64, 72, 73, 74, 75, 76, 77, 78, 79, 80, 81, 82, 83, 84, 85, 86, 87, 88, 89, 90, 91, 92, 93]) (q + 12) Q 167 [some (mR 69), some (mI cp), none, some (mI ((e : Nat) : Int)), none, none, none, none] [] H := by
  refine w2_vc [171, 204, 409, 416, 434] 400 oo_X12 q_X12_tellClause ?_
  refine sp_X12_next (by first | omega | (simp (disch := decide) only [gs_ne, gs_at_ne, gs_at]; omega)) (insub (by decide)) ?_
  have y77 := nx_fr H (k := 77) (by decide)
  have y77e : (e_X12_next H) 77 (Int.toNat ((e : Nat) : Int)) = H 77 e := by rw [y77, st_nat]
  refine (show W2 o_X12 M_X12_tellClause (inN [64, 72, 73, 74, 75, 76, 77, 78, 79, 80, 81, 82, 83, 84, 85, 86, 87, 88, 89, 90, 91, 92, 93]) (q + 12) Q 171 [some (mR 69), some (mI cp), none, some (mI ((e : Nat) : Int)), none, none, none, none] [] (e_X12_next H) from ?_)
  refine w2_vc [171, 204, 409, 416, 434] 400 oo_X12 q_X12_tellClause ?_
  refine ⟨(show 0 ≤ ((e : Nat) : Int) ∧ ((e : Nat) : Int) < ((80 : Nat) : Int) from by first | omega | (simp (disch := omega) only [w32_i]; omega)), ?_⟩
  refine ⟨fun (c1 : ((e_X12_next H) 77 (Int.toNat ((e : Nat) : Int))) < 0 ∨ 2 < ((e_X12_next H) 77 (Int.toNat ((e : Nat) : Int)))) => ?_, fun (c1 : ((e_X12_next H) 77 (Int.toNat ((e : Nat) : Int))) = 0) => ?_, fun (c1 : ((e_X12_next H) 77 (Int.toNat ((e : Nat) : Int))) = 1) => ?_, fun (c1 : ((e_X12_next H) 77 (Int.toNat ((e : Nat) : Int))) = 2) => ?_, trivial⟩
  · skip
    rw [if_neg (show ¬ ((e_X12_next H) 77 (Int.toNat ((e : Nat) : Int))) = 0 from by omega)] at h
    rw [if_neg (show ¬ ((e_X12_next H) 77 (Int.toNat ((e : Nat) : Int))) = 1 from by omega)] at h
    rw [if_neg (show ¬ ((e_X12_next H) 77 (Int.toNat ((e : Nat) : Int))) = 2 from by omega)] at h
    refine (show W2 o_X12 M_X12_tellClause (inN [64, 72, 73, 74, 75, 76, 77, 78, 79, 80, 81, 82, 83, 84, 85, 86, 87, 88, 89, 90, 91, 92, 93]) (q + 12) Q 434 [some (mR 69), some (mI cp), none, some (mI ((e : Nat) : Int)), none, none, none, none] [] (e_X12_next H) from ?_)
    exact h3 (by omega)
  · skip
    rw [if_pos c1] at h
    refine (show W2 o_X12 M_X12_tellClause (inN [64, 72, 73, 74, 75, 76, 77, 78, 79, 80, 81, 82, 83, 84, 85, 86, 87, 88, 89, 90, 91, 92, 93]) (q + 12) Q 204 [some (mR 69), some (mI cp), none, some (mI ((e : Nat) : Int)), none, none, none, none] [] (e_X12_next H) from ?_)
    exact h0 (by omega)
  · skip
    rw [if_neg (show ¬ ((e_X12_next H) 77 (Int.toNat ((e : Nat) : Int))) = 0 from by omega)] at h
    rw [if_pos c1] at h
    refine (show W2 o_X12 M_X12_tellClause (inN [64, 72, 73, 74, 75, 76, 77, 78, 79, 80, 81, 82, 83, 84, 85, 86, 87, 88, 89, 90, 91, 92, 93]) (q + 12) Q 409 [some (mR 69), some (mI cp), none, some (mI ((e : Nat) : Int)), none, none, none, none] [] (e_X12_next H) from ?_)
    exact h1 (by omega)
  · skip
    rw [if_neg (show ¬ ((e_X12_next H) 77 (Int.toNat ((e : Nat) : Int))) = 0 from by omega)] at h
    rw [if_neg (show ¬ ((e_X12_next H) 77 (Int.toNat ((e : Nat) : Int))) = 1 from by omega)] at h
    rw [if_pos c1] at h
    refine (show W2 o_X12 M_X12_tellClause (inN [64, 72, 73, 74, 75, 76, 77, 78, 79, 80, 81, 82, 83, 84, 85, 86, 87, 88, 89, 90, 91, 92, 93]) (q + 12) Q 416 [some (mR 69), some (mI cp), none, some (mI ((e : Nat) : Int)), none, none, none, none] [] (e_X12_next H) from ?_)
    exact h2 (by omega)
set_option maxHeartbeats 8000000 in
theorem tl_204 {q : Nat} {H : mG} {Q : Option mV → mG → Prop} {cp : Int} {e : Nat} (hT : 0 ≤ H 64 11 ∧ H 64 11 ≤ 600) (h : W2 o_X12 M_X12_tellClause (inN [64, 72, 73, 74, 75, 76, 77, 78, 79, 80, 81, 82, 83, 84, 85, 86, 87, 88, 89, 90, 91, 92, 93]) (q + 12) Q 249 [some (mR 69), some (mI cp), none, some (mI ((e : Nat) : Int)), some (mI (H 64 11)), some (mI ((e_X12_must (e_X12_must H 2) 25) 64 11)), some (mI ((e_X12_must (e_X12_must (e_X12_must (e_X12_must H 2) 25) 2) 26) 64 11)), none] [] (e_X12_must (e_X12_must (e_X12_must (e_X12_must (e_X12_must H 2) 25) 2) 26) 2)) : W2 o_X12 M_X12_tellClause (inN [64, 72, 73, 74, 75, 76, 77, 78, 79, 80, 81, 82, 83, 84, 85, 86, 87, 88, 89, 90, 91, 92, 93]) (q + 12) Q 204 [some (mR 69), some (mI cp), none, some (mI ((e : Nat) : Int)), none, none, none, none] [] H := by
  refine w2_vc [232, 238, 244, 249] 400 oo_X12 q_X12_tellClause ?_
  refine sp_X12_must (by first | omega | (simp (disch := decide) only [gs_ne, gs_at_ne, gs_at]; omega)) (insub (by decide)) ?_
  have c2 := fx_must H 2
  refine sp_X12_must (by first | omega | (simp (disch := decide) only [gs_ne, gs_at_ne, gs_at]; omega)) (insub (by decide)) ?_
  have c4 := fx_must (e_X12_must H 2) 25
  refine sp_X12_must (by first | omega | (simp (disch := decide) only [gs_ne, gs_at_ne, gs_at]; omega)) (insub (by decide)) ?_
  have c6 := fx_must (e_X12_must (e_X12_must H 2) 25) 2
  refine (show W2 o_X12 M_X12_tellClause (inN [64, 72, 73, 74, 75, 76, 77, 78, 79, 80, 81, 82, 83, 84, 85, 86, 87, 88, 89, 90, 91, 92, 93]) (q + 12) Q 232 [some (mR 69), some (mI cp), none, some (mI ((e : Nat) : Int)), some (mI (H 64 11)), some (mI ((e_X12_must (e_X12_must H 2) 25) 64 11)), none, none] [] (e_X12_must (e_X12_must (e_X12_must H 2) 25) 2) from ?_)
  refine w2_vc [232, 238, 244, 249] 400 oo_X12 q_X12_tellClause ?_
  refine sp_X12_must (by first | omega | (simp (disch := decide) only [gs_ne, gs_at_ne, gs_at]; omega)) (insub (by decide)) ?_
  have c8 := fx_must (e_X12_must (e_X12_must (e_X12_must H 2) 25) 2) 26
  refine (show W2 o_X12 M_X12_tellClause (inN [64, 72, 73, 74, 75, 76, 77, 78, 79, 80, 81, 82, 83, 84, 85, 86, 87, 88, 89, 90, 91, 92, 93]) (q + 12) Q 238 [some (mR 69), some (mI cp), none, some (mI ((e : Nat) : Int)), some (mI (H 64 11)), some (mI ((e_X12_must (e_X12_must H 2) 25) 64 11)), none, none] [] (e_X12_must (e_X12_must (e_X12_must (e_X12_must H 2) 25) 2) 26) from ?_)
  refine w2_vc [232, 238, 244, 249] 400 oo_X12 q_X12_tellClause ?_
  refine (show W2 o_X12 M_X12_tellClause (inN [64, 72, 73, 74, 75, 76, 77, 78, 79, 80, 81, 82, 83, 84, 85, 86, 87, 88, 89, 90, 91, 92, 93]) (q + 12) Q 244 [some (mR 69), some (mI cp), none, some (mI ((e : Nat) : Int)), some (mI (H 64 11)), some (mI ((e_X12_must (e_X12_must H 2) 25) 64 11)), some (mI ((e_X12_must (e_X12_must (e_X12_must (e_X12_must H 2) 25) 2) 26) 64 11)), none] [] (e_X12_must (e_X12_must (e_X12_must (e_X12_must H 2) 25) 2) 26) from ?_)
  refine w2_vc [232, 238, 244, 249] 400 oo_X12 q_X12_tellClause ?_
  refine sp_X12_must (by first | omega | (simp (disch := decide) only [gs_ne, gs_at_ne, gs_at]; omega)) (insub (by decide)) ?_
  have c10 := fx_must (e_X12_must (e_X12_must (e_X12_must (e_X12_must H 2) 25) 2) 26) 2
  refine (show W2 o_X12 M_X12_tellClause (inN [64, 72, 73, 74, 75, 76, 77, 78, 79, 80, 81, 82, 83, 84, 85, 86, 87, 88, 89, 90, 91, 92, 93]) (q + 12) Q 249 [some (mR 69), some (mI cp), none, some (mI ((e : Nat) : Int)), some (mI (H 64 11)), some (mI ((e_X12_must (e_X12_must H 2) 25) 64 11)), some (mI ((e_X12_must (e_X12_must (e_X12_must (e_X12_must H 2) 25) 2) 26) 64 11)), none] [] (e_X12_must (e_X12_must (e_X12_must (e_X12_must (e_X12_must H 2) 25) 2) 26) 2) from ?_)
  exact h
set_option maxHeartbeats 8000000 in
theorem tl_249 {q : Nat} {H : mG} {Q : Option mV → mG → Prop} {cp : Int} {e i1 i2 i3 : Nat} (he : e < 80) (hi : i1 ≤ 600 ∧ i2 ≤ 600 ∧ i3 ≤ 600) (h1 : 0 < H 64 13 → Q none H) (h2 : H 64 13 ≤ 0 → W2 o_X12 M_X12_tellClause (inN [64, 72, 73, 74, 75, 76, 77, 78, 79, 80, 81, 82, 83, 84, 85, 86, 87, 88, 89, 90, 91, 92, 93]) (q + 12) Q 296 [some (mR 69), some (mI cp), none, some (mI ((e : Nat) : Int)), some (mI ((i1 : Nat) : Int)), some (mI ((i2 : Nat) : Int)), some (mI ((i3 : Nat) : Int)), none] [] (gs (gs (gs H 79 e (H 69 i1)) 80 e (H 69 i2)) 81 e (H 69 i3))) : W2 o_X12 M_X12_tellClause (inN [64, 72, 73, 74, 75, 76, 77, 78, 79, 80, 81, 82, 83, 84, 85, 86, 87, 88, 89, 90, 91, 92, 93]) (q + 12) Q 249 [some (mR 69), some (mI cp), none, some (mI ((e : Nat) : Int)), some (mI ((i1 : Nat) : Int)), some (mI ((i2 : Nat) : Int)), some (mI ((i3 : Nat) : Int)), none] [] H := by
  refine w2_vc [270, 282, 283, 295, 296] 400 oo_X12 q_X12_tellClause ?_
  refine ⟨fun (c1 : (H 64 13) ≤ 0) => ?_, fun (c1 : 0 < (H 64 13)) => ?_⟩
  · skip
    refine ⟨(show 0 ≤ ((i1 : Nat) : Int) ∧ ((i1 : Nat) : Int) < ((603 : Nat) : Int) from by first | omega | (simp (disch := omega) only [w32_i]; omega)), ?_⟩
    refine ⟨(show 0 ≤ ((e : Nat) : Int) ∧ ((e : Nat) : Int) < ((80 : Nat) : Int) from by first | omega | (simp (disch := omega) only [w32_i]; omega)), ?_⟩
    refine (show W2 o_X12 M_X12_tellClause (inN [64, 72, 73, 74, 75, 76, 77, 78, 79, 80, 81, 82, 83, 84, 85, 86, 87, 88, 89, 90, 91, 92, 93]) (q + 12) Q 270 [some (mR 69), some (mI cp), none, some (mI ((e : Nat) : Int)), some (mI ((i1 : Nat) : Int)), some (mI ((i2 : Nat) : Int)), some (mI ((i3 : Nat) : Int)), none] [] (gs H 79 (Int.toNat ((e : Nat) : Int)) (H 69 (Int.toNat ((i1 : Nat) : Int)))) from ?_)
    refine w2_vc [270, 282, 283, 295, 296] 400 oo_X12 q_X12_tellClause ?_
    refine ⟨(show 0 ≤ ((i2 : Nat) : Int) ∧ ((i2 : Nat) : Int) < ((603 : Nat) : Int) from by first | omega | (simp (disch := omega) only [w32_i]; omega)), ?_⟩
    refine (show W2 o_X12 M_X12_tellClause (inN [64, 72, 73, 74, 75, 76, 77, 78, 79, 80, 81, 82, 83, 84, 85, 86, 87, 88, 89, 90, 91, 92, 93]) (q + 12) Q 282 [some (mR 69), some (mI cp), none, some (mI ((e : Nat) : Int)), some (mI ((i1 : Nat) : Int)), some (mI ((i2 : Nat) : Int)), some (mI ((i3 : Nat) : Int)), none] [mI (H 69 (Int.toNat ((i2 : Nat) : Int))), mI ((e : Nat) : Int), mR 85] (gs H 79 (Int.toNat ((e : Nat) : Int)) (H 69 (Int.toNat ((i1 : Nat) : Int)))) from ?_)
    refine w2_vc [270, 282, 283, 295, 296] 400 oo_X12 q_X12_tellClause ?_
    refine ⟨(show 0 ≤ ((e : Nat) : Int) ∧ ((e : Nat) : Int) < ((80 : Nat) : Int) from by first | omega | (simp (disch := omega) only [w32_i]; omega)), ?_⟩
    refine (show W2 o_X12 M_X12_tellClause (inN [64, 72, 73, 74, 75, 76, 77, 78, 79, 80, 81, 82, 83, 84, 85, 86, 87, 88, 89, 90, 91, 92, 93]) (q + 12) Q 283 [some (mR 69), some (mI cp), none, some (mI ((e : Nat) : Int)), some (mI ((i1 : Nat) : Int)), some (mI ((i2 : Nat) : Int)), some (mI ((i3 : Nat) : Int)), none] [] (gs (gs H 79 (Int.toNat ((e : Nat) : Int)) (H 69 (Int.toNat ((i1 : Nat) : Int)))) 80 (Int.toNat ((e : Nat) : Int)) (H 69 (Int.toNat ((i2 : Nat) : Int)))) from ?_)
    refine w2_vc [270, 282, 283, 295, 296] 400 oo_X12 q_X12_tellClause ?_
    refine ⟨(show 0 ≤ ((i3 : Nat) : Int) ∧ ((i3 : Nat) : Int) < ((603 : Nat) : Int) from by first | omega | (simp (disch := omega) only [w32_i]; omega)), ?_⟩
    refine (show W2 o_X12 M_X12_tellClause (inN [64, 72, 73, 74, 75, 76, 77, 78, 79, 80, 81, 82, 83, 84, 85, 86, 87, 88, 89, 90, 91, 92, 93]) (q + 12) Q 295 [some (mR 69), some (mI cp), none, some (mI ((e : Nat) : Int)), some (mI ((i1 : Nat) : Int)), some (mI ((i2 : Nat) : Int)), some (mI ((i3 : Nat) : Int)), none] [mI (H 69 (Int.toNat ((i3 : Nat) : Int))), mI ((e : Nat) : Int), mR 86] (gs (gs H 79 (Int.toNat ((e : Nat) : Int)) (H 69 (Int.toNat ((i1 : Nat) : Int)))) 80 (Int.toNat ((e : Nat) : Int)) (H 69 (Int.toNat ((i2 : Nat) : Int)))) from ?_)
    refine w2_vc [270, 282, 283, 295, 296] 400 oo_X12 q_X12_tellClause ?_
    refine ⟨(show 0 ≤ ((e : Nat) : Int) ∧ ((e : Nat) : Int) < ((80 : Nat) : Int) from by first | omega | (simp (disch := omega) only [w32_i]; omega)), ?_⟩
    refine (show W2 o_X12 M_X12_tellClause (inN [64, 72, 73, 74, 75, 76, 77, 78, 79, 80, 81, 82, 83, 84, 85, 86, 87, 88, 89, 90, 91, 92, 93]) (q + 12) Q 296 [some (mR 69), some (mI cp), none, some (mI ((e : Nat) : Int)), some (mI ((i1 : Nat) : Int)), some (mI ((i2 : Nat) : Int)), some (mI ((i3 : Nat) : Int)), none] [] (gs (gs (gs H 79 (Int.toNat ((e : Nat) : Int)) (H 69 (Int.toNat ((i1 : Nat) : Int)))) 80 (Int.toNat ((e : Nat) : Int)) (H 69 (Int.toNat ((i2 : Nat) : Int)))) 81 (Int.toNat ((e : Nat) : Int)) (H 69 (Int.toNat ((i3 : Nat) : Int)))) from ?_)
    rw [st_nat, st_nat, st_nat, st_nat]
    exact h2 (by omega)
  · skip
    exact h1 (by omega)
set_option maxHeartbeats 8000000 in
theorem tl_296 {q : Nat} {H : mG} {Q : Option mV → mG → Prop} {cp : Int} {e i1 i2 i3 : Nat} (he : e < 80) (hi : i1 ≤ 600 ∧ i2 ≤ 600 ∧ i3 ≤ 600) (h1 : (H 79 (Int.toNat ((e : Nat) : Int)) < 1 ∨ 9 < H 79 (Int.toNat ((e : Nat) : Int))) → W2 o_X12 M_X12_tellClause (inN [64, 72, 73, 74, 75, 76, 77, 78, 79, 80, 81, 82, 83, 84, 85, 86, 87, 88, 89, 90, 91, 92, 93]) (q + 12) Q 324 [some (mR 69), some (mI cp), none, some (mI ((e : Nat) : Int)), some (mI ((i1 : Nat) : Int)), some (mI ((i2 : Nat) : Int)), some (mI ((i3 : Nat) : Int)), none] [] (e_X12_wrong H 5 ((i1 : Nat) : Int))) (h2 : (1 ≤ H 79 (Int.toNat ((e : Nat) : Int)) ∧ H 79 (Int.toNat ((e : Nat) : Int)) ≤ 9) → W2 o_X12 M_X12_tellClause (inN [64, 72, 73, 74, 75, 76, 77, 78, 79, 80, 81, 82, 83, 84, 85, 86, 87, 88, 89, 90, 91, 92, 93]) (q + 12) Q 324 [some (mR 69), some (mI cp), none, some (mI ((e : Nat) : Int)), some (mI ((i1 : Nat) : Int)), some (mI ((i2 : Nat) : Int)), some (mI ((i3 : Nat) : Int)), none] [] H) : W2 o_X12 M_X12_tellClause (inN [64, 72, 73, 74, 75, 76, 77, 78, 79, 80, 81, 82, 83, 84, 85, 86, 87, 88, 89, 90, 91, 92, 93]) (q + 12) Q 296 [some (mR 69), some (mI cp), none, some (mI ((e : Nat) : Int)), some (mI ((i1 : Nat) : Int)), some (mI ((i2 : Nat) : Int)), some (mI ((i3 : Nat) : Int)), none] [] H := by
  refine w2_vc [324] 400 oo_X12 q_X12_tellClause ?_
  refine ⟨(show 0 ≤ ((e : Nat) : Int) ∧ ((e : Nat) : Int) < ((80 : Nat) : Int) from by first | omega | (simp (disch := omega) only [w32_i]; omega)), ?_⟩
  refine ⟨fun (c1 : (H 79 (Int.toNat ((e : Nat) : Int))) < 1) => ?_, fun (c1 : 1 ≤ (H 79 (Int.toNat ((e : Nat) : Int)))) => ?_⟩
  · skip
    refine sp_X12_wrong (by first | omega | (simp (disch := decide) only [gs_ne, gs_at_ne, gs_at]; omega)) (insub (by decide)) ?_
    refine (show W2 o_X12 M_X12_tellClause (inN [64, 72, 73, 74, 75, 76, 77, 78, 79, 80, 81, 82, 83, 84, 85, 86, 87, 88, 89, 90, 91, 92, 93]) (q + 12) Q 324 [some (mR 69), some (mI cp), none, some (mI ((e : Nat) : Int)), some (mI ((i1 : Nat) : Int)), some (mI ((i2 : Nat) : Int)), some (mI ((i3 : Nat) : Int)), none] [] (e_X12_wrong H 5 ((i1 : Nat) : Int)) from ?_)
    exact h1 (by first | omega | (rw [st_nat] at *; omega))
  · skip
    refine ⟨(show 0 ≤ ((e : Nat) : Int) ∧ ((e : Nat) : Int) < ((80 : Nat) : Int) from by first | omega | (simp (disch := omega) only [w32_i]; omega)), ?_⟩
    refine ⟨fun (c3 : (H 79 (Int.toNat ((e : Nat) : Int))) ≤ 9) => ?_, fun (c3 : 9 < (H 79 (Int.toNat ((e : Nat) : Int)))) => ?_⟩
    · skip
      refine (show W2 o_X12 M_X12_tellClause (inN [64, 72, 73, 74, 75, 76, 77, 78, 79, 80, 81, 82, 83, 84, 85, 86, 87, 88, 89, 90, 91, 92, 93]) (q + 12) Q 324 [some (mR 69), some (mI cp), none, some (mI ((e : Nat) : Int)), some (mI ((i1 : Nat) : Int)), some (mI ((i2 : Nat) : Int)), some (mI ((i3 : Nat) : Int)), none] [] H from ?_)
      exact h2 (by first | omega | (rw [st_nat] at *; omega))
    · skip
      refine sp_X12_wrong (by first | omega | (simp (disch := decide) only [gs_ne, gs_at_ne, gs_at]; omega)) (insub (by decide)) ?_
      refine (show W2 o_X12 M_X12_tellClause (inN [64, 72, 73, 74, 75, 76, 77, 78, 79, 80, 81, 82, 83, 84, 85, 86, 87, 88, 89, 90, 91, 92, 93]) (q + 12) Q 324 [some (mR 69), some (mI cp), none, some (mI ((e : Nat) : Int)), some (mI ((i1 : Nat) : Int)), some (mI ((i2 : Nat) : Int)), some (mI ((i3 : Nat) : Int)), none] [] (e_X12_wrong H 5 ((i1 : Nat) : Int)) from ?_)
      exact h1 (by first | omega | (rw [st_nat] at *; omega))
set_option maxHeartbeats 8000000 in
theorem tl_324 {q : Nat} {H : mG} {Q : Option mV → mG → Prop} {cp : Int} {e i1 i2 i3 : Nat} (he : e < 80) (hi : i1 ≤ 600 ∧ i2 ≤ 600 ∧ i3 ≤ 600) (h1 : 5 < H 80 (Int.toNat ((e : Nat) : Int)) → W2 o_X12 M_X12_tellClause (inN [64, 72, 73, 74, 75, 76, 77, 78, 79, 80, 81, 82, 83, 84, 85, 86, 87, 88, 89, 90, 91, 92, 93]) (q + 12) Q 341 [some (mR 69), some (mI cp), none, some (mI ((e : Nat) : Int)), some (mI ((i1 : Nat) : Int)), some (mI ((i2 : Nat) : Int)), some (mI ((i3 : Nat) : Int)), none] [] (e_X12_wrong H 5 ((i2 : Nat) : Int))) (h2 : H 80 (Int.toNat ((e : Nat) : Int)) ≤ 5 → W2 o_X12 M_X12_tellClause (inN [64, 72, 73, 74, 75, 76, 77, 78, 79, 80, 81, 82, 83, 84, 85, 86, 87, 88, 89, 90, 91, 92, 93]) (q + 12) Q 341 [some (mR 69), some (mI cp), none, some (mI ((e : Nat) : Int)), some (mI ((i1 : Nat) : Int)), some (mI ((i2 : Nat) : Int)), some (mI ((i3 : Nat) : Int)), none] [] H) : W2 o_X12 M_X12_tellClause (inN [64, 72, 73, 74, 75, 76, 77, 78, 79, 80, 81, 82, 83, 84, 85, 86, 87, 88, 89, 90, 91, 92, 93]) (q + 12) Q 324 [some (mR 69), some (mI cp), none, some (mI ((e : Nat) : Int)), some (mI ((i1 : Nat) : Int)), some (mI ((i2 : Nat) : Int)), some (mI ((i3 : Nat) : Int)), none] [] H := by
  refine w2_vc [341] 400 oo_X12 q_X12_tellClause ?_
  refine ⟨(show 0 ≤ ((e : Nat) : Int) ∧ ((e : Nat) : Int) < ((80 : Nat) : Int) from by first | omega | (simp (disch := omega) only [w32_i]; omega)), ?_⟩
  refine ⟨fun (c1 : (H 80 (Int.toNat ((e : Nat) : Int))) ≤ 5) => ?_, fun (c1 : 5 < (H 80 (Int.toNat ((e : Nat) : Int)))) => ?_⟩
  · skip
    refine (show W2 o_X12 M_X12_tellClause (inN [64, 72, 73, 74, 75, 76, 77, 78, 79, 80, 81, 82, 83, 84, 85, 86, 87, 88, 89, 90, 91, 92, 93]) (q + 12) Q 341 [some (mR 69), some (mI cp), none, some (mI ((e : Nat) : Int)), some (mI ((i1 : Nat) : Int)), some (mI ((i2 : Nat) : Int)), some (mI ((i3 : Nat) : Int)), none] [] H from ?_)
    exact h2 (by first | omega | (rw [st_nat] at *; omega))
  · skip
    refine sp_X12_wrong (by first | omega | (simp (disch := decide) only [gs_ne, gs_at_ne, gs_at]; omega)) (insub (by decide)) ?_
    refine (show W2 o_X12 M_X12_tellClause (inN [64, 72, 73, 74, 75, 76, 77, 78, 79, 80, 81, 82, 83, 84, 85, 86, 87, 88, 89, 90, 91, 92, 93]) (q + 12) Q 341 [some (mR 69), some (mI cp), none, some (mI ((e : Nat) : Int)), some (mI ((i1 : Nat) : Int)), some (mI ((i2 : Nat) : Int)), some (mI ((i3 : Nat) : Int)), none] [] (e_X12_wrong H 5 ((i2 : Nat) : Int)) from ?_)
    exact h1 (by first | omega | (rw [st_nat] at *; omega))
set_option maxHeartbeats 8000000 in
theorem tl_341 {q : Nat} {H : mG} {Q : Option mV → mG → Prop} {cp : Int} {e i1 i2 i3 : Nat} {S : Nat} (hS : H 64 19 = (S : Int)) (h : W2 o_X12 M_X12_tellClause (inN [64, 72, 73, 74, 75, 76, 77, 78, 79, 80, 81, 82, 83, 84, 85, 86, 87, 88, 89, 90, 91, 92, 93]) (q + 12) Q 350 [some (mR 69), some (mI cp), none, some (mI ((e : Nat) : Int)), some (mI ((i1 : Nat) : Int)), some (mI ((i2 : Nat) : Int)), some (mI ((i3 : Nat) : Int)), some (mI (w32 (40 * (H 64 19))))] [] H) : W2 o_X12 M_X12_tellClause (inN [64, 72, 73, 74, 75, 76, 77, 78, 79, 80, 81, 82, 83, 84, 85, 86, 87, 88, 89, 90, 91, 92, 93]) (q + 12) Q 341 [some (mR 69), some (mI cp), none, some (mI ((e : Nat) : Int)), some (mI ((i1 : Nat) : Int)), some (mI ((i2 : Nat) : Int)), some (mI ((i3 : Nat) : Int)), none] [] H := by
  refine w2_vc [350] 400 oo_X12 q_X12_tellClause ?_
  refine (show W2 o_X12 M_X12_tellClause (inN [64, 72, 73, 74, 75, 76, 77, 78, 79, 80, 81, 82, 83, 84, 85, 86, 87, 88, 89, 90, 91, 92, 93]) (q + 12) Q 350 [some (mR 69), some (mI cp), none, some (mI ((e : Nat) : Int)), some (mI ((i1 : Nat) : Int)), some (mI ((i2 : Nat) : Int)), some (mI ((i3 : Nat) : Int)), some (mI (w32 (40 * (H 64 19))))] [] H from ?_)
  exact h
set_option maxHeartbeats 8000000 in
theorem tl_350 {q : Nat} {H : mG} {Q : Option mV → mG → Prop} {cp : Int} {e i1 i2 i3 j : Nat} (he : e < 80) (hi : i2 ≤ 600) (h1 : e ≤ j → W2 o_X12 M_X12_tellClause (inN [64, 72, 73, 74, 75, 76, 77, 78, 79, 80, 81, 82, 83, 84, 85, 86, 87, 88, 89, 90, 91, 92, 93]) (q + 12) Q 494 [some (mR 69), some (mI cp), none, some (mI ((e : Nat) : Int)), none, none, none, none] [] H) (h2 : j < e → (H 77 (Int.toNat ((j : Nat) : Int)) = 0 ∧ H 78 (Int.toNat ((j : Nat) : Int)) = cp ∧ H 80 (Int.toNat ((j : Nat) : Int)) = H 80 (Int.toNat ((e : Nat) : Int))) → W2 o_X12 M_X12_tellClause (inN [64, 72, 73, 74, 75, 76, 77, 78, 79, 80, 81, 82, 83, 84, 85, 86, 87, 88, 89, 90, 91, 92, 93]) (q + 12) Q 350 [some (mR 69), some (mI cp), none, some (mI ((e : Nat) : Int)), some (mI ((i1 : Nat) : Int)), some (mI ((i2 : Nat) : Int)), some (mI ((i3 : Nat) : Int)), some (mI ((j + 1 : Nat) : Int))] [] (e_X12_wrong H 3 ((i2 : Nat) : Int))) (h3 : j < e → ¬ (H 77 (Int.toNat ((j : Nat) : Int)) = 0 ∧ H 78 (Int.toNat ((j : Nat) : Int)) = cp ∧ H 80 (Int.toNat ((j : Nat) : Int)) = H 80 (Int.toNat ((e : Nat) : Int))) → W2 o_X12 M_X12_tellClause (inN [64, 72, 73, 74, 75, 76, 77, 78, 79, 80, 81, 82, 83, 84, 85, 86, 87, 88, 89, 90, 91, 92, 93]) (q + 12) Q 350 [some (mR 69), some (mI cp), none, some (mI ((e : Nat) : Int)), some (mI ((i1 : Nat) : Int)), some (mI ((i2 : Nat) : Int)), some (mI ((i3 : Nat) : Int)), some (mI ((j + 1 : Nat) : Int))] [] H) : W2 o_X12 M_X12_tellClause (inN [64, 72, 73, 74, 75, 76, 77, 78, 79, 80, 81, 82, 83, 84, 85, 86, 87, 88, 89, 90, 91, 92, 93]) (q + 12) Q 350 [some (mR 69), some (mI cp), none, some (mI ((e : Nat) : Int)), some (mI ((i1 : Nat) : Int)), some (mI ((i2 : Nat) : Int)), some (mI ((i3 : Nat) : Int)), some (mI ((j : Nat) : Int))] [] H := by
  refine w2_vc [350, 494] 400 oo_X12 q_X12_tellClause ?_
  refine ⟨fun (c1 : ((e : Nat) : Int) ≤ ((j : Nat) : Int)) => ?_, fun (c1 : ((j : Nat) : Int) < ((e : Nat) : Int)) => ?_⟩
  · skip
    refine (show W2 o_X12 M_X12_tellClause (inN [64, 72, 73, 74, 75, 76, 77, 78, 79, 80, 81, 82, 83, 84, 85, 86, 87, 88, 89, 90, 91, 92, 93]) (q + 12) Q 494 [some (mR 69), some (mI cp), none, some (mI ((e : Nat) : Int)), some (mI ((i1 : Nat) : Int)), some (mI ((i2 : Nat) : Int)), some (mI ((i3 : Nat) : Int)), some (mI ((j : Nat) : Int))] [] H from ?_)
    refine WP.fg (L' := [some (mR 69), some (mI cp), none, some (mI ((e : Nat) : Int)), none, none, none, none]) ⟨rfl, rfl, rfl, trivial⟩ ?_
    exact h1 (by omega)
  · skip
    refine ⟨(show 0 ≤ ((j : Nat) : Int) ∧ ((j : Nat) : Int) < ((80 : Nat) : Int) from by first | omega | (simp (disch := omega) only [w32_i]; omega)), ?_⟩
    refine ⟨fun (c2 : ¬ (H 77 (Int.toNat ((j : Nat) : Int))) = 0) => ?_, fun (c2 : (H 77 (Int.toNat ((j : Nat) : Int))) = 0) => ?_⟩
    · skip
      refine (show W2 o_X12 M_X12_tellClause (inN [64, 72, 73, 74, 75, 76, 77, 78, 79, 80, 81, 82, 83, 84, 85, 86, 87, 88, 89, 90, 91, 92, 93]) (q + 12) Q 350 [some (mR 69), some (mI cp), none, some (mI ((e : Nat) : Int)), some (mI ((i1 : Nat) : Int)), some (mI ((i2 : Nat) : Int)), some (mI ((i3 : Nat) : Int)), some (mI (w32 (((j : Nat) : Int) + 1)))] [] H from ?_)
      rw [w32_nat (by omega)]
      exact h3 (by omega) (by omega)
    · skip
      refine ⟨(show 0 ≤ ((j : Nat) : Int) ∧ ((j : Nat) : Int) < ((80 : Nat) : Int) from by first | omega | (simp (disch := omega) only [w32_i]; omega)), ?_⟩
      refine ⟨fun (c3 : ¬ (H 78 (Int.toNat ((j : Nat) : Int))) = cp) => ?_, fun (c3 : (H 78 (Int.toNat ((j : Nat) : Int))) = cp) => ?_⟩
      · skip
        refine (show W2 o_X12 M_X12_tellClause (inN [64, 72, 73, 74, 75, 76, 77, 78, 79, 80, 81, 82, 83, 84, 85, 86, 87, 88, 89, 90, 91, 92, 93]) (q + 12) Q 350 [some (mR 69), some (mI cp), none, some (mI ((e : Nat) : Int)), some (mI ((i1 : Nat) : Int)), some (mI ((i2 : Nat) : Int)), some (mI ((i3 : Nat) : Int)), some (mI (w32 (((j : Nat) : Int) + 1)))] [] H from ?_)
        rw [w32_nat (by omega)]
        exact h3 (by omega) (by omega)
      · skip
        refine ⟨(show 0 ≤ ((j : Nat) : Int) ∧ ((j : Nat) : Int) < ((80 : Nat) : Int) from by first | omega | (simp (disch := omega) only [w32_i]; omega)), ?_⟩
        refine ⟨(show 0 ≤ ((e : Nat) : Int) ∧ ((e : Nat) : Int) < ((80 : Nat) : Int) from by first | omega | (simp (disch := omega) only [w32_i]; omega)), ?_⟩
        refine ⟨fun (c4 : ¬ (H 80 (Int.toNat ((j : Nat) : Int))) = (H 80 (Int.toNat ((e : Nat) : Int)))) => ?_, fun (c4 : (H 80 (Int.toNat ((j : Nat) : Int))) = (H 80 (Int.toNat ((e : Nat) : Int)))) => ?_⟩
        · skip
          refine (show W2 o_X12 M_X12_tellClause (inN [64, 72, 73, 74, 75, 76, 77, 78, 79, 80, 81, 82, 83, 84, 85, 86, 87, 88, 89, 90, 91, 92, 93]) (q + 12) Q 350 [some (mR 69), some (mI cp), none, some (mI ((e : Nat) : Int)), some (mI ((i1 : Nat) : Int)), some (mI ((i2 : Nat) : Int)), some (mI ((i3 : Nat) : Int)), some (mI (w32 (((j : Nat) : Int) + 1)))] [] H from ?_)
          rw [w32_nat (by omega)]
          exact h3 (by omega) (by omega)
        · skip
          refine sp_X12_wrong (by first | omega | (simp (disch := decide) only [gs_ne, gs_at_ne, gs_at]; omega)) (insub (by decide)) ?_
          refine (show W2 o_X12 M_X12_tellClause (inN [64, 72, 73, 74, 75, 76, 77, 78, 79, 80, 81, 82, 83, 84, 85, 86, 87, 88, 89, 90, 91, 92, 93]) (q + 12) Q 350 [some (mR 69), some (mI cp), none, some (mI ((e : Nat) : Int)), some (mI ((i1 : Nat) : Int)), some (mI ((i2 : Nat) : Int)), some (mI ((i3 : Nat) : Int)), some (mI (w32 (((j : Nat) : Int) + 1)))] [] (e_X12_wrong H 3 ((i2 : Nat) : Int)) from ?_)
          rw [w32_nat (by omega)]
          exact h2 (by omega) (by omega)
set_option maxHeartbeats 8000000 in
theorem tl_409 {q : Nat} {H : mG} {Q : Option mV → mG → Prop} {cp : Int} {e : Nat} {R : mG → Prop} (hE : (∀ Q' : Option mV → mG → Prop, (∀ H', R H' → Q' none H') → P2 (inN [64, 72, 73, 74, 75, 76, 77, 78, 79, 80, 81, 82, 83, 84, 85, 86, 87, 88, 89, 90, 91, 92, 93]) (q + 11) M_X12_condition [mR 69] H Q')) (h : ∀ H2, R H2 → W2 o_X12 M_X12_tellClause (inN [64, 72, 73, 74, 75, 76, 77, 78, 79, 80, 81, 82, 83, 84, 85, 86, 87, 88, 89, 90, 91, 92, 93]) (q + 12) Q 494 [some (mR 69), some (mI cp), none, some (mI ((e : Nat) : Int)), none, none, none, none] [] H2) : W2 o_X12 M_X12_tellClause (inN [64, 72, 73, 74, 75, 76, 77, 78, 79, 80, 81, 82, 83, 84, 85, 86, 87, 88, 89, 90, 91, 92, 93]) (q + 12) Q 409 [some (mR 69), some (mI cp), none, some (mI ((e : Nat) : Int)), none, none, none, none] [] H := by
  refine w2_vc [413, 494] 400 oo_X12 q_X12_tellClause ?_
  refine hE _ (fun H' hH' => ?_)
  refine (show W2 o_X12 M_X12_tellClause (inN [64, 72, 73, 74, 75, 76, 77, 78, 79, 80, 81, 82, 83, 84, 85, 86, 87, 88, 89, 90, 91, 92, 93]) (q + 12) Q 413 [some (mR 69), some (mI cp), none, some (mI ((e : Nat) : Int)), none, none, none, none] [] H' from ?_)
  refine w2_vc [413, 494] 400 oo_X12 q_X12_tellClause ?_
  refine (show W2 o_X12 M_X12_tellClause (inN [64, 72, 73, 74, 75, 76, 77, 78, 79, 80, 81, 82, 83, 84, 85, 86, 87, 88, 89, 90, 91, 92, 93]) (q + 12) Q 494 [some (mR 69), some (mI cp), none, some (mI ((e : Nat) : Int)), none, none, none, none] [] H' from ?_)
  exact h H' hH'
set_option maxHeartbeats 8000000 in
theorem tl_416 {q : Nat} {H : mG} {Q : Option mV → mG → Prop} {cp : Int} {e : Nat} (hT : 0 ≤ H 64 11 ∧ H 64 11 ≤ 600) (he : e < 80) (h : W2 o_X12 M_X12_tellClause (inN [64, 72, 73, 74, 75, 76, 77, 78, 79, 80, 81, 82, 83, 84, 85, 86, 87, 88, 89, 90, 91, 92, 93]) (q + 12) Q 494 [some (mR 69), some (mI cp), none, some (mI ((e : Nat) : Int)), none, none, none, none] [] (e_X12_must (gs H 84 e (H 64 11)) 1)) : W2 o_X12 M_X12_tellClause (inN [64, 72, 73, 74, 75, 76, 77, 78, 79, 80, 81, 82, 83, 84, 85, 86, 87, 88, 89, 90, 91, 92, 93]) (q + 12) Q 416 [some (mR 69), some (mI cp), none, some (mI ((e : Nat) : Int)), none, none, none, none] [] H := by
  refine w2_vc [426, 494] 400 oo_X12 q_X12_tellClause ?_
  refine ⟨(show 0 ≤ ((e : Nat) : Int) ∧ ((e : Nat) : Int) < ((80 : Nat) : Int) from by first | omega | (simp (disch := omega) only [w32_i]; omega)), ?_⟩
  refine (show W2 o_X12 M_X12_tellClause (inN [64, 72, 73, 74, 75, 76, 77, 78, 79, 80, 81, 82, 83, 84, 85, 86, 87, 88, 89, 90, 91, 92, 93]) (q + 12) Q 426 [some (mR 69), some (mI cp), none, some (mI ((e : Nat) : Int)), none, none, none, none] [] (gs H 84 (Int.toNat ((e : Nat) : Int)) (H 64 11)) from ?_)
  refine w2_vc [426, 494] 400 oo_X12 q_X12_tellClause ?_
  refine sp_X12_must (by first | omega | (simp (disch := decide) only [gs_ne, gs_at_ne, gs_at]; omega)) (insub (by decide)) ?_
  have c2 := fx_must (gs H 84 (Int.toNat ((e : Nat) : Int)) (H 64 11)) 1
  refine (show W2 o_X12 M_X12_tellClause (inN [64, 72, 73, 74, 75, 76, 77, 78, 79, 80, 81, 82, 83, 84, 85, 86, 87, 88, 89, 90, 91, 92, 93]) (q + 12) Q 494 [some (mR 69), some (mI cp), none, some (mI ((e : Nat) : Int)), none, none, none, none] [] (e_X12_must (gs H 84 (Int.toNat ((e : Nat) : Int)) (H 64 11)) 1) from ?_)
  rw [st_nat]
  exact h
set_option maxHeartbeats 8000000 in
theorem tl_434 {q : Nat} {H : mG} {Q : Option mV → mG → Prop} {cp : Int} {e : Nat} (hT : 0 ≤ H 64 11 ∧ H 64 11 ≤ 600) (h : W2 o_X12 M_X12_tellClause (inN [64, 72, 73, 74, 75, 76, 77, 78, 79, 80, 81, 82, 83, 84, 85, 86, 87, 88, 89, 90, 91, 92, 93]) (q + 12) Q 451 [some (mR 69), some (mI cp), none, some (mI ((e : Nat) : Int)), some (mI (H 64 11)), none, none, none] [] (e_X12_must (e_X12_must H 2) 30)) : W2 o_X12 M_X12_tellClause (inN [64, 72, 73, 74, 75, 76, 77, 78, 79, 80, 81, 82, 83, 84, 85, 86, 87, 88, 89, 90, 91, 92, 93]) (q + 12) Q 434 [some (mR 69), some (mI cp), none, some (mI ((e : Nat) : Int)), none, none, none, none] [] H := by
  refine w2_vc [451] 400 oo_X12 q_X12_tellClause ?_
  refine sp_X12_must (by first | omega | (simp (disch := decide) only [gs_ne, gs_at_ne, gs_at]; omega)) (insub (by decide)) ?_
  have c2 := fx_must H 2
  refine sp_X12_must (by first | omega | (simp (disch := decide) only [gs_ne, gs_at_ne, gs_at]; omega)) (insub (by decide)) ?_
  have c4 := fx_must (e_X12_must H 2) 30
  refine (show W2 o_X12 M_X12_tellClause (inN [64, 72, 73, 74, 75, 76, 77, 78, 79, 80, 81, 82, 83, 84, 85, 86, 87, 88, 89, 90, 91, 92, 93]) (q + 12) Q 451 [some (mR 69), some (mI cp), none, some (mI ((e : Nat) : Int)), some (mI (H 64 11)), none, none, none] [] (e_X12_must (e_X12_must H 2) 30) from ?_)
  exact h
set_option maxHeartbeats 8000000 in
theorem tl_451 {q : Nat} {H : mG} {Q : Option mV → mG → Prop} {cp : Int} {e i1 : Nat} (he : e < 80) (hi : i1 ≤ 600) (h1 : 0 < H 64 13 → Q none H) (h2 : H 64 13 ≤ 0 → 100 < H 69 i1 → W2 o_X12 M_X12_tellClause (inN [64, 72, 73, 74, 75, 76, 77, 78, 79, 80, 81, 82, 83, 84, 85, 86, 87, 88, 89, 90, 91, 92, 93]) (q + 12) Q 490 [some (mR 69), some (mI cp), none, some (mI ((e : Nat) : Int)), none, none, none, none] [] (e_X12_wrong (gs H 79 e (H 69 i1)) 5 ((i1 : Nat) : Int))) (h3 : H 64 13 ≤ 0 → H 69 i1 ≤ 100 → W2 o_X12 M_X12_tellClause (inN [64, 72, 73, 74, 75, 76, 77, 78, 79, 80, 81, 82, 83, 84, 85, 86, 87, 88, 89, 90, 91, 92, 93]) (q + 12) Q 490 [some (mR 69), some (mI cp), none, some (mI ((e : Nat) : Int)), none, none, none, none] [] (gs H 79 e (H 69 i1))) : W2 o_X12 M_X12_tellClause (inN [64, 72, 73, 74, 75, 76, 77, 78, 79, 80, 81, 82, 83, 84, 85, 86, 87, 88, 89, 90, 91, 92, 93]) (q + 12) Q 451 [some (mR 69), some (mI cp), none, some (mI ((e : Nat) : Int)), some (mI ((i1 : Nat) : Int)), none, none, none] [] H := by
  refine w2_vc [472, 490] 400 oo_X12 q_X12_tellClause ?_
  refine ⟨fun (c1 : (H 64 13) ≤ 0) => ?_, fun (c1 : 0 < (H 64 13)) => ?_⟩
  · skip
    refine ⟨(show 0 ≤ ((i1 : Nat) : Int) ∧ ((i1 : Nat) : Int) < ((603 : Nat) : Int) from by first | omega | (simp (disch := omega) only [w32_i]; omega)), ?_⟩
    refine ⟨(show 0 ≤ ((e : Nat) : Int) ∧ ((e : Nat) : Int) < ((80 : Nat) : Int) from by first | omega | (simp (disch := omega) only [w32_i]; omega)), ?_⟩
    refine (show W2 o_X12 M_X12_tellClause (inN [64, 72, 73, 74, 75, 76, 77, 78, 79, 80, 81, 82, 83, 84, 85, 86, 87, 88, 89, 90, 91, 92, 93]) (q + 12) Q 472 [some (mR 69), some (mI cp), none, some (mI ((e : Nat) : Int)), some (mI ((i1 : Nat) : Int)), none, none, none] [] (gs H 79 (Int.toNat ((e : Nat) : Int)) (H 69 (Int.toNat ((i1 : Nat) : Int)))) from ?_)
    refine w2_vc [472, 490] 400 oo_X12 q_X12_tellClause ?_
    refine ⟨(show 0 ≤ ((e : Nat) : Int) ∧ ((e : Nat) : Int) < ((80 : Nat) : Int) from by first | omega | (simp (disch := omega) only [w32_i]; omega)), ?_⟩
    refine ⟨fun (c2 : (H 69 (Int.toNat ((i1 : Nat) : Int))) ≤ 100) => ?_, fun (c2 : 100 < (H 69 (Int.toNat ((i1 : Nat) : Int)))) => ?_⟩
    · skip
      refine (show W2 o_X12 M_X12_tellClause (inN [64, 72, 73, 74, 75, 76, 77, 78, 79, 80, 81, 82, 83, 84, 85, 86, 87, 88, 89, 90, 91, 92, 93]) (q + 12) Q 490 [some (mR 69), some (mI cp), none, some (mI ((e : Nat) : Int)), some (mI ((i1 : Nat) : Int)), none, none, none] [] (gs H 79 (Int.toNat ((e : Nat) : Int)) (H 69 (Int.toNat ((i1 : Nat) : Int)))) from ?_)
      refine WP.fg (L' := [some (mR 69), some (mI cp), none, some (mI ((e : Nat) : Int)), none, none, none, none]) ⟨rfl, rfl, rfl, trivial⟩ ?_
      rw [st_nat, st_nat]
      exact h3 (by omega) (by rw [st_nat] at c2; omega)
    · skip
      refine sp_X12_wrong (by first | omega | (simp (disch := decide) only [gs_ne, gs_at_ne, gs_at]; omega)) (insub (by decide)) ?_
      refine (show W2 o_X12 M_X12_tellClause (inN [64, 72, 73, 74, 75, 76, 77, 78, 79, 80, 81, 82, 83, 84, 85, 86, 87, 88, 89, 90, 91, 92, 93]) (q + 12) Q 490 [some (mR 69), some (mI cp), none, some (mI ((e : Nat) : Int)), some (mI ((i1 : Nat) : Int)), none, none, none] [] (e_X12_wrong (gs H 79 (Int.toNat ((e : Nat) : Int)) (H 69 (Int.toNat ((i1 : Nat) : Int)))) 5 ((i1 : Nat) : Int)) from ?_)
      refine WP.fg (L' := [some (mR 69), some (mI cp), none, some (mI ((e : Nat) : Int)), none, none, none, none]) ⟨rfl, rfl, rfl, trivial⟩ ?_
      rw [st_nat, st_nat]
      exact h2 (by omega) (by rw [st_nat] at c2; omega)
  · skip
    exact h1 (by omega)
set_option maxHeartbeats 8000000 in
theorem tl_490 {q : Nat} {H : mG} {Q : Option mV → mG → Prop} {cp : Int} {e : Nat} {R : mG → Prop} (hE : (∀ Q' : Option mV → mG → Prop, (∀ H', R H' → Q' none H') → P2 (inN [64, 72, 73, 74, 75, 76, 77, 78, 79, 80, 81, 82, 83, 84, 85, 86, 87, 88, 89, 90, 91, 92, 93]) (q + 11) M_X12_condition [mR 69] H Q')) (h : ∀ H2, R H2 → W2 o_X12 M_X12_tellClause (inN [64, 72, 73, 74, 75, 76, 77, 78, 79, 80, 81, 82, 83, 84, 85, 86, 87, 88, 89, 90, 91, 92, 93]) (q + 12) Q 494 [some (mR 69), some (mI cp), none, some (mI ((e : Nat) : Int)), none, none, none, none] [] H2) : W2 o_X12 M_X12_tellClause (inN [64, 72, 73, 74, 75, 76, 77, 78, 79, 80, 81, 82, 83, 84, 85, 86, 87, 88, 89, 90, 91, 92, 93]) (q + 12) Q 490 [some (mR 69), some (mI cp), none, some (mI ((e : Nat) : Int)), none, none, none, none] [] H := by
  refine w2_vc [494] 400 oo_X12 q_X12_tellClause ?_
  refine hE _ (fun H' hH' => ?_)
  refine (show W2 o_X12 M_X12_tellClause (inN [64, 72, 73, 74, 75, 76, 77, 78, 79, 80, 81, 82, 83, 84, 85, 86, 87, 88, 89, 90, 91, 92, 93]) (q + 12) Q 494 [some (mR 69), some (mI cp), none, some (mI ((e : Nat) : Int)), none, none, none, none] [] H' from ?_)
  exact h H' hH'
set_option maxHeartbeats 8000000 in
theorem tl_494 {q : Nat} {H : mG} {Q : Option mV → mG → Prop} {cp : Int} {e : Nat} (hT : 0 ≤ H 64 11 ∧ H 64 11 ≤ 600) (h : W2 o_X12 M_X12_tellClause (inN [64, 72, 73, 74, 75, 76, 77, 78, 79, 80, 81, 82, 83, 84, 85, 86, 87, 88, 89, 90, 91, 92, 93]) (q + 12) Q 499 [some (mR 69), some (mI cp), none, some (mI ((e : Nat) : Int)), none, none, none, none] [] (e_X12_must H 4)) : W2 o_X12 M_X12_tellClause (inN [64, 72, 73, 74, 75, 76, 77, 78, 79, 80, 81, 82, 83, 84, 85, 86, 87, 88, 89, 90, 91, 92, 93]) (q + 12) Q 494 [some (mR 69), some (mI cp), none, some (mI ((e : Nat) : Int)), none, none, none, none] [] H := by
  refine w2_vc [499] 400 oo_X12 q_X12_tellClause ?_
  refine sp_X12_must (by first | omega | (simp (disch := decide) only [gs_ne, gs_at_ne, gs_at]; omega)) (insub (by decide)) ?_
  have c2 := fx_must H 4
  refine (show W2 o_X12 M_X12_tellClause (inN [64, 72, 73, 74, 75, 76, 77, 78, 79, 80, 81, 82, 83, 84, 85, 86, 87, 88, 89, 90, 91, 92, 93]) (q + 12) Q 499 [some (mR 69), some (mI cp), none, some (mI ((e : Nat) : Int)), none, none, none, none] [] (e_X12_must H 4) from ?_)
  exact h
set_option maxHeartbeats 8000000 in
theorem tl_499 {q : Nat} {H : mG} {Q : Option mV → mG → Prop} {cp : Int} {e : Nat} (hs : 0 ≤ H 64 19 ∧ H 64 19 ≤ 1) (he : e < 80) (h1 : 0 < H 64 13 → Q none H) (h2 : H 64 13 ≤ 0 → Q none (gs (gs H 83 (Int.toNat ((e : Nat) : Int)) (H 85 (Int.toNat (H 64 19)))) 76 (Int.toNat (H 64 19)) (w32 ((H 76 (Int.toNat (H 64 19))) + 1)))) : W2 o_X12 M_X12_tellClause (inN [64, 72, 73, 74, 75, 76, 77, 78, 79, 80, 81, 82, 83, 84, 85, 86, 87, 88, 89, 90, 91, 92, 93]) (q + 12) Q 499 [some (mR 69), some (mI cp), none, some (mI ((e : Nat) : Int)), none, none, none, none] [] H := by
  refine w2_vc [522, 532, 535] 400 oo_X12 q_X12_tellClause ?_
  refine ⟨fun (c1 : (H 64 13) ≤ 0) => ?_, fun (c1 : 0 < (H 64 13)) => ?_⟩
  · skip
    refine ⟨(show 0 ≤ (H 64 19) ∧ (H 64 19) < ((2 : Nat) : Int) from by first | omega | (simp (disch := omega) only [w32_i]; omega)), ?_⟩
    refine ⟨(show 0 ≤ ((e : Nat) : Int) ∧ ((e : Nat) : Int) < ((80 : Nat) : Int) from by first | omega | (simp (disch := omega) only [w32_i]; omega)), ?_⟩
    refine (show W2 o_X12 M_X12_tellClause (inN [64, 72, 73, 74, 75, 76, 77, 78, 79, 80, 81, 82, 83, 84, 85, 86, 87, 88, 89, 90, 91, 92, 93]) (q + 12) Q 522 [some (mR 69), some (mI cp), none, some (mI ((e : Nat) : Int)), none, none, none, none] [] (gs H 83 (Int.toNat ((e : Nat) : Int)) (H 85 (Int.toNat (H 64 19)))) from ?_)
    refine w2_vc [522, 532, 535] 400 oo_X12 q_X12_tellClause ?_
    refine ⟨(show 0 ≤ (H 64 19) ∧ (H 64 19) < ((2 : Nat) : Int) from by first | omega | (simp (disch := omega) only [w32_i]; omega)), ?_⟩
    refine (show W2 o_X12 M_X12_tellClause (inN [64, 72, 73, 74, 75, 76, 77, 78, 79, 80, 81, 82, 83, 84, 85, 86, 87, 88, 89, 90, 91, 92, 93]) (q + 12) Q 532 [some (mR 69), some (mI cp), none, some (mI ((e : Nat) : Int)), none, none, none, none] [mI (H 76 (Int.toNat (H 64 19))), mI (H 64 19), mR 81] (gs H 83 (Int.toNat ((e : Nat) : Int)) (H 85 (Int.toNat (H 64 19)))) from ?_)
    refine w2_vc [522, 532, 535] 400 oo_X12 q_X12_tellClause ?_
    refine ⟨(show 0 ≤ (H 64 19) ∧ (H 64 19) < ((2 : Nat) : Int) from by first | omega | (simp (disch := omega) only [w32_i]; omega)), ?_⟩
    refine (show W2 o_X12 M_X12_tellClause (inN [64, 72, 73, 74, 75, 76, 77, 78, 79, 80, 81, 82, 83, 84, 85, 86, 87, 88, 89, 90, 91, 92, 93]) (q + 12) Q 535 [some (mR 69), some (mI cp), none, some (mI ((e : Nat) : Int)), none, none, none, none] [] (gs (gs H 83 (Int.toNat ((e : Nat) : Int)) (H 85 (Int.toNat (H 64 19)))) 76 (Int.toNat (H 64 19)) (w32 ((H 76 (Int.toNat (H 64 19))) + 1))) from ?_)
    refine w2_vc [522, 532, 535] 400 oo_X12 q_X12_tellClause ?_
    exact h2 (by omega)
  · skip
    exact h1 (by omega)
set_option maxHeartbeats 8000000 in
theorem tm_0 {D : Nat → Bool} {q : Nat} {H : mG} {Q : Option mV → mG → Prop} (hD : ∀ k, D k = false → inN [64, 72, 73, 74, 75, 76, 77, 78, 79, 80, 81, 82, 83, 84, 85, 86, 87, 88, 89, 90, 91, 92, 93] k = false) (hT : 0 ≤ H 64 11 ∧ H 64 11 ≤ 600) (hs : 0 ≤ H 64 19 ∧ H 64 19 ≤ 1) (h1 : (H 64 13 = 0 ∧ (H 67 (Int.toNat (H 64 11))) = 20) → H 72 (Int.toNat (H 64 19)) = 8 → W2 o_X12 M_X12_tellCampaign (inN [64, 72, 73, 74, 75, 76, 77, 78, 79, 80, 81, 82, 83, 84, 85, 86, 87, 88, 89, 90, 91, 92, 93]) (q + 14) Q 28 [some (mR 69), none, none, none, none, none] [] (e_X12_fail H 2)) (h2 : ¬ (H 64 13 = 0 ∧ (H 67 (Int.toNat (H 64 11))) = 20 ∧ H 72 (Int.toNat (H 64 19)) = 8) → W2 o_X12 M_X12_tellCampaign (inN [64, 72, 73, 74, 75, 76, 77, 78, 79, 80, 81, 82, 83, 84, 85, 86, 87, 88, 89, 90, 91, 92, 93]) (q + 14) Q 28 [some (mR 69), none, none, none, none, none] [] H) : P2 D (q + 14) M_X12_tellCampaign [mR 69] H Q := by
  refine MP.to (D2 := inN [64, 72, 73, 74, 75, 76, 77, 78, 79, 80, 81, 82, 83, 84, 85, 86, 87, 88, 89, 90, 91, 92, 93]) (Q2 := Q) ?_ hD (fun v G' q _ => q)
  refine p2_vc [28] 400 oo_X12 q_X12_tellCampaign (by decide) rfl (Nat.le_of_ble_eq_true rfl) ?_
  refine sp_X12_is (by first | omega | (simp (disch := decide) only [gs_ne, gs_at_ne, gs_at]; omega)) ?_
  have c2 := fa_X12_is H 20
  refine ⟨fun (c3 : (f_X12_is H 20) = 0) => ?_, fun (c3 : ¬ (f_X12_is H 20) = 0) => ?_⟩
  · skip
    refine (show W2 o_X12 M_X12_tellCampaign (inN [64, 72, 73, 74, 75, 76, 77, 78, 79, 80, 81, 82, 83, 84, 85, 86, 87, 88, 89, 90, 91, 92, 93]) (q + 14) Q 28 [some (mR 69), none, none, none, none, none] [] H from ?_)
    exact h2 (by omega)
  · skip
    refine ⟨(show 0 ≤ (H 64 19) ∧ (H 64 19) < ((2 : Nat) : Int) from by first | omega | (simp (disch := omega) only [w32_i]; omega)), ?_⟩
    refine ⟨fun (c4 : ¬ (H 72 (Int.toNat (H 64 19))) = 8) => ?_, fun (c4 : (H 72 (Int.toNat (H 64 19))) = 8) => ?_⟩
    · skip
      refine (show W2 o_X12 M_X12_tellCampaign (inN [64, 72, 73, 74, 75, 76, 77, 78, 79, 80, 81, 82, 83, 84, 85, 86, 87, 88, 89, 90, 91, 92, 93]) (q + 14) Q 28 [some (mR 69), none, none, none, none, none] [] H from ?_)
      exact h2 (by omega)
    · skip
      refine sp_X12_fail (by first | omega | (simp (disch := decide) only [gs_ne, gs_at_ne, gs_at]; omega)) (insub (by decide)) ?_
      have c6 := fx_fail H 2
      refine (show W2 o_X12 M_X12_tellCampaign (inN [64, 72, 73, 74, 75, 76, 77, 78, 79, 80, 81, 82, 83, 84, 85, 86, 87, 88, 89, 90, 91, 92, 93]) (q + 14) Q 28 [some (mR 69), none, none, none, none, none] [] (e_X12_fail H 2) from ?_)
      exact h1 (by omega) (by omega)
set_option maxHeartbeats 8000000 in
theorem tm_28 {q : Nat} {H : mG} {Q : Option mV → mG → Prop} (hT : 0 ≤ H 64 11 ∧ H 64 11 ≤ 600) (h : W2 o_X12 M_X12_tellCampaign (inN [64, 72, 73, 74, 75, 76, 77, 78, 79, 80, 81, 82, 83, 84, 85, 86, 87, 88, 89, 90, 91, 92, 93]) (q + 14) Q 81 [some (mR 69), some (mI ((e_X12_must H 20) 64 11)), some (mI ((e_X12_must (e_X12_must (e_X12_must H 20) 1) 21) 64 11)), some (mI ((e_X12_must (e_X12_must (e_X12_must (e_X12_must (e_X12_must H 20) 1) 21) 2) 22) 64 11)), none, none] [] (e_X12_must (e_X12_must (e_X12_must (e_X12_must (e_X12_must (e_X12_must (e_X12_must H 20) 1) 21) 2) 22) 2) 4)) : W2 o_X12 M_X12_tellCampaign (inN [64, 72, 73, 74, 75, 76, 77, 78, 79, 80, 81, 82, 83, 84, 85, 86, 87, 88, 89, 90, 91, 92, 93]) (q + 14) Q 28 [some (mR 69), none, none, none, none, none] [] H := by
  refine w2_vc [55, 60, 66, 71, 76, 81] 400 oo_X12 q_X12_tellCampaign ?_
  refine sp_X12_must (by first | omega | (simp (disch := decide) only [gs_ne, gs_at_ne, gs_at]; omega)) (insub (by decide)) ?_
  have c2 := fx_must H 20
  refine sp_X12_must (by first | omega | (simp (disch := decide) only [gs_ne, gs_at_ne, gs_at]; omega)) (insub (by decide)) ?_
  have c4 := fx_must (e_X12_must H 20) 1
  refine sp_X12_must (by first | omega | (simp (disch := decide) only [gs_ne, gs_at_ne, gs_at]; omega)) (insub (by decide)) ?_
  have c6 := fx_must (e_X12_must (e_X12_must H 20) 1) 21
  refine (show W2 o_X12 M_X12_tellCampaign (inN [64, 72, 73, 74, 75, 76, 77, 78, 79, 80, 81, 82, 83, 84, 85, 86, 87, 88, 89, 90, 91, 92, 93]) (q + 14) Q 55 [some (mR 69), some (mI ((e_X12_must H 20) 64 11)), some (mI ((e_X12_must (e_X12_must (e_X12_must H 20) 1) 21) 64 11)), none, none, none] [] (e_X12_must (e_X12_must (e_X12_must H 20) 1) 21) from ?_)
  refine w2_vc [55, 60, 66, 71, 76, 81] 400 oo_X12 q_X12_tellCampaign ?_
  refine sp_X12_must (by first | omega | (simp (disch := decide) only [gs_ne, gs_at_ne, gs_at]; omega)) (insub (by decide)) ?_
  have c8 := fx_must (e_X12_must (e_X12_must (e_X12_must H 20) 1) 21) 2
  refine (show W2 o_X12 M_X12_tellCampaign (inN [64, 72, 73, 74, 75, 76, 77, 78, 79, 80, 81, 82, 83, 84, 85, 86, 87, 88, 89, 90, 91, 92, 93]) (q + 14) Q 60 [some (mR 69), some (mI ((e_X12_must H 20) 64 11)), some (mI ((e_X12_must (e_X12_must (e_X12_must H 20) 1) 21) 64 11)), none, none, none] [] (e_X12_must (e_X12_must (e_X12_must (e_X12_must H 20) 1) 21) 2) from ?_)
  refine w2_vc [55, 60, 66, 71, 76, 81] 400 oo_X12 q_X12_tellCampaign ?_
  refine sp_X12_must (by first | omega | (simp (disch := decide) only [gs_ne, gs_at_ne, gs_at]; omega)) (insub (by decide)) ?_
  have c10 := fx_must (e_X12_must (e_X12_must (e_X12_must (e_X12_must H 20) 1) 21) 2) 22
  refine (show W2 o_X12 M_X12_tellCampaign (inN [64, 72, 73, 74, 75, 76, 77, 78, 79, 80, 81, 82, 83, 84, 85, 86, 87, 88, 89, 90, 91, 92, 93]) (q + 14) Q 66 [some (mR 69), some (mI ((e_X12_must H 20) 64 11)), some (mI ((e_X12_must (e_X12_must (e_X12_must H 20) 1) 21) 64 11)), none, none, none] [] (e_X12_must (e_X12_must (e_X12_must (e_X12_must (e_X12_must H 20) 1) 21) 2) 22) from ?_)
  refine w2_vc [55, 60, 66, 71, 76, 81] 400 oo_X12 q_X12_tellCampaign ?_
  refine (show W2 o_X12 M_X12_tellCampaign (inN [64, 72, 73, 74, 75, 76, 77, 78, 79, 80, 81, 82, 83, 84, 85, 86, 87, 88, 89, 90, 91, 92, 93]) (q + 14) Q 71 [some (mR 69), some (mI ((e_X12_must H 20) 64 11)), some (mI ((e_X12_must (e_X12_must (e_X12_must H 20) 1) 21) 64 11)), some (mI ((e_X12_must (e_X12_must (e_X12_must (e_X12_must (e_X12_must H 20) 1) 21) 2) 22) 64 11)), none, none] [] (e_X12_must (e_X12_must (e_X12_must (e_X12_must (e_X12_must H 20) 1) 21) 2) 22) from ?_)
  refine w2_vc [55, 60, 66, 71, 76, 81] 400 oo_X12 q_X12_tellCampaign ?_
  refine sp_X12_must (by first | omega | (simp (disch := decide) only [gs_ne, gs_at_ne, gs_at]; omega)) (insub (by decide)) ?_
  have c12 := fx_must (e_X12_must (e_X12_must (e_X12_must (e_X12_must (e_X12_must H 20) 1) 21) 2) 22) 2
  refine (show W2 o_X12 M_X12_tellCampaign (inN [64, 72, 73, 74, 75, 76, 77, 78, 79, 80, 81, 82, 83, 84, 85, 86, 87, 88, 89, 90, 91, 92, 93]) (q + 14) Q 76 [some (mR 69), some (mI ((e_X12_must H 20) 64 11)), some (mI ((e_X12_must (e_X12_must (e_X12_must H 20) 1) 21) 64 11)), some (mI ((e_X12_must (e_X12_must (e_X12_must (e_X12_must (e_X12_must H 20) 1) 21) 2) 22) 64 11)), none, none] [] (e_X12_must (e_X12_must (e_X12_must (e_X12_must (e_X12_must (e_X12_must H 20) 1) 21) 2) 22) 2) from ?_)
  refine w2_vc [55, 60, 66, 71, 76, 81] 400 oo_X12 q_X12_tellCampaign ?_
  refine sp_X12_must (by first | omega | (simp (disch := decide) only [gs_ne, gs_at_ne, gs_at]; omega)) (insub (by decide)) ?_
  have c14 := fx_must (e_X12_must (e_X12_must (e_X12_must (e_X12_must (e_X12_must (e_X12_must H 20) 1) 21) 2) 22) 2) 4
  refine (show W2 o_X12 M_X12_tellCampaign (inN [64, 72, 73, 74, 75, 76, 77, 78, 79, 80, 81, 82, 83, 84, 85, 86, 87, 88, 89, 90, 91, 92, 93]) (q + 14) Q 81 [some (mR 69), some (mI ((e_X12_must H 20) 64 11)), some (mI ((e_X12_must (e_X12_must (e_X12_must H 20) 1) 21) 64 11)), some (mI ((e_X12_must (e_X12_must (e_X12_must (e_X12_must (e_X12_must H 20) 1) 21) 2) 22) 64 11)), none, none] [] (e_X12_must (e_X12_must (e_X12_must (e_X12_must (e_X12_must (e_X12_must (e_X12_must H 20) 1) 21) 2) 22) 2) 4) from ?_)
  exact h
set_option maxHeartbeats 8000000 in
theorem tm_81 {q : Nat} {H : mG} {Q : Option mV → mG → Prop} {i1 i2 i3 : Nat} (hs : 0 ≤ H 64 19 ∧ H 64 19 ≤ 1) (h1 : 0 < H 64 13 → Q none H) (h2 : H 64 13 ≤ 0 → W2 o_X12 M_X12_tellCampaign (inN [64, 72, 73, 74, 75, 76, 77, 78, 79, 80, 81, 82, 83, 84, 85, 86, 87, 88, 89, 90, 91, 92, 93]) (q + 14) Q 117 [some (mR 69), some (mI ((i1 : Nat) : Int)), some (mI ((i2 : Nat) : Int)), some (mI ((i3 : Nat) : Int)), some (mI (w32 ((w32 (8 * (H 64 19))) + (H 72 (Int.toNat (H 64 19)))))), some (mI (w32 (8 * (H 64 19))))] [] H) : W2 o_X12 M_X12_tellCampaign (inN [64, 72, 73, 74, 75, 76, 77, 78, 79, 80, 81, 82, 83, 84, 85, 86, 87, 88, 89, 90, 91, 92, 93]) (q + 14) Q 81 [some (mR 69), some (mI ((i1 : Nat) : Int)), some (mI ((i2 : Nat) : Int)), some (mI ((i3 : Nat) : Int)), none, none] [] H := by
  refine w2_vc [117] 400 oo_X12 q_X12_tellCampaign ?_
  refine ⟨fun (c1 : (H 64 13) ≤ 0) => ?_, fun (c1 : 0 < (H 64 13)) => ?_⟩
  · skip
    refine ⟨(show 0 ≤ (H 64 19) ∧ (H 64 19) < ((2 : Nat) : Int) from by first | omega | (simp (disch := omega) only [w32_i]; omega)), ?_⟩
    refine (show W2 o_X12 M_X12_tellCampaign (inN [64, 72, 73, 74, 75, 76, 77, 78, 79, 80, 81, 82, 83, 84, 85, 86, 87, 88, 89, 90, 91, 92, 93]) (q + 14) Q 117 [some (mR 69), some (mI ((i1 : Nat) : Int)), some (mI ((i2 : Nat) : Int)), some (mI ((i3 : Nat) : Int)), some (mI (w32 ((w32 (8 * (H 64 19))) + (H 72 (Int.toNat (H 64 19)))))), some (mI (w32 (8 * (H 64 19))))] [] H from ?_)
    exact h2 (by omega)
  · skip
    exact h1 (by omega)
set_option maxHeartbeats 8000000 in
theorem tm_117 {q : Nat} {H : mG} {Q : Option mV → mG → Prop} {i1 i2 i3 e j : Nat} (he : e ≤ 16) (hi : i1 ≤ 600) (h1 : e ≤ j → W2 o_X12 M_X12_tellCampaign (inN [64, 72, 73, 74, 75, 76, 77, 78, 79, 80, 81, 82, 83, 84, 85, 86, 87, 88, 89, 90, 91, 92, 93]) (q + 14) Q 153 [some (mR 69), some (mI ((i1 : Nat) : Int)), some (mI ((i2 : Nat) : Int)), some (mI ((i3 : Nat) : Int)), some (mI ((e : Nat) : Int)), none] [] H) (h2 : j < e → (H 73 (Int.toNat ((j : Nat) : Int)) = H 70 (Int.toNat ((i1 : Nat) : Int))) → W2 o_X12 M_X12_tellCampaign (inN [64, 72, 73, 74, 75, 76, 77, 78, 79, 80, 81, 82, 83, 84, 85, 86, 87, 88, 89, 90, 91, 92, 93]) (q + 14) Q 117 [some (mR 69), some (mI ((i1 : Nat) : Int)), some (mI ((i2 : Nat) : Int)), some (mI ((i3 : Nat) : Int)), some (mI ((e : Nat) : Int)), some (mI ((j + 1 : Nat) : Int))] [] (e_X12_wrong H 3 ((i1 : Nat) : Int))) (h3 : j < e → ¬ (H 73 (Int.toNat ((j : Nat) : Int)) = H 70 (Int.toNat ((i1 : Nat) : Int))) → W2 o_X12 M_X12_tellCampaign (inN [64, 72, 73, 74, 75, 76, 77, 78, 79, 80, 81, 82, 83, 84, 85, 86, 87, 88, 89, 90, 91, 92, 93]) (q + 14) Q 117 [some (mR 69), some (mI ((i1 : Nat) : Int)), some (mI ((i2 : Nat) : Int)), some (mI ((i3 : Nat) : Int)), some (mI ((e : Nat) : Int)), some (mI ((j + 1 : Nat) : Int))] [] H) : W2 o_X12 M_X12_tellCampaign (inN [64, 72, 73, 74, 75, 76, 77, 78, 79, 80, 81, 82, 83, 84, 85, 86, 87, 88, 89, 90, 91, 92, 93]) (q + 14) Q 117 [some (mR 69), some (mI ((i1 : Nat) : Int)), some (mI ((i2 : Nat) : Int)), some (mI ((i3 : Nat) : Int)), some (mI ((e : Nat) : Int)), some (mI ((j : Nat) : Int))] [] H := by
  refine w2_vc [117, 153] 400 oo_X12 q_X12_tellCampaign ?_
  refine ⟨fun (c1 : ((e : Nat) : Int) ≤ ((j : Nat) : Int)) => ?_, fun (c1 : ((j : Nat) : Int) < ((e : Nat) : Int)) => ?_⟩
  · skip
    refine (show W2 o_X12 M_X12_tellCampaign (inN [64, 72, 73, 74, 75, 76, 77, 78, 79, 80, 81, 82, 83, 84, 85, 86, 87, 88, 89, 90, 91, 92, 93]) (q + 14) Q 153 [some (mR 69), some (mI ((i1 : Nat) : Int)), some (mI ((i2 : Nat) : Int)), some (mI ((i3 : Nat) : Int)), some (mI ((e : Nat) : Int)), some (mI ((j : Nat) : Int))] [] H from ?_)
    refine WP.fg (L' := [some (mR 69), some (mI ((i1 : Nat) : Int)), some (mI ((i2 : Nat) : Int)), some (mI ((i3 : Nat) : Int)), some (mI ((e : Nat) : Int)), none]) ⟨rfl, rfl, rfl, rfl, rfl, trivial⟩ ?_
    exact h1 (by omega)
  · skip
    refine ⟨(show 0 ≤ ((j : Nat) : Int) ∧ ((j : Nat) : Int) < ((16 : Nat) : Int) from by first | omega | (simp (disch := omega) only [w32_i]; omega)), ?_⟩
    refine ⟨(show 0 ≤ ((i1 : Nat) : Int) ∧ ((i1 : Nat) : Int) < ((603 : Nat) : Int) from by first | omega | (simp (disch := omega) only [w32_i]; omega)), ?_⟩
    refine ⟨fun (c2 : ¬ (mLcmp (H 73 (Int.toNat ((j : Nat) : Int))) (H 70 (Int.toNat ((i1 : Nat) : Int)))) = 0) => ?_, fun (c2 : (mLcmp (H 73 (Int.toNat ((j : Nat) : Int))) (H 70 (Int.toNat ((i1 : Nat) : Int)))) = 0) => ?_⟩
    · skip
      refine (show W2 o_X12 M_X12_tellCampaign (inN [64, 72, 73, 74, 75, 76, 77, 78, 79, 80, 81, 82, 83, 84, 85, 86, 87, 88, 89, 90, 91, 92, 93]) (q + 14) Q 117 [some (mR 69), some (mI ((i1 : Nat) : Int)), some (mI ((i2 : Nat) : Int)), some (mI ((i3 : Nat) : Int)), some (mI ((e : Nat) : Int)), some (mI (w32 (((j : Nat) : Int) + 1)))] [] H from ?_)
      rw [w32_nat (by omega)]
      exact h3 (by omega) (fun y => c2 (lcmp_e.mpr y))
    · skip
      refine sp_X12_wrong (by first | omega | (simp (disch := decide) only [gs_ne, gs_at_ne, gs_at]; omega)) (insub (by decide)) ?_
      refine (show W2 o_X12 M_X12_tellCampaign (inN [64, 72, 73, 74, 75, 76, 77, 78, 79, 80, 81, 82, 83, 84, 85, 86, 87, 88, 89, 90, 91, 92, 93]) (q + 14) Q 117 [some (mR 69), some (mI ((i1 : Nat) : Int)), some (mI ((i2 : Nat) : Int)), some (mI ((i3 : Nat) : Int)), some (mI ((e : Nat) : Int)), some (mI (w32 (((j : Nat) : Int) + 1)))] [] (e_X12_wrong H 3 ((i1 : Nat) : Int)) from ?_)
      rw [w32_nat (by omega)]
      exact h2 (by omega) (lcmp_e.mp c2)
set_option maxHeartbeats 8000000 in
theorem tm_153 {q : Nat} {H : mG} {Q : Option mV → mG → Prop} {i1 i2 i3 e : Nat} (he : e < 16) (hi : i1 ≤ 600 ∧ i2 ≤ 600 ∧ i3 ≤ 600) (h : W2 o_X12 M_X12_tellCampaign (inN [64, 72, 73, 74, 75, 76, 77, 78, 79, 80, 81, 82, 83, 84, 85, 86, 87, 88, 89, 90, 91, 92, 93]) (q + 14) Q 192 [some (mR 69), none, some (mI ((i2 : Nat) : Int)), some (mI ((i3 : Nat) : Int)), none, none] [] (gs (gs (gs H 73 e (H 70 i1)) 74 e (H 69 i2)) 75 e (H 69 i3))) : W2 o_X12 M_X12_tellCampaign (inN [64, 72, 73, 74, 75, 76, 77, 78, 79, 80, 81, 82, 83, 84, 85, 86, 87, 88, 89, 90, 91, 92, 93]) (q + 14) Q 153 [some (mR 69), some (mI ((i1 : Nat) : Int)), some (mI ((i2 : Nat) : Int)), some (mI ((i3 : Nat) : Int)), some (mI ((e : Nat) : Int)), none] [] H := by
  refine w2_vc [166, 178, 179, 191, 192] 400 oo_X12 q_X12_tellCampaign ?_
  refine ⟨(show 0 ≤ ((i1 : Nat) : Int) ∧ ((i1 : Nat) : Int) < ((603 : Nat) : Int) from by first | omega | (simp (disch := omega) only [w32_i]; omega)), ?_⟩
  refine ⟨(show 0 ≤ ((e : Nat) : Int) ∧ ((e : Nat) : Int) < ((16 : Nat) : Int) from by first | omega | (simp (disch := omega) only [w32_i]; omega)), ?_⟩
  refine (show W2 o_X12 M_X12_tellCampaign (inN [64, 72, 73, 74, 75, 76, 77, 78, 79, 80, 81, 82, 83, 84, 85, 86, 87, 88, 89, 90, 91, 92, 93]) (q + 14) Q 166 [some (mR 69), some (mI ((i1 : Nat) : Int)), some (mI ((i2 : Nat) : Int)), some (mI ((i3 : Nat) : Int)), some (mI ((e : Nat) : Int)), none] [] (gs H 73 (Int.toNat ((e : Nat) : Int)) (H 70 (Int.toNat ((i1 : Nat) : Int)))) from ?_)
  refine w2_vc [166, 178, 179, 191, 192] 400 oo_X12 q_X12_tellCampaign ?_
  refine ⟨(show 0 ≤ ((i2 : Nat) : Int) ∧ ((i2 : Nat) : Int) < ((603 : Nat) : Int) from by first | omega | (simp (disch := omega) only [w32_i]; omega)), ?_⟩
  refine (show W2 o_X12 M_X12_tellCampaign (inN [64, 72, 73, 74, 75, 76, 77, 78, 79, 80, 81, 82, 83, 84, 85, 86, 87, 88, 89, 90, 91, 92, 93]) (q + 14) Q 178 [some (mR 69), some (mI ((i1 : Nat) : Int)), some (mI ((i2 : Nat) : Int)), some (mI ((i3 : Nat) : Int)), some (mI ((e : Nat) : Int)), none] [mI (H 69 (Int.toNat ((i2 : Nat) : Int))), mI ((e : Nat) : Int), mR 79] (gs H 73 (Int.toNat ((e : Nat) : Int)) (H 70 (Int.toNat ((i1 : Nat) : Int)))) from ?_)
  refine w2_vc [166, 178, 179, 191, 192] 400 oo_X12 q_X12_tellCampaign ?_
  refine ⟨(show 0 ≤ ((e : Nat) : Int) ∧ ((e : Nat) : Int) < ((16 : Nat) : Int) from by first | omega | (simp (disch := omega) only [w32_i]; omega)), ?_⟩
  refine (show W2 o_X12 M_X12_tellCampaign (inN [64, 72, 73, 74, 75, 76, 77, 78, 79, 80, 81, 82, 83, 84, 85, 86, 87, 88, 89, 90, 91, 92, 93]) (q + 14) Q 179 [some (mR 69), some (mI ((i1 : Nat) : Int)), some (mI ((i2 : Nat) : Int)), some (mI ((i3 : Nat) : Int)), some (mI ((e : Nat) : Int)), none] [] (gs (gs H 73 (Int.toNat ((e : Nat) : Int)) (H 70 (Int.toNat ((i1 : Nat) : Int)))) 74 (Int.toNat ((e : Nat) : Int)) (H 69 (Int.toNat ((i2 : Nat) : Int)))) from ?_)
  refine w2_vc [166, 178, 179, 191, 192] 400 oo_X12 q_X12_tellCampaign ?_
  refine ⟨(show 0 ≤ ((i3 : Nat) : Int) ∧ ((i3 : Nat) : Int) < ((603 : Nat) : Int) from by first | omega | (simp (disch := omega) only [w32_i]; omega)), ?_⟩
  refine (show W2 o_X12 M_X12_tellCampaign (inN [64, 72, 73, 74, 75, 76, 77, 78, 79, 80, 81, 82, 83, 84, 85, 86, 87, 88, 89, 90, 91, 92, 93]) (q + 14) Q 191 [some (mR 69), some (mI ((i1 : Nat) : Int)), some (mI ((i2 : Nat) : Int)), some (mI ((i3 : Nat) : Int)), some (mI ((e : Nat) : Int)), none] [mI (H 69 (Int.toNat ((i3 : Nat) : Int))), mI ((e : Nat) : Int), mR 80] (gs (gs H 73 (Int.toNat ((e : Nat) : Int)) (H 70 (Int.toNat ((i1 : Nat) : Int)))) 74 (Int.toNat ((e : Nat) : Int)) (H 69 (Int.toNat ((i2 : Nat) : Int)))) from ?_)
  refine w2_vc [166, 178, 179, 191, 192] 400 oo_X12 q_X12_tellCampaign ?_
  refine ⟨(show 0 ≤ ((e : Nat) : Int) ∧ ((e : Nat) : Int) < ((16 : Nat) : Int) from by first | omega | (simp (disch := omega) only [w32_i]; omega)), ?_⟩
  refine (show W2 o_X12 M_X12_tellCampaign (inN [64, 72, 73, 74, 75, 76, 77, 78, 79, 80, 81, 82, 83, 84, 85, 86, 87, 88, 89, 90, 91, 92, 93]) (q + 14) Q 192 [some (mR 69), some (mI ((i1 : Nat) : Int)), some (mI ((i2 : Nat) : Int)), some (mI ((i3 : Nat) : Int)), some (mI ((e : Nat) : Int)), none] [] (gs (gs (gs H 73 (Int.toNat ((e : Nat) : Int)) (H 70 (Int.toNat ((i1 : Nat) : Int)))) 74 (Int.toNat ((e : Nat) : Int)) (H 69 (Int.toNat ((i2 : Nat) : Int)))) 75 (Int.toNat ((e : Nat) : Int)) (H 69 (Int.toNat ((i3 : Nat) : Int)))) from ?_)
  refine WP.fg (L' := [some (mR 69), none, some (mI ((i2 : Nat) : Int)), some (mI ((i3 : Nat) : Int)), none, none]) ⟨rfl, rfl, rfl, trivial⟩ ?_
  rw [st_nat, st_nat, st_nat, st_nat]
  exact h
set_option maxHeartbeats 8000000 in
theorem tm_192 {q : Nat} {H : mG} {Q : Option mV → mG → Prop} {i2 i3 : Nat} (hi : i2 ≤ 600 ∧ i3 ≤ 600) (h1 : (H 69 (Int.toNat ((i3 : Nat) : Int)) ≤ H 69 (Int.toNat ((i2 : Nat) : Int)) ∨ 26 < H 69 (Int.toNat ((i3 : Nat) : Int))) → W2 o_X12 M_X12_tellCampaign (inN [64, 72, 73, 74, 75, 76, 77, 78, 79, 80, 81, 82, 83, 84, 85, 86, 87, 88, 89, 90, 91, 92, 93]) (q + 14) Q 224 [some (mR 69), none, none, none, none, none] [] (e_X12_wrong H 5 ((i3 : Nat) : Int))) (h2 : ¬ (H 69 (Int.toNat ((i3 : Nat) : Int)) ≤ H 69 (Int.toNat ((i2 : Nat) : Int)) ∨ 26 < H 69 (Int.toNat ((i3 : Nat) : Int))) → W2 o_X12 M_X12_tellCampaign (inN [64, 72, 73, 74, 75, 76, 77, 78, 79, 80, 81, 82, 83, 84, 85, 86, 87, 88, 89, 90, 91, 92, 93]) (q + 14) Q 224 [some (mR 69), none, none, none, none, none] [] H) : W2 o_X12 M_X12_tellCampaign (inN [64, 72, 73, 74, 75, 76, 77, 78, 79, 80, 81, 82, 83, 84, 85, 86, 87, 88, 89, 90, 91, 92, 93]) (q + 14) Q 192 [some (mR 69), none, some (mI ((i2 : Nat) : Int)), some (mI ((i3 : Nat) : Int)), none, none] [] H := by
  refine w2_vc [224] 400 oo_X12 q_X12_tellCampaign ?_
  refine ⟨(show 0 ≤ ((i3 : Nat) : Int) ∧ ((i3 : Nat) : Int) < ((603 : Nat) : Int) from by first | omega | (simp (disch := omega) only [w32_i]; omega)), ?_⟩
  refine ⟨(show 0 ≤ ((i2 : Nat) : Int) ∧ ((i2 : Nat) : Int) < ((603 : Nat) : Int) from by first | omega | (simp (disch := omega) only [w32_i]; omega)), ?_⟩
  refine ⟨fun (c1 : (H 69 (Int.toNat ((i3 : Nat) : Int))) ≤ (H 69 (Int.toNat ((i2 : Nat) : Int)))) => ?_, fun (c1 : (H 69 (Int.toNat ((i2 : Nat) : Int))) < (H 69 (Int.toNat ((i3 : Nat) : Int)))) => ?_⟩
  · skip
    refine sp_X12_wrong (by first | omega | (simp (disch := decide) only [gs_ne, gs_at_ne, gs_at]; omega)) (insub (by decide)) ?_
    refine (show W2 o_X12 M_X12_tellCampaign (inN [64, 72, 73, 74, 75, 76, 77, 78, 79, 80, 81, 82, 83, 84, 85, 86, 87, 88, 89, 90, 91, 92, 93]) (q + 14) Q 224 [some (mR 69), none, some (mI ((i2 : Nat) : Int)), some (mI ((i3 : Nat) : Int)), none, none] [] (e_X12_wrong H 5 ((i3 : Nat) : Int)) from ?_)
    refine WP.fg (L' := [some (mR 69), none, none, none, none, none]) ⟨rfl, trivial⟩ ?_
    exact h1 (by omega)
  · skip
    refine ⟨(show 0 ≤ ((i3 : Nat) : Int) ∧ ((i3 : Nat) : Int) < ((603 : Nat) : Int) from by first | omega | (simp (disch := omega) only [w32_i]; omega)), ?_⟩
    refine ⟨fun (c3 : (H 69 (Int.toNat ((i3 : Nat) : Int))) ≤ 26) => ?_, fun (c3 : 26 < (H 69 (Int.toNat ((i3 : Nat) : Int)))) => ?_⟩
    · skip
      refine (show W2 o_X12 M_X12_tellCampaign (inN [64, 72, 73, 74, 75, 76, 77, 78, 79, 80, 81, 82, 83, 84, 85, 86, 87, 88, 89, 90, 91, 92, 93]) (q + 14) Q 224 [some (mR 69), none, some (mI ((i2 : Nat) : Int)), some (mI ((i3 : Nat) : Int)), none, none] [] H from ?_)
      refine WP.fg (L' := [some (mR 69), none, none, none, none, none]) ⟨rfl, trivial⟩ ?_
      exact h2 (by omega)
    · skip
      refine sp_X12_wrong (by first | omega | (simp (disch := decide) only [gs_ne, gs_at_ne, gs_at]; omega)) (insub (by decide)) ?_
      refine (show W2 o_X12 M_X12_tellCampaign (inN [64, 72, 73, 74, 75, 76, 77, 78, 79, 80, 81, 82, 83, 84, 85, 86, 87, 88, 89, 90, 91, 92, 93]) (q + 14) Q 224 [some (mR 69), none, some (mI ((i2 : Nat) : Int)), some (mI ((i3 : Nat) : Int)), none, none] [] (e_X12_wrong H 5 ((i3 : Nat) : Int)) from ?_)
      refine WP.fg (L' := [some (mR 69), none, none, none, none, none]) ⟨rfl, trivial⟩ ?_
      exact h1 (by omega)
set_option maxHeartbeats 8000000 in
theorem tm_224 {q : Nat} {H : mG} {Q : Option mV → mG → Prop} (hs : 0 ≤ H 64 19 ∧ H 64 19 ≤ 1) (h : W2 o_X12 M_X12_tellCampaign (inN [64, 72, 73, 74, 75, 76, 77, 78, 79, 80, 81, 82, 83, 84, 85, 86, 87, 88, 89, 90, 91, 92, 93]) (q + 14) Q 237 [some (mR 69), none, none, none, none, none] [] (gs H 72 (Int.toNat (H 64 19)) (w32 ((H 72 (Int.toNat (H 64 19))) + 1)))) : W2 o_X12 M_X12_tellCampaign (inN [64, 72, 73, 74, 75, 76, 77, 78, 79, 80, 81, 82, 83, 84, 85, 86, 87, 88, 89, 90, 91, 92, 93]) (q + 14) Q 224 [some (mR 69), none, none, none, none, none] [] H := by
  refine w2_vc [237] 400 oo_X12 q_X12_tellCampaign ?_
  refine ⟨(show 0 ≤ (H 64 19) ∧ (H 64 19) < ((2 : Nat) : Int) from by first | omega | (simp (disch := omega) only [w32_i]; omega)), ?_⟩
  refine ⟨(show 0 ≤ (H 64 19) ∧ (H 64 19) < ((2 : Nat) : Int) from by first | omega | (simp (disch := omega) only [w32_i]; omega)), ?_⟩
  refine (show W2 o_X12 M_X12_tellCampaign (inN [64, 72, 73, 74, 75, 76, 77, 78, 79, 80, 81, 82, 83, 84, 85, 86, 87, 88, 89, 90, 91, 92, 93]) (q + 14) Q 237 [some (mR 69), none, none, none, none, none] [] (gs H 72 (Int.toNat (H 64 19)) (w32 ((H 72 (Int.toNat (H 64 19))) + 1))) from ?_)
  exact h
set_option maxHeartbeats 8000000 in
theorem tm_237 {q : Nat} {H : mG} {Q : Option mV → mG → Prop} {R : mG → Prop} (hT : 0 ≤ H 64 11 ∧ H 64 11 ≤ 600) (hs : 0 ≤ H 64 19 ∧ H 64 19 ≤ 1) (h1 : ¬ (H 64 13 = 0 ∧ ¬ (H 67 (Int.toNat (H 64 11))) = 23) → W2 o_X12 M_X12_tellCampaign (inN [64, 72, 73, 74, 75, 76, 77, 78, 79, 80, 81, 82, 83, 84, 85, 86, 87, 88, 89, 90, 91, 92, 93]) (q + 14) Q 271 [some (mR 69), none, none, none, none, none] [] H) (hE : (H 64 13 = 0 ∧ ¬ (H 67 (Int.toNat (H 64 11))) = 23) → (∀ Q' : Option mV → mG → Prop, (∀ H', R H' → Q' none H') → P2 (inN [64, 72, 73, 74, 75, 76, 77, 78, 79, 80, 81, 82, 83, 84, 85, 86, 87, 88, 89, 90, 91, 92, 93]) (q + 13) M_X12_tellClause [mR 69, mI (w32 ((H 72 (Int.toNat (H 64 19))) - 1))] H Q')) (h2 : ∀ H2, R H2 → W2 o_X12 M_X12_tellCampaign (inN [64, 72, 73, 74, 75, 76, 77, 78, 79, 80, 81, 82, 83, 84, 85, 86, 87, 88, 89, 90, 91, 92, 93]) (q + 14) Q 237 [some (mR 69), none, none, none, none, none] [] H2) : W2 o_X12 M_X12_tellCampaign (inN [64, 72, 73, 74, 75, 76, 77, 78, 79, 80, 81, 82, 83, 84, 85, 86, 87, 88, 89, 90, 91, 92, 93]) (q + 14) Q 237 [some (mR 69), none, none, none, none, none] [] H := by
  refine w2_vc [237, 268, 271] 400 oo_X12 q_X12_tellCampaign ?_
  refine ⟨fun (c1 : ¬ (H 64 13) = 0) => ?_, fun (c1 : (H 64 13) = 0) => ?_⟩
  · skip
    refine (show W2 o_X12 M_X12_tellCampaign (inN [64, 72, 73, 74, 75, 76, 77, 78, 79, 80, 81, 82, 83, 84, 85, 86, 87, 88, 89, 90, 91, 92, 93]) (q + 14) Q 271 [some (mR 69), none, none, none, none, none] [] H from ?_)
    exact h1 (by omega)
  · skip
    refine sp_X12_is (by first | omega | (simp (disch := decide) only [gs_ne, gs_at_ne, gs_at]; omega)) ?_
    have c3 := fa_X12_is H 23
    refine ⟨fun (c4 : ¬ (f_X12_is H 23) = 0) => ?_, fun (c4 : (f_X12_is H 23) = 0) => ?_⟩
    · skip
      refine (show W2 o_X12 M_X12_tellCampaign (inN [64, 72, 73, 74, 75, 76, 77, 78, 79, 80, 81, 82, 83, 84, 85, 86, 87, 88, 89, 90, 91, 92, 93]) (q + 14) Q 271 [some (mR 69), none, none, none, none, none] [] H from ?_)
      exact h1 (by omega)
    · skip
      refine ⟨(show 0 ≤ (H 64 19) ∧ (H 64 19) < ((2 : Nat) : Int) from by first | omega | (simp (disch := omega) only [w32_i]; omega)), ?_⟩
      refine hE (by omega) _ (fun H' hH' => ?_)
      refine (show W2 o_X12 M_X12_tellCampaign (inN [64, 72, 73, 74, 75, 76, 77, 78, 79, 80, 81, 82, 83, 84, 85, 86, 87, 88, 89, 90, 91, 92, 93]) (q + 14) Q 268 [some (mR 69), none, none, none, none, none] [] H' from ?_)
      refine w2_vc [237, 268, 271] 400 oo_X12 q_X12_tellCampaign ?_
      refine (show W2 o_X12 M_X12_tellCampaign (inN [64, 72, 73, 74, 75, 76, 77, 78, 79, 80, 81, 82, 83, 84, 85, 86, 87, 88, 89, 90, 91, 92, 93]) (q + 14) Q 237 [some (mR 69), none, none, none, none, none] [] H' from ?_)
      exact h2 H' hH'
set_option maxHeartbeats 8000000 in
theorem tm_271 {q : Nat} {H : mG} {Q : Option mV → mG → Prop} (hT : 0 ≤ H 64 11 ∧ H 64 11 ≤ 600) (h : Q none (e_X12_must H 23)) : W2 o_X12 M_X12_tellCampaign (inN [64, 72, 73, 74, 75, 76, 77, 78, 79, 80, 81, 82, 83, 84, 85, 86, 87, 88, 89, 90, 91, 92, 93]) (q + 14) Q 271 [some (mR 69), none, none, none, none, none] [] H := by
  refine w2_vc [] 400 oo_X12 q_X12_tellCampaign ?_
  refine sp_X12_must (by first | omega | (simp (disch := decide) only [gs_ne, gs_at_ne, gs_at]; omega)) (insub (by decide)) ?_
  have c2 := fx_must H 23
  exact h
