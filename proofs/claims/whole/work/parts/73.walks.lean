/-! ===== printed by wip/whole/gen73.py: the reference tells its text, piece by piece ===== -/
theorem fx_next (G : mG) : (0 ≤ G 64 11 ∧ G 64 11 ≤ 600) → (0 ≤ (e_X12_next G) 64 11 ∧ (e_X12_next G) 64 11 ≤ 600) := by
  intro h
  unfold e_X12_next
  by_cases z : G 64 11 = 600
  · rw [if_neg (fun y => y z)]
    unfold e_X12_fail
    refine ite_P (P := fun x : mG => 0 ≤ x 64 11 ∧ x 64 11 ≤ 600) ?_ h
    show 0 ≤ gs (gs G 64 13 2) 64 14 _ 64 11 ∧ gs (gs G 64 13 2) 64 14 _ 64 11 ≤ 600
    rw [gs_at_ne (by decide), gs_at_ne (by decide)]
    exact h
  · rw [if_pos z, gs_at, w32_i (by omega) (by omega)]
    omega
theorem fx_fail (G : mG) (x : Int) : (e_X12_fail G x) 64 11 = G 64 11 ∧ (e_X12_fail G x) 64 12 = G 64 12 ∧ (e_X12_fail G x) 64 19 = G 64 19 ∧ (e_X12_fail G x) 64 39 = G 64 39 ∧ (e_X12_fail G x) 64 43 = G 64 43 ∧ (G 64 13 ≤ 0 → (e_X12_fail G x) 64 13 = x) ∧ (0 < G 64 13 → (e_X12_fail G x) 64 13 = G 64 13) := by
  unfold e_X12_fail
  by_cases z : G 64 13 ≤ 0
  · rw [if_pos z]
    refine ⟨?_, ?_, ?_, ?_, ?_, fun _ => ?_, fun y => absurd z (by omega)⟩
    all_goals first | (rw [gs_at_ne (by decide), gs_at_ne (by decide)]; done) | (rw [gs_at_ne (by decide), gs_at])
  · rw [if_neg z]
    exact ⟨rfl, rfl, rfl, rfl, rfl, fun y => absurd y z, fun _ => rfl⟩
theorem fx_must (G : mG) (x : Int) : (0 ≤ G 64 11 ∧ G 64 11 ≤ 600) → (0 ≤ (e_X12_must G x) 64 11 ∧ (e_X12_must G x) 64 11 ≤ 600) := by
  intro h
  unfold e_X12_must
  refine ite_P (P := fun x : mG => 0 ≤ x 64 11 ∧ x 64 11 ≤ 600) ?_ (fx_next G h)
  rw [(fx_fail G 1).1]
  exact h
theorem fx_emit (G : mG) (x y : Int) : (e_X12_emit G x y) 64 11 = G 64 11 ∧ (e_X12_emit G x y) 64 13 = G 64 13 := by
  unfold e_X12_emit
  refine ⟨?_, ?_⟩
  · rw [gs_at_ne (by decide), gs_ne (by decide), gs_ne (by decide)]
  · rw [gs_at_ne (by decide), gs_ne (by decide), gs_ne (by decide)]
theorem fx_wrong (G : mG) (x y : Int) : (∀ k, k ≠ 64 → (e_X12_wrong G x y) k = G k) ∧ (∀ j, j ≠ 15 → j ≠ 16 → (e_X12_wrong G x y) 64 j = G 64 j) := by
  have key : ∀ v w : Int, (∀ k, k ≠ 64 → (gs (gs G 64 15 v) 64 16 w) k = G k) ∧ (∀ j, j ≠ 15 → j ≠ 16 → (gs (gs G 64 15 v) 64 16 w) 64 j = G 64 j) := fun v w => ⟨fun k hk => by rw [gs_ne hk, gs_ne hk], fun j h1 h2 => by rw [gs_at_ne h2, gs_at_ne h1]⟩
  have k0 : (∀ k, k ≠ 64 → G k = G k) ∧ (∀ j, j ≠ 15 → j ≠ 16 → G 64 j = G 64 j) := ⟨fun _ _ => rfl, fun _ _ _ => rfl⟩
  unfold e_X12_wrong
  generalize G 68 (Int.toNat y) = w
  exact ite_P (P := fun z : mG => (∀ k, k ≠ 64 → z k = G k) ∧ (∀ j, j ≠ 15 → j ≠ 16 → z 64 j = G 64 j)) k0 (ite_P (P := fun z : mG => (∀ k, k ≠ 64 → z k = G k) ∧ (∀ j, j ≠ 15 → j ≠ 16 → z 64 j = G 64 j)) (key x w) (ite_P (P := fun z : mG => (∀ k, k ≠ 64 → z k = G k) ∧ (∀ j, j ≠ 15 → j ≠ 16 → z 64 j = G 64 j)) k0 (ite_P (P := fun z : mG => (∀ k, k ≠ 64 → z k = G k) ∧ (∀ j, j ≠ 15 → j ≠ 16 → z 64 j = G 64 j)) (key x w) (ite_P (P := fun z : mG => (∀ k, k ≠ 64 → z k = G k) ∧ (∀ j, j ≠ 15 → j ≠ 16 → z 64 j = G 64 j)) (key x w) k0))))
set_option maxHeartbeats 8000000 in
theorem co_0 {q : Nat} {H : mG} {Q : Option mV → mG → Prop} {z : Int} (hw : 0 ≤ H 64 43 ∧ H 64 43 ≤ 48) (hc : 0 ≤ H 64 39 ∧ H 64 39 < 1400) (h1 : H 64 43 ≤ 0 → Q none H) (h2 : 0 < H 64 43 → ((H 93 (Int.toNat (w32 ((H 64 43) - 1)))) = 6 ∨ (¬ z = 0 ∧ ¬ (H 93 (Int.toNat (w32 ((H 64 43) - 1)))) = 10)) → Q none H) (h3 : 0 < H 64 43 → ¬ (H 93 (Int.toNat (w32 ((H 64 43) - 1)))) = 6 → (z = 0 ∨ (H 93 (Int.toNat (w32 ((H 64 43) - 1)))) = 10) → ∀ k : Int, k = (if (H 93 (Int.toNat (w32 ((H 64 43) - 1)))) = 8 then 2 else if (H 93 (Int.toNat (w32 ((H 64 43) - 1)))) = 9 then 3 else 4) → W2 o_X12 M_X12_comesOut (inN [64, 72, 73, 74, 75, 76, 77, 78, 79, 80, 81, 82, 83, 84, 85, 86, 87, 88, 89, 90, 91, 92, 93]) (q + 2) Q 0 [some (mR 69), some (mI z), none] [] (e_X12_emit (gs H 64 43 (w32 ((H 64 43) - 1))) k 0)) : W2 o_X12 M_X12_comesOut (inN [64, 72, 73, 74, 75, 76, 77, 78, 79, 80, 81, 82, 83, 84, 85, 86, 87, 88, 89, 90, 91, 92, 93]) (q + 2) Q 0 [some (mR 69), some (mI z), none] [] H := by
  refine w2_vc [0, 53] 400 oo_X12 q_X12_comesOut ?_
  refine ⟨fun (c1 : (H 64 43) ≤ 0) => ?_, fun (c1 : 0 < (H 64 43)) => ?_⟩
  · skip
    exact h1 (by omega)
  · skip
    refine ⟨(show 0 ≤ (w32 ((H 64 43) - 1)) ∧ (w32 ((H 64 43) - 1)) < ((48 : Nat) : Int) from by first | omega | (simp (disch := omega) only [w32_i]; omega)), ?_⟩
    refine ⟨fun (c2 : (H 93 (Int.toNat (w32 ((H 64 43) - 1)))) = 6) => ?_, fun (c2 : ¬ (H 93 (Int.toNat (w32 ((H 64 43) - 1)))) = 6) => ?_⟩
    · skip
      exact h2 (by omega) (by omega)
    · skip
      refine ⟨fun (c3 : z = 0) => ?_, fun (c3 : ¬ z = 0) => ?_⟩
      · skip
        refine (show W2 o_X12 M_X12_comesOut (inN [64, 72, 73, 74, 75, 76, 77, 78, 79, 80, 81, 82, 83, 84, 85, 86, 87, 88, 89, 90, 91, 92, 93]) (q + 2) Q 53 [some (mR 69), some (mI z), none] [] (gs H 64 43 (w32 ((H 64 43) - 1))) from ?_)
        refine w2_vc [0, 53] 400 oo_X12 q_X12_comesOut ?_
        refine ⟨(show 0 ≤ (w32 ((H 64 43) - 1)) ∧ (w32 ((H 64 43) - 1)) < ((48 : Nat) : Int) from by first | omega | (simp (disch := omega) only [w32_i]; omega)), ?_⟩
        refine ⟨fun (c4 : ¬ (H 93 (Int.toNat (w32 ((H 64 43) - 1)))) = 8) => ?_, fun (c4 : (H 93 (Int.toNat (w32 ((H 64 43) - 1)))) = 8) => ?_⟩
        · skip
          refine ⟨fun (c5 : ¬ (H 93 (Int.toNat (w32 ((H 64 43) - 1)))) = 9) => ?_, fun (c5 : (H 93 (Int.toNat (w32 ((H 64 43) - 1)))) = 9) => ?_⟩
          · skip
            refine sp_X12_emit (by first | omega | (simp (disch := decide) only [gs_ne, gs_at_ne, gs_at]; omega)) (insub (by decide)) ?_
            have c7 := fx_emit (gs H 64 43 (w32 ((H 64 43) - 1))) 4 0
            refine (show W2 o_X12 M_X12_comesOut (inN [64, 72, 73, 74, 75, 76, 77, 78, 79, 80, 81, 82, 83, 84, 85, 86, 87, 88, 89, 90, 91, 92, 93]) (q + 2) Q 0 [some (mR 69), some (mI z), some (mI (H 93 (Int.toNat (w32 ((H 64 43) - 1)))))] [] (e_X12_emit (gs H 64 43 (w32 ((H 64 43) - 1))) 4 0) from ?_)
            refine WP.fg (L' := [some (mR 69), some (mI z), none]) ⟨rfl, rfl, trivial⟩ ?_
            exact h3 (by omega) (by omega) (by omega) 4 (by first | (rw [if_pos (by omega)]; done) | (rw [if_neg (by omega), if_pos (by omega)]; done) | (rw [if_neg (by omega), if_neg (by omega)]; done))
          · skip
            refine sp_X12_emit (by first | omega | (simp (disch := decide) only [gs_ne, gs_at_ne, gs_at]; omega)) (insub (by decide)) ?_
            have c9 := fx_emit (gs H 64 43 (w32 ((H 64 43) - 1))) 3 0
            refine (show W2 o_X12 M_X12_comesOut (inN [64, 72, 73, 74, 75, 76, 77, 78, 79, 80, 81, 82, 83, 84, 85, 86, 87, 88, 89, 90, 91, 92, 93]) (q + 2) Q 0 [some (mR 69), some (mI z), some (mI (H 93 (Int.toNat (w32 ((H 64 43) - 1)))))] [] (e_X12_emit (gs H 64 43 (w32 ((H 64 43) - 1))) 3 0) from ?_)
            refine WP.fg (L' := [some (mR 69), some (mI z), none]) ⟨rfl, rfl, trivial⟩ ?_
            exact h3 (by omega) (by omega) (by omega) 3 (by first | (rw [if_pos (by omega)]; done) | (rw [if_neg (by omega), if_pos (by omega)]; done) | (rw [if_neg (by omega), if_neg (by omega)]; done))
        · skip
          refine sp_X12_emit (by first | omega | (simp (disch := decide) only [gs_ne, gs_at_ne, gs_at]; omega)) (insub (by decide)) ?_
          have c11 := fx_emit (gs H 64 43 (w32 ((H 64 43) - 1))) 2 0
          refine (show W2 o_X12 M_X12_comesOut (inN [64, 72, 73, 74, 75, 76, 77, 78, 79, 80, 81, 82, 83, 84, 85, 86, 87, 88, 89, 90, 91, 92, 93]) (q + 2) Q 0 [some (mR 69), some (mI z), some (mI (H 93 (Int.toNat (w32 ((H 64 43) - 1)))))] [] (e_X12_emit (gs H 64 43 (w32 ((H 64 43) - 1))) 2 0) from ?_)
          refine WP.fg (L' := [some (mR 69), some (mI z), none]) ⟨rfl, rfl, trivial⟩ ?_
          exact h3 (by omega) (by omega) (by omega) 2 (by first | (rw [if_pos (by omega)]; done) | (rw [if_neg (by omega), if_pos (by omega)]; done) | (rw [if_neg (by omega), if_neg (by omega)]; done))
      · skip
        refine ⟨(show 0 ≤ (w32 ((H 64 43) - 1)) ∧ (w32 ((H 64 43) - 1)) < ((48 : Nat) : Int) from by first | omega | (simp (disch := omega) only [w32_i]; omega)), ?_⟩
        refine ⟨fun (c12 : ¬ (H 93 (Int.toNat (w32 ((H 64 43) - 1)))) = 10) => ?_, fun (c12 : (H 93 (Int.toNat (w32 ((H 64 43) - 1)))) = 10) => ?_⟩
        · skip
          exact h2 (by omega) (by omega)
        · skip
          refine (show W2 o_X12 M_X12_comesOut (inN [64, 72, 73, 74, 75, 76, 77, 78, 79, 80, 81, 82, 83, 84, 85, 86, 87, 88, 89, 90, 91, 92, 93]) (q + 2) Q 53 [some (mR 69), some (mI z), none] [] (gs H 64 43 (w32 ((H 64 43) - 1))) from ?_)
          refine w2_vc [0, 53] 400 oo_X12 q_X12_comesOut ?_
          refine ⟨(show 0 ≤ (w32 ((H 64 43) - 1)) ∧ (w32 ((H 64 43) - 1)) < ((48 : Nat) : Int) from by first | omega | (simp (disch := omega) only [w32_i]; omega)), ?_⟩
          refine ⟨fun (c13 : ¬ (H 93 (Int.toNat (w32 ((H 64 43) - 1)))) = 8) => ?_, fun (c13 : (H 93 (Int.toNat (w32 ((H 64 43) - 1)))) = 8) => ?_⟩
          · skip
            refine ⟨fun (c14 : ¬ (H 93 (Int.toNat (w32 ((H 64 43) - 1)))) = 9) => ?_, fun (c14 : (H 93 (Int.toNat (w32 ((H 64 43) - 1)))) = 9) => ?_⟩
            · skip
              refine sp_X12_emit (by first | omega | (simp (disch := decide) only [gs_ne, gs_at_ne, gs_at]; omega)) (insub (by decide)) ?_
              have c16 := fx_emit (gs H 64 43 (w32 ((H 64 43) - 1))) 4 0
              refine (show W2 o_X12 M_X12_comesOut (inN [64, 72, 73, 74, 75, 76, 77, 78, 79, 80, 81, 82, 83, 84, 85, 86, 87, 88, 89, 90, 91, 92, 93]) (q + 2) Q 0 [some (mR 69), some (mI z), some (mI (H 93 (Int.toNat (w32 ((H 64 43) - 1)))))] [] (e_X12_emit (gs H 64 43 (w32 ((H 64 43) - 1))) 4 0) from ?_)
              refine WP.fg (L' := [some (mR 69), some (mI z), none]) ⟨rfl, rfl, trivial⟩ ?_
              exact h3 (by omega) (by omega) (by omega) 4 (by first | (rw [if_pos (by omega)]; done) | (rw [if_neg (by omega), if_pos (by omega)]; done) | (rw [if_neg (by omega), if_neg (by omega)]; done))
            · skip
              refine sp_X12_emit (by first | omega | (simp (disch := decide) only [gs_ne, gs_at_ne, gs_at]; omega)) (insub (by decide)) ?_
              have c18 := fx_emit (gs H 64 43 (w32 ((H 64 43) - 1))) 3 0
              refine (show W2 o_X12 M_X12_comesOut (inN [64, 72, 73, 74, 75, 76, 77, 78, 79, 80, 81, 82, 83, 84, 85, 86, 87, 88, 89, 90, 91, 92, 93]) (q + 2) Q 0 [some (mR 69), some (mI z), some (mI (H 93 (Int.toNat (w32 ((H 64 43) - 1)))))] [] (e_X12_emit (gs H 64 43 (w32 ((H 64 43) - 1))) 3 0) from ?_)
              refine WP.fg (L' := [some (mR 69), some (mI z), none]) ⟨rfl, rfl, trivial⟩ ?_
              exact h3 (by omega) (by omega) (by omega) 3 (by first | (rw [if_pos (by omega)]; done) | (rw [if_neg (by omega), if_pos (by omega)]; done) | (rw [if_neg (by omega), if_neg (by omega)]; done))
          · skip
            refine sp_X12_emit (by first | omega | (simp (disch := decide) only [gs_ne, gs_at_ne, gs_at]; omega)) (insub (by decide)) ?_
            have c20 := fx_emit (gs H 64 43 (w32 ((H 64 43) - 1))) 2 0
            refine (show W2 o_X12 M_X12_comesOut (inN [64, 72, 73, 74, 75, 76, 77, 78, 79, 80, 81, 82, 83, 84, 85, 86, 87, 88, 89, 90, 91, 92, 93]) (q + 2) Q 0 [some (mR 69), some (mI z), some (mI (H 93 (Int.toNat (w32 ((H 64 43) - 1)))))] [] (e_X12_emit (gs H 64 43 (w32 ((H 64 43) - 1))) 2 0) from ?_)
            refine WP.fg (L' := [some (mR 69), some (mI z), none]) ⟨rfl, rfl, trivial⟩ ?_
            exact h3 (by omega) (by omega) (by omega) 2 (by first | (rw [if_pos (by omega)]; done) | (rw [if_neg (by omega), if_pos (by omega)]; done) | (rw [if_neg (by omega), if_neg (by omega)]; done))
/-- the sign that a waiting one becomes -/
def rk2 (w : Int) : Int := if w = 8 then 2 else if w = 9 then 3 else 4
/-- comesOut, with j waiting -/
def cO (z : Int) : Nat → mG → mG
  | 0, H => H
  | j + 1, H => if H 93 j = 6 ∨ (¬ z = 0 ∧ ¬ H 93 j = 10) then H else cO z j (e_X12_emit (gs H 64 43 ((j : Nat) : Int)) (rk2 (H 93 j)) 0)
theorem co_loop {q : Nat} {Q : Option mV → mG → Prop} {z : Int} : ∀ (j : Nat) (H : mG), H 64 43 = (j : Int) → j ≤ 48 → 0 ≤ H 64 39 → H 64 39 + (j : Int) < 1400 → Q none (cO z j H) → W2 o_X12 M_X12_comesOut (inN [64, 72, 73, 74, 75, 76, 77, 78, 79, 80, 81, 82, 83, 84, 85, 86, 87, 88, 89, 90, 91, 92, 93]) (q + 2) Q 0 [some (mR 69), some (mI z), none] [] H := by
  intro j
  induction j with
  | zero =>
    intro H h43 _ h0 h1 hQ
    exact co_0 (by omega) (by omega) (fun _ => hQ) (fun y _ => absurd y (by omega)) (fun y _ _ => absurd y (by omega))
  | succ j ih =>
    intro H h43 hj h0 h1 hQ
    have e : w32 ((H 64 43) - 1) = ((j : Nat) : Int) := by rw [h43, w32_i (by omega) (by omega)]; omega
    have hQ2 : Q none (if H 93 j = 6 ∨ (¬ z = 0 ∧ ¬ H 93 j = 10) then H else cO z j (e_X12_emit (gs H 64 43 ((j : Nat) : Int)) (rk2 (H 93 j)) 0)) := hQ
    refine co_0 (by omega) (by omega) (fun y => absurd y (by omega)) (fun _ y => ?_) (fun _ y1 y2 k hk => ?_)
    · rw [e, st_nat] at y
      rw [if_pos y] at hQ2
      exact hQ2
    · rw [e, st_nat] at y1 y2 hk
      rw [if_neg (fun y => y.elim y1 (fun y => y2.elim y.1 y.2))] at hQ2
      have hk' : k = rk2 (H 93 j) := hk
      rw [e, hk']
      have f1 : (e_X12_emit (gs H 64 43 ((j : Nat) : Int)) (rk2 (H 93 j)) 0) 64 43 = (j : Int) := by
        unfold e_X12_emit
        rw [gs_at_ne (by decide), gs_ne (by decide), gs_ne (by decide), gs_at]
      have f2 : (e_X12_emit (gs H 64 43 ((j : Nat) : Int)) (rk2 (H 93 j)) 0) 64 39 = H 64 39 + 1 := by
        unfold e_X12_emit
        rw [gs_at, gs_at_ne (by decide), w32_i (by omega) (by omega)]
      exact ih _ f1 (by omega) (by omega) (by omega) hQ2
theorem sp_X12_comesOut {D : Nat → Bool} {q m : Nat} {H : mG} {z : Int} {Q : Option mV → mG → Prop} (hD : ∀ k, D k = false → inN [64, 72, 73, 74, 75, 76, 77, 78, 79, 80, 81, 82, 83, 84, 85, 86, 87, 88, 89, 90, 91, 92, 93] k = false) (hm : H 64 43 = (m : Int)) (h48 : m ≤ 48) (h0 : 0 ≤ H 64 39) (h1 : H 64 39 + (m : Int) < 1400) (h : Q none (cO z m H)) : P2 D (q + 2) M_X12_comesOut [mR 69, mI z] H Q := by
  refine MP.to (D2 := inN [64, 72, 73, 74, 75, 76, 77, 78, 79, 80, 81, 82, 83, 84, 85, 86, 87, 88, 89, 90, 91, 92, 93]) (Q2 := Q) ?_ hD (fun v G' q _ => q)
  exact mp_of_wp (o := o_X12) (by decide) rfl (Nat.le_of_ble_eq_true rfl) (co_loop m H hm h48 h0 h1 h)
theorem cO_fr {z : Int} : ∀ (j : Nat) (H : mG), (∀ k, k ≠ 64 → k ≠ 91 → k ≠ 92 → (cO z j H) k = H k) ∧ (∀ i, i ≠ 39 → i ≠ 43 → (cO z j H) 64 i = H 64 i) := by
  intro j
  induction j with
  | zero => exact fun H => ⟨fun _ _ _ _ => rfl, fun _ _ _ => rfl⟩
  | succ j ih =>
    intro H
    have e : cO z (j + 1) H = if H 93 j = 6 ∨ (¬ z = 0 ∧ ¬ H 93 j = 10) then H else cO z j (e_X12_emit (gs H 64 43 ((j : Nat) : Int)) (rk2 (H 93 j)) 0) := rfl
    rw [e]
    by_cases y : H 93 j = 6 ∨ (¬ z = 0 ∧ ¬ H 93 j = 10)
    · rw [if_pos y]; exact ⟨fun _ _ _ _ => rfl, fun _ _ _ => rfl⟩
    · rw [if_neg y]
      obtain ⟨i1, i2⟩ := ih (e_X12_emit (gs H 64 43 ((j : Nat) : Int)) (rk2 (H 93 j)) 0)
      refine ⟨fun k h1 h2 h3 => ?_, fun i h1 h2 => ?_⟩
      · rw [i1 k h1 h2 h3]; unfold e_X12_emit; rw [gs_ne h1, gs_ne h3, gs_ne h2, gs_ne h1]
      · rw [i2 i h1 h2]; unfold e_X12_emit; rw [gs_at_ne h1, gs_ne (by decide), gs_ne (by decide), gs_at_ne h2]
set_option maxHeartbeats 8000000 in
theorem ex_0 {D : Nat → Bool} {q : Nat} {H : mG} {Q : Option mV → mG → Prop} (hD : ∀ k, D k = false → inN [64, 72, 73, 74, 75, 76, 77, 78, 79, 80, 81, 82, 83, 84, 85, 86, 87, 88, 89, 90, 91, 92, 93] k = false) (h : W2 o_X12 M_X12_expression (inN [64, 72, 73, 74, 75, 76, 77, 78, 79, 80, 81, 82, 83, 84, 85, 86, 87, 88, 89, 90, 91, 92, 93]) (q + 5) Q 12 [some (mR 69), some (mI (H 64 12)), some (mI 1), none, none] [] (gs H 64 43 0)) : P2 D (q + 5) M_X12_expression [mR 69] H Q := by
  refine MP.to (D2 := inN [64, 72, 73, 74, 75, 76, 77, 78, 79, 80, 81, 82, 83, 84, 85, 86, 87, 88, 89, 90, 91, 92, 93]) (Q2 := Q) ?_ hD (fun v G' q _ => q)
  refine p2_vc [5, 12] 400 oo_X12 q_X12_expression (by decide) rfl (Nat.le_of_ble_eq_true rfl) ?_
  refine (show W2 o_X12 M_X12_expression (inN [64, 72, 73, 74, 75, 76, 77, 78, 79, 80, 81, 82, 83, 84, 85, 86, 87, 88, 89, 90, 91, 92, 93]) (q + 5) Q 5 [some (mR 69), none, none, none, none] [] (gs H 64 43 0) from ?_)
  refine w2_vc [5, 12] 400 oo_X12 q_X12_expression ?_
  refine (show W2 o_X12 M_X12_expression (inN [64, 72, 73, 74, 75, 76, 77, 78, 79, 80, 81, 82, 83, 84, 85, 86, 87, 88, 89, 90, 91, 92, 93]) (q + 5) Q 12 [some (mR 69), some (mI (H 64 12)), some (mI 1), none, none] [] (gs H 64 43 0) from ?_)
  exact h
set_option maxHeartbeats 8000000 in
theorem ex_12b {q : Nat} {H : mG} {Q : Option mV → mG → Prop} {B : Int} (hf : ¬ H 64 13 = 0) (h : Q none H) : W2 o_X12 M_X12_expression (inN [64, 72, 73, 74, 75, 76, 77, 78, 79, 80, 81, 82, 83, 84, 85, 86, 87, 88, 89, 90, 91, 92, 93]) (q + 5) Q 12 [some (mR 69), some (mI B), some (mI 1), none, none] [] H := by
  refine w2_vc [23] 400 oo_X12 q_X12_expression ?_
  refine ⟨fun (c : (1 : Int) = 0) => absurd c (by decide), fun _ => ?_⟩
  refine ⟨fun (c1 : ¬ (H 64 13) = 0) => ?_, fun (c1 : (H 64 13) = 0) => ?_⟩
  · skip
    exact h
  · skip
    refine (show W2 o_X12 M_X12_expression (inN [64, 72, 73, 74, 75, 76, 77, 78, 79, 80, 81, 82, 83, 84, 85, 86, 87, 88, 89, 90, 91, 92, 93]) (q + 5) Q 23 [some (mR 69), some (mI B), some (mI 1), none, none] [] H from ?_)
    exfalso; omega
theorem nx_43 (G : mG) : (e_X12_next G) 64 43 = G 64 43 := by
  unfold e_X12_next
  by_cases z : G 64 11 = 600
  · rw [if_neg (fun y => y z), (fx_fail G 2).2.2.2.2.1]
  · rw [if_pos z, gs_at_ne (by decide)]
set_option maxHeartbeats 8000000 in
theorem ex_12 {q : Nat} {H : mG} {Q : Option mV → mG → Prop} {B : Int} (hf : H 64 13 = 0) (hT : 0 ≤ H 64 11 ∧ H 64 11 ≤ 600) (hw : 0 ≤ H 64 43 ∧ H 64 43 ≤ 46) (hc : 0 ≤ H 64 39 ∧ H 64 39 < 1400) (ho : 0 ≤ H 64 12 ∧ H 64 12 ≤ 6) (h1 : (H 67 (Int.toNat (H 64 11))) = 6 → H 64 12 = 6 → Q none (e_X12_fail H 2)) (h2 : (H 67 (Int.toNat (H 64 11))) = 6 → ¬ H 64 12 = 6 → W2 o_X12 M_X12_expression (inN [64, 72, 73, 74, 75, 76, 77, 78, 79, 80, 81, 82, 83, 84, 85, 86, 87, 88, 89, 90, 91, 92, 93]) (q + 5) Q 12 [some (mR 69), some (mI B), some (mI 1), none, none] [] (gs (gs (e_X12_next (gs H 64 12 (w32 ((H 64 12) + 1)))) 93 (Int.toNat ((e_X12_next (gs H 64 12 (w32 ((H 64 12) + 1)))) 64 43)) 6) 64 43 (w32 (((e_X12_next (gs H 64 12 (w32 ((H 64 12) + 1)))) 64 43) + 1)))) (h3 : ¬ (H 67 (Int.toNat (H 64 11))) = 6 → ¬ (H 67 (Int.toNat (H 64 11))) = 2 → ¬ (34 ≤ (H 67 (Int.toNat (H 64 11))) ∧ (H 67 (Int.toNat (H 64 11))) ≤ 39) → Q none (e_X12_fail H 1)) (h4 : 34 ≤ (H 67 (Int.toNat (H 64 11))) ∧ (H 67 (Int.toNat (H 64 11))) ≤ 39 → W2 o_X12 M_X12_expression (inN [64, 72, 73, 74, 75, 76, 77, 78, 79, 80, 81, 82, 83, 84, 85, 86, 87, 88, 89, 90, 91, 92, 93]) (q + 5) Q 200 [some (mR 69), some (mI B), none, none, none] [] (e_X12_next (e_X12_emit H 1 (w32 ((H 67 (Int.toNat (H 64 11))) - 34))))) (h5 : (H 67 (Int.toNat (H 64 11))) = 2 → W2 o_X12 M_X12_expression (inN [64, 72, 73, 74, 75, 76, 77, 78, 79, 80, 81, 82, 83, 84, 85, 86, 87, 88, 89, 90, 91, 92, 93]) (q + 5) Q 200 [some (mR 69), some (mI B), none, none, none] [] (e_X12_next (e_X12_emit H 0 (H 69 (Int.toNat (H 64 11)))))) : W2 o_X12 M_X12_expression (inN [64, 72, 73, 74, 75, 76, 77, 78, 79, 80, 81, 82, 83, 84, 85, 86, 87, 88, 89, 90, 91, 92, 93]) (q + 5) Q 12 [some (mR 69), some (mI B), some (mI 1), none, none] [] H := by
  refine w2_vc [12, 64, 68, 79, 89, 200] 400 oo_X12 q_X12_expression ?_
  refine ⟨fun (c : (1 : Int) = 0) => absurd c (by decide), fun _ => ?_⟩
  refine ⟨fun (c1 : ¬ (H 64 13) = 0) => ?_, fun (c1 : (H 64 13) = 0) => ?_⟩
  · skip
    exfalso; omega
  · skip
    refine sp_X12_is (by first | omega | (simp (disch := decide) only [gs_ne, gs_at_ne, gs_at]; omega)) ?_
    have c3 := fa_X12_is H 6
    refine ⟨fun (c4 : (f_X12_is H 6) = 0) => ?_, fun (c4 : ¬ (f_X12_is H 6) = 0) => ?_⟩
    · skip
      refine ⟨fun (c5 : ¬ (H 64 13) = 0) => ?_, fun (c5 : (H 64 13) = 0) => ?_⟩
      · skip
        refine sp_X12_is (by first | omega | (simp (disch := decide) only [gs_ne, gs_at_ne, gs_at]; omega)) ?_
        have c7 := fa_X12_is H 2
        refine ⟨fun (c8 : ¬ (f_X12_is H 2) = 0) => ?_, fun (c8 : (f_X12_is H 2) = 0) => ?_⟩
        · skip
          refine ⟨fun (c9 : (H 64 13) ≤ 0) => ?_, fun (c9 : 0 < (H 64 13)) => ?_⟩
          · skip
            refine ⟨fun _ => ?_, fun (c : ¬ (0 : Int) = 0) => absurd c (by decide)⟩
            refine ⟨(show 0 ≤ (H 64 11) ∧ (H 64 11) < ((603 : Nat) : Int) from by first | omega | (simp (disch := omega) only [w32_i]; omega)), ?_⟩
            refine sp_X12_emit (by first | omega | (simp (disch := decide) only [gs_ne, gs_at_ne, gs_at]; omega)) (insub (by decide)) ?_
            have c11 := fx_emit H 0 (H 69 (Int.toNat (H 64 11)))
            have y0 := nx_43 (e_X12_emit H 0 (H 69 (Int.toNat (H 64 11))))
            refine sp_X12_next (by first | omega | (simp (disch := decide) only [gs_ne, gs_at_ne, gs_at]; omega)) (insub (by decide)) ?_
            have c12 := fx_next (e_X12_emit H 0 (H 69 (Int.toNat (H 64 11))))
            refine (show W2 o_X12 M_X12_expression (inN [64, 72, 73, 74, 75, 76, 77, 78, 79, 80, 81, 82, 83, 84, 85, 86, 87, 88, 89, 90, 91, 92, 93]) (q + 5) Q 200 [some (mR 69), some (mI B), some (mI 1), some (mI 0), none] [] (e_X12_next (e_X12_emit H 0 (H 69 (Int.toNat (H 64 11))))) from ?_)
            refine WP.fg (L' := [some (mR 69), some (mI B), none, none, none]) ⟨rfl, rfl, trivial⟩ ?_
            exact h5 (by omega)
          · skip
            exfalso; omega
        · skip
          refine ⟨fun (c : ¬ (0 : Int) = 0) => absurd c (by decide), fun _ => ?_⟩
          refine sp_X12_fail (by first | omega | (simp (disch := decide) only [gs_ne, gs_at_ne, gs_at]; omega)) (insub (by decide)) ?_
          have c14 := fx_fail H 1
          refine ⟨fun (c15 : ((e_X12_fail H 1) 64 13) ≤ 0) => ?_, fun (c15 : 0 < ((e_X12_fail H 1) 64 13)) => ?_⟩
          · skip
            refine ⟨fun _ => ?_, fun (c : ¬ (0 : Int) = 0) => absurd c (by decide)⟩
            refine ⟨(show 0 ≤ ((e_X12_fail H 1) 64 11) ∧ ((e_X12_fail H 1) 64 11) < ((603 : Nat) : Int) from by first | omega | (simp (disch := omega) only [w32_i]; omega)), ?_⟩
            refine sp_X12_emit (by first | omega | (simp (disch := decide) only [gs_ne, gs_at_ne, gs_at]; omega)) (insub (by decide)) ?_
            have c17 := fx_emit (e_X12_fail H 1) 0 ((e_X12_fail H 1) 69 (Int.toNat ((e_X12_fail H 1) 64 11)))
            have y0 := nx_43 (e_X12_emit (e_X12_fail H 1) 0 ((e_X12_fail H 1) 69 (Int.toNat ((e_X12_fail H 1) 64 11))))
            refine sp_X12_next (by first | omega | (simp (disch := decide) only [gs_ne, gs_at_ne, gs_at]; omega)) (insub (by decide)) ?_
            have c18 := fx_next (e_X12_emit (e_X12_fail H 1) 0 ((e_X12_fail H 1) 69 (Int.toNat ((e_X12_fail H 1) 64 11))))
            refine (show W2 o_X12 M_X12_expression (inN [64, 72, 73, 74, 75, 76, 77, 78, 79, 80, 81, 82, 83, 84, 85, 86, 87, 88, 89, 90, 91, 92, 93]) (q + 5) Q 200 [some (mR 69), some (mI B), some (mI 1), some (mI 0), none] [] (e_X12_next (e_X12_emit (e_X12_fail H 1) 0 ((e_X12_fail H 1) 69 (Int.toNat ((e_X12_fail H 1) 64 11))))) from ?_)
            exfalso; omega
          · skip
            exact h3 (by omega) (by omega) (by omega)
      · skip
        refine ⟨(show 0 ≤ (H 64 11) ∧ (H 64 11) < ((603 : Nat) : Int) from by first | omega | (simp (disch := omega) only [w32_i]; omega)), ?_⟩
        refine ⟨fun (c19 : (H 67 (Int.toNat (H 64 11))) < 34) => ?_, fun (c19 : 34 ≤ (H 67 (Int.toNat (H 64 11)))) => ?_⟩
        · skip
          refine sp_X12_is (by first | omega | (simp (disch := decide) only [gs_ne, gs_at_ne, gs_at]; omega)) ?_
          have c21 := fa_X12_is H 2
          refine ⟨fun (c22 : ¬ (f_X12_is H 2) = 0) => ?_, fun (c22 : (f_X12_is H 2) = 0) => ?_⟩
          · skip
            refine ⟨fun (c23 : (H 64 13) ≤ 0) => ?_, fun (c23 : 0 < (H 64 13)) => ?_⟩
            · skip
              refine ⟨fun _ => ?_, fun (c : ¬ (0 : Int) = 0) => absurd c (by decide)⟩
              refine ⟨(show 0 ≤ (H 64 11) ∧ (H 64 11) < ((603 : Nat) : Int) from by first | omega | (simp (disch := omega) only [w32_i]; omega)), ?_⟩
              refine sp_X12_emit (by first | omega | (simp (disch := decide) only [gs_ne, gs_at_ne, gs_at]; omega)) (insub (by decide)) ?_
              have c25 := fx_emit H 0 (H 69 (Int.toNat (H 64 11)))
              have y0 := nx_43 (e_X12_emit H 0 (H 69 (Int.toNat (H 64 11))))
              refine sp_X12_next (by first | omega | (simp (disch := decide) only [gs_ne, gs_at_ne, gs_at]; omega)) (insub (by decide)) ?_
              have c26 := fx_next (e_X12_emit H 0 (H 69 (Int.toNat (H 64 11))))
              refine (show W2 o_X12 M_X12_expression (inN [64, 72, 73, 74, 75, 76, 77, 78, 79, 80, 81, 82, 83, 84, 85, 86, 87, 88, 89, 90, 91, 92, 93]) (q + 5) Q 200 [some (mR 69), some (mI B), some (mI 1), some (mI 0), none] [] (e_X12_next (e_X12_emit H 0 (H 69 (Int.toNat (H 64 11))))) from ?_)
              refine WP.fg (L' := [some (mR 69), some (mI B), none, none, none]) ⟨rfl, rfl, trivial⟩ ?_
              exact h5 (by omega)
            · skip
              exfalso; omega
          · skip
            refine ⟨fun (c : ¬ (0 : Int) = 0) => absurd c (by decide), fun _ => ?_⟩
            refine sp_X12_fail (by first | omega | (simp (disch := decide) only [gs_ne, gs_at_ne, gs_at]; omega)) (insub (by decide)) ?_
            have c28 := fx_fail H 1
            refine ⟨fun (c29 : ((e_X12_fail H 1) 64 13) ≤ 0) => ?_, fun (c29 : 0 < ((e_X12_fail H 1) 64 13)) => ?_⟩
            · skip
              refine ⟨fun _ => ?_, fun (c : ¬ (0 : Int) = 0) => absurd c (by decide)⟩
              refine ⟨(show 0 ≤ ((e_X12_fail H 1) 64 11) ∧ ((e_X12_fail H 1) 64 11) < ((603 : Nat) : Int) from by first | omega | (simp (disch := omega) only [w32_i]; omega)), ?_⟩
              refine sp_X12_emit (by first | omega | (simp (disch := decide) only [gs_ne, gs_at_ne, gs_at]; omega)) (insub (by decide)) ?_
              have c31 := fx_emit (e_X12_fail H 1) 0 ((e_X12_fail H 1) 69 (Int.toNat ((e_X12_fail H 1) 64 11)))
              have y0 := nx_43 (e_X12_emit (e_X12_fail H 1) 0 ((e_X12_fail H 1) 69 (Int.toNat ((e_X12_fail H 1) 64 11))))
              refine sp_X12_next (by first | omega | (simp (disch := decide) only [gs_ne, gs_at_ne, gs_at]; omega)) (insub (by decide)) ?_
              have c32 := fx_next (e_X12_emit (e_X12_fail H 1) 0 ((e_X12_fail H 1) 69 (Int.toNat ((e_X12_fail H 1) 64 11))))
              refine (show W2 o_X12 M_X12_expression (inN [64, 72, 73, 74, 75, 76, 77, 78, 79, 80, 81, 82, 83, 84, 85, 86, 87, 88, 89, 90, 91, 92, 93]) (q + 5) Q 200 [some (mR 69), some (mI B), some (mI 1), some (mI 0), none] [] (e_X12_next (e_X12_emit (e_X12_fail H 1) 0 ((e_X12_fail H 1) 69 (Int.toNat ((e_X12_fail H 1) 64 11))))) from ?_)
              exfalso; omega
            · skip
              exact h3 (by omega) (by omega) (by omega)
        · skip
          refine ⟨(show 0 ≤ (H 64 11) ∧ (H 64 11) < ((603 : Nat) : Int) from by first | omega | (simp (disch := omega) only [w32_i]; omega)), ?_⟩
          refine ⟨fun (c33 : 39 < (H 67 (Int.toNat (H 64 11)))) => ?_, fun (c33 : (H 67 (Int.toNat (H 64 11))) ≤ 39) => ?_⟩
          · skip
            refine sp_X12_is (by first | omega | (simp (disch := decide) only [gs_ne, gs_at_ne, gs_at]; omega)) ?_
            have c35 := fa_X12_is H 2
            refine ⟨fun (c36 : ¬ (f_X12_is H 2) = 0) => ?_, fun (c36 : (f_X12_is H 2) = 0) => ?_⟩
            · skip
              refine ⟨fun (c37 : (H 64 13) ≤ 0) => ?_, fun (c37 : 0 < (H 64 13)) => ?_⟩
              · skip
                refine ⟨fun _ => ?_, fun (c : ¬ (0 : Int) = 0) => absurd c (by decide)⟩
                refine ⟨(show 0 ≤ (H 64 11) ∧ (H 64 11) < ((603 : Nat) : Int) from by first | omega | (simp (disch := omega) only [w32_i]; omega)), ?_⟩
                refine sp_X12_emit (by first | omega | (simp (disch := decide) only [gs_ne, gs_at_ne, gs_at]; omega)) (insub (by decide)) ?_
                have c39 := fx_emit H 0 (H 69 (Int.toNat (H 64 11)))
                have y0 := nx_43 (e_X12_emit H 0 (H 69 (Int.toNat (H 64 11))))
                refine sp_X12_next (by first | omega | (simp (disch := decide) only [gs_ne, gs_at_ne, gs_at]; omega)) (insub (by decide)) ?_
                have c40 := fx_next (e_X12_emit H 0 (H 69 (Int.toNat (H 64 11))))
                refine (show W2 o_X12 M_X12_expression (inN [64, 72, 73, 74, 75, 76, 77, 78, 79, 80, 81, 82, 83, 84, 85, 86, 87, 88, 89, 90, 91, 92, 93]) (q + 5) Q 200 [some (mR 69), some (mI B), some (mI 1), some (mI 0), none] [] (e_X12_next (e_X12_emit H 0 (H 69 (Int.toNat (H 64 11))))) from ?_)
                refine WP.fg (L' := [some (mR 69), some (mI B), none, none, none]) ⟨rfl, rfl, trivial⟩ ?_
                exact h5 (by omega)
              · skip
                exfalso; omega
            · skip
              refine ⟨fun (c : ¬ (0 : Int) = 0) => absurd c (by decide), fun _ => ?_⟩
              refine sp_X12_fail (by first | omega | (simp (disch := decide) only [gs_ne, gs_at_ne, gs_at]; omega)) (insub (by decide)) ?_
              have c42 := fx_fail H 1
              refine ⟨fun (c43 : ((e_X12_fail H 1) 64 13) ≤ 0) => ?_, fun (c43 : 0 < ((e_X12_fail H 1) 64 13)) => ?_⟩
              · skip
                refine ⟨fun _ => ?_, fun (c : ¬ (0 : Int) = 0) => absurd c (by decide)⟩
                refine ⟨(show 0 ≤ ((e_X12_fail H 1) 64 11) ∧ ((e_X12_fail H 1) 64 11) < ((603 : Nat) : Int) from by first | omega | (simp (disch := omega) only [w32_i]; omega)), ?_⟩
                refine sp_X12_emit (by first | omega | (simp (disch := decide) only [gs_ne, gs_at_ne, gs_at]; omega)) (insub (by decide)) ?_
                have c45 := fx_emit (e_X12_fail H 1) 0 ((e_X12_fail H 1) 69 (Int.toNat ((e_X12_fail H 1) 64 11)))
                have y0 := nx_43 (e_X12_emit (e_X12_fail H 1) 0 ((e_X12_fail H 1) 69 (Int.toNat ((e_X12_fail H 1) 64 11))))
                refine sp_X12_next (by first | omega | (simp (disch := decide) only [gs_ne, gs_at_ne, gs_at]; omega)) (insub (by decide)) ?_
                have c46 := fx_next (e_X12_emit (e_X12_fail H 1) 0 ((e_X12_fail H 1) 69 (Int.toNat ((e_X12_fail H 1) 64 11))))
                refine (show W2 o_X12 M_X12_expression (inN [64, 72, 73, 74, 75, 76, 77, 78, 79, 80, 81, 82, 83, 84, 85, 86, 87, 88, 89, 90, 91, 92, 93]) (q + 5) Q 200 [some (mR 69), some (mI B), some (mI 1), some (mI 0), none] [] (e_X12_next (e_X12_emit (e_X12_fail H 1) 0 ((e_X12_fail H 1) 69 (Int.toNat ((e_X12_fail H 1) 64 11))))) from ?_)
                exfalso; omega
              · skip
                exact h3 (by omega) (by omega) (by omega)
          · skip
            refine sp_X12_is (by first | omega | (simp (disch := decide) only [gs_ne, gs_at_ne, gs_at]; omega)) ?_
            have c48 := fa_X12_is H 2
            refine ⟨fun (c49 : ¬ (f_X12_is H 2) = 0) => ?_, fun (c49 : (f_X12_is H 2) = 0) => ?_⟩
            · skip
              refine ⟨fun (c50 : (H 64 13) ≤ 0) => ?_, fun (c50 : 0 < (H 64 13)) => ?_⟩
              · skip
                refine ⟨fun (c : (1 : Int) = 0) => absurd c (by decide), fun _ => ?_⟩
                refine ⟨(show 0 ≤ (H 64 11) ∧ (H 64 11) < ((603 : Nat) : Int) from by first | omega | (simp (disch := omega) only [w32_i]; omega)), ?_⟩
                refine sp_X12_emit (by first | omega | (simp (disch := decide) only [gs_ne, gs_at_ne, gs_at]; omega)) (insub (by decide)) ?_
                have c52 := fx_emit H 1 (w32 ((H 67 (Int.toNat (H 64 11))) - 34))
                have y0 := nx_43 (e_X12_emit H 1 (w32 ((H 67 (Int.toNat (H 64 11))) - 34)))
                refine sp_X12_next (by first | omega | (simp (disch := decide) only [gs_ne, gs_at_ne, gs_at]; omega)) (insub (by decide)) ?_
                have c53 := fx_next (e_X12_emit H 1 (w32 ((H 67 (Int.toNat (H 64 11))) - 34)))
                refine (show W2 o_X12 M_X12_expression (inN [64, 72, 73, 74, 75, 76, 77, 78, 79, 80, 81, 82, 83, 84, 85, 86, 87, 88, 89, 90, 91, 92, 93]) (q + 5) Q 200 [some (mR 69), some (mI B), some (mI 1), some (mI 1), none] [] (e_X12_next (e_X12_emit H 1 (w32 ((H 67 (Int.toNat (H 64 11))) - 34)))) from ?_)
                refine WP.fg (L' := [some (mR 69), some (mI B), none, none, none]) ⟨rfl, rfl, trivial⟩ ?_
                exact h4 (by omega)
              · skip
                exfalso; omega
            · skip
              refine ⟨fun _ => ?_, fun (c : (1 : Int) = 0) => absurd c (by decide)⟩
              refine ⟨fun (c54 : (H 64 13) ≤ 0) => ?_, fun (c54 : 0 < (H 64 13)) => ?_⟩
              · skip
                refine ⟨fun (c : (1 : Int) = 0) => absurd c (by decide), fun _ => ?_⟩
                refine ⟨(show 0 ≤ (H 64 11) ∧ (H 64 11) < ((603 : Nat) : Int) from by first | omega | (simp (disch := omega) only [w32_i]; omega)), ?_⟩
                refine sp_X12_emit (by first | omega | (simp (disch := decide) only [gs_ne, gs_at_ne, gs_at]; omega)) (insub (by decide)) ?_
                have c56 := fx_emit H 1 (w32 ((H 67 (Int.toNat (H 64 11))) - 34))
                have y0 := nx_43 (e_X12_emit H 1 (w32 ((H 67 (Int.toNat (H 64 11))) - 34)))
                refine sp_X12_next (by first | omega | (simp (disch := decide) only [gs_ne, gs_at_ne, gs_at]; omega)) (insub (by decide)) ?_
                have c57 := fx_next (e_X12_emit H 1 (w32 ((H 67 (Int.toNat (H 64 11))) - 34)))
                refine (show W2 o_X12 M_X12_expression (inN [64, 72, 73, 74, 75, 76, 77, 78, 79, 80, 81, 82, 83, 84, 85, 86, 87, 88, 89, 90, 91, 92, 93]) (q + 5) Q 200 [some (mR 69), some (mI B), some (mI 1), some (mI 1), none] [] (e_X12_next (e_X12_emit H 1 (w32 ((H 67 (Int.toNat (H 64 11))) - 34)))) from ?_)
                refine WP.fg (L' := [some (mR 69), some (mI B), none, none, none]) ⟨rfl, rfl, trivial⟩ ?_
                exact h4 (by omega)
              · skip
                exfalso; omega
    · skip
      refine ⟨fun (c58 : ¬ (H 64 12) = 6) => ?_, fun (c58 : (H 64 12) = 6) => ?_⟩
      · skip
        refine ⟨fun (c59 : (H 64 13) ≤ 0) => ?_, fun (c59 : 0 < (H 64 13)) => ?_⟩
        · skip
          refine (show W2 o_X12 M_X12_expression (inN [64, 72, 73, 74, 75, 76, 77, 78, 79, 80, 81, 82, 83, 84, 85, 86, 87, 88, 89, 90, 91, 92, 93]) (q + 5) Q 64 [some (mR 69), some (mI B), some (mI 1), none, none] [] (gs H 64 12 (w32 ((H 64 12) + 1))) from ?_)
          refine w2_vc [12, 64, 68, 79, 89, 200] 400 oo_X12 q_X12_expression ?_
          have y0 := nx_43 (gs H 64 12 (w32 ((H 64 12) + 1)))
          refine sp_X12_next (by first | omega | (simp (disch := decide) only [gs_ne, gs_at_ne, gs_at]; omega)) (insub (by decide)) ?_
          have c60 := fx_next (gs H 64 12 (w32 ((H 64 12) + 1)))
          have y1 : (gs H 64 12 (w32 ((H 64 12) + 1))) 64 43 = H 64 43 := gs_at_ne (by decide)
          refine (show W2 o_X12 M_X12_expression (inN [64, 72, 73, 74, 75, 76, 77, 78, 79, 80, 81, 82, 83, 84, 85, 86, 87, 88, 89, 90, 91, 92, 93]) (q + 5) Q 68 [some (mR 69), some (mI B), some (mI 1), none, none] [] (e_X12_next (gs H 64 12 (w32 ((H 64 12) + 1)))) from ?_)
          refine w2_vc [12, 64, 68, 79, 89, 200] 400 oo_X12 q_X12_expression ?_
          refine ⟨(show 0 ≤ ((e_X12_next (gs H 64 12 (w32 ((H 64 12) + 1)))) 64 43) ∧ ((e_X12_next (gs H 64 12 (w32 ((H 64 12) + 1)))) 64 43) < ((48 : Nat) : Int) from by first | omega | (simp (disch := omega) only [w32_i]; omega)), ?_⟩
          refine (show W2 o_X12 M_X12_expression (inN [64, 72, 73, 74, 75, 76, 77, 78, 79, 80, 81, 82, 83, 84, 85, 86, 87, 88, 89, 90, 91, 92, 93]) (q + 5) Q 79 [some (mR 69), some (mI B), some (mI 1), none, none] [] (gs (e_X12_next (gs H 64 12 (w32 ((H 64 12) + 1)))) 93 (Int.toNat ((e_X12_next (gs H 64 12 (w32 ((H 64 12) + 1)))) 64 43)) 6) from ?_)
          refine w2_vc [12, 64, 68, 79, 89, 200] 400 oo_X12 q_X12_expression ?_
          refine (show W2 o_X12 M_X12_expression (inN [64, 72, 73, 74, 75, 76, 77, 78, 79, 80, 81, 82, 83, 84, 85, 86, 87, 88, 89, 90, 91, 92, 93]) (q + 5) Q 89 [some (mR 69), some (mI B), some (mI 1), none, none] [] (gs (gs (e_X12_next (gs H 64 12 (w32 ((H 64 12) + 1)))) 93 (Int.toNat ((e_X12_next (gs H 64 12 (w32 ((H 64 12) + 1)))) 64 43)) 6) 64 43 (w32 (((e_X12_next (gs H 64 12 (w32 ((H 64 12) + 1)))) 64 43) + 1))) from ?_)
          refine w2_vc [12, 64, 68, 79, 89, 200] 400 oo_X12 q_X12_expression ?_
          refine (show W2 o_X12 M_X12_expression (inN [64, 72, 73, 74, 75, 76, 77, 78, 79, 80, 81, 82, 83, 84, 85, 86, 87, 88, 89, 90, 91, 92, 93]) (q + 5) Q 12 [some (mR 69), some (mI B), some (mI 1), none, none] [] (gs (gs (e_X12_next (gs H 64 12 (w32 ((H 64 12) + 1)))) 93 (Int.toNat ((e_X12_next (gs H 64 12 (w32 ((H 64 12) + 1)))) 64 43)) 6) 64 43 (w32 (((e_X12_next (gs H 64 12 (w32 ((H 64 12) + 1)))) 64 43) + 1))) from ?_)
          exact h2 (by omega) (by omega)
        · skip
          exfalso; omega
      · skip
        refine sp_X12_fail (by first | omega | (simp (disch := decide) only [gs_ne, gs_at_ne, gs_at]; omega)) (insub (by decide)) ?_
        have c62 := fx_fail H 2
        refine ⟨fun (c63 : ((e_X12_fail H 2) 64 13) ≤ 0) => ?_, fun (c63 : 0 < ((e_X12_fail H 2) 64 13)) => ?_⟩
        · skip
          refine (show W2 o_X12 M_X12_expression (inN [64, 72, 73, 74, 75, 76, 77, 78, 79, 80, 81, 82, 83, 84, 85, 86, 87, 88, 89, 90, 91, 92, 93]) (q + 5) Q 64 [some (mR 69), some (mI B), some (mI 1), none, none] [] (gs (e_X12_fail H 2) 64 12 (w32 (((e_X12_fail H 2) 64 12) + 1))) from ?_)
          refine w2_vc [12, 64, 68, 79, 89, 200] 400 oo_X12 q_X12_expression ?_
          have y0 := nx_43 (gs (e_X12_fail H 2) 64 12 (w32 (((e_X12_fail H 2) 64 12) + 1)))
          refine sp_X12_next (by first | omega | (simp (disch := decide) only [gs_ne, gs_at_ne, gs_at]; omega)) (insub (by decide)) ?_
          have c64 := fx_next (gs (e_X12_fail H 2) 64 12 (w32 (((e_X12_fail H 2) 64 12) + 1)))
          refine (show W2 o_X12 M_X12_expression (inN [64, 72, 73, 74, 75, 76, 77, 78, 79, 80, 81, 82, 83, 84, 85, 86, 87, 88, 89, 90, 91, 92, 93]) (q + 5) Q 68 [some (mR 69), some (mI B), some (mI 1), none, none] [] (e_X12_next (gs (e_X12_fail H 2) 64 12 (w32 (((e_X12_fail H 2) 64 12) + 1)))) from ?_)
          refine w2_vc [12, 64, 68, 79, 89, 200] 400 oo_X12 q_X12_expression ?_
          refine ⟨(show 0 ≤ ((e_X12_next (gs (e_X12_fail H 2) 64 12 (w32 (((e_X12_fail H 2) 64 12) + 1)))) 64 43) ∧ ((e_X12_next (gs (e_X12_fail H 2) 64 12 (w32 (((e_X12_fail H 2) 64 12) + 1)))) 64 43) < ((48 : Nat) : Int) from by first | omega | (simp (disch := omega) only [w32_i]; omega)), ?_⟩
          refine (show W2 o_X12 M_X12_expression (inN [64, 72, 73, 74, 75, 76, 77, 78, 79, 80, 81, 82, 83, 84, 85, 86, 87, 88, 89, 90, 91, 92, 93]) (q + 5) Q 79 [some (mR 69), some (mI B), some (mI 1), none, none] [] (gs (e_X12_next (gs (e_X12_fail H 2) 64 12 (w32 (((e_X12_fail H 2) 64 12) + 1)))) 93 (Int.toNat ((e_X12_next (gs (e_X12_fail H 2) 64 12 (w32 (((e_X12_fail H 2) 64 12) + 1)))) 64 43)) 6) from ?_)
          refine w2_vc [12, 64, 68, 79, 89, 200] 400 oo_X12 q_X12_expression ?_
          refine (show W2 o_X12 M_X12_expression (inN [64, 72, 73, 74, 75, 76, 77, 78, 79, 80, 81, 82, 83, 84, 85, 86, 87, 88, 89, 90, 91, 92, 93]) (q + 5) Q 89 [some (mR 69), some (mI B), some (mI 1), none, none] [] (gs (gs (e_X12_next (gs (e_X12_fail H 2) 64 12 (w32 (((e_X12_fail H 2) 64 12) + 1)))) 93 (Int.toNat ((e_X12_next (gs (e_X12_fail H 2) 64 12 (w32 (((e_X12_fail H 2) 64 12) + 1)))) 64 43)) 6) 64 43 (w32 (((e_X12_next (gs (e_X12_fail H 2) 64 12 (w32 (((e_X12_fail H 2) 64 12) + 1)))) 64 43) + 1))) from ?_)
          refine w2_vc [12, 64, 68, 79, 89, 200] 400 oo_X12 q_X12_expression ?_
          refine (show W2 o_X12 M_X12_expression (inN [64, 72, 73, 74, 75, 76, 77, 78, 79, 80, 81, 82, 83, 84, 85, 86, 87, 88, 89, 90, 91, 92, 93]) (q + 5) Q 12 [some (mR 69), some (mI B), some (mI 1), none, none] [] (gs (gs (e_X12_next (gs (e_X12_fail H 2) 64 12 (w32 (((e_X12_fail H 2) 64 12) + 1)))) 93 (Int.toNat ((e_X12_next (gs (e_X12_fail H 2) 64 12 (w32 (((e_X12_fail H 2) 64 12) + 1)))) 64 43)) 6) 64 43 (w32 (((e_X12_next (gs (e_X12_fail H 2) 64 12 (w32 (((e_X12_fail H 2) 64 12) + 1)))) 64 43) + 1))) from ?_)
          exfalso; omega
        · skip
          exact h1 (by omega) (by omega)
set_option maxHeartbeats 8000000 in
theorem ex_200 {q : Nat} {H : mG} {Q : Option mV → mG → Prop} {B : Int} {m : Nat} (hT : 0 ≤ H 64 11 ∧ H 64 11 ≤ 600) (hf : 0 ≤ H 64 13) (hw : H 64 43 = (m : Int)) (hm : m ≤ 46) (h43 : ∀ z : Int, (z = 0 ∨ z = 1) → 0 ≤ (cO z m H) 64 43 ∧ (cO z m H) 64 43 ≤ 46) (hc : 0 ≤ H 64 39 ∧ H 64 39 + (m : Int) < 1400) (ho : 0 ≤ H 64 12 ∧ H 64 12 ≤ 6) (h1 : H 64 13 = 0 → (H 67 (Int.toNat (H 64 11))) = 7 → B < H 64 12 → ∀ A, cO 0 m H = A → W2 o_X12 M_X12_expression (inN [64, 72, 73, 74, 75, 76, 77, 78, 79, 80, 81, 82, 83, 84, 85, 86, 87, 88, 89, 90, 91, 92, 93]) (q + 5) Q 200 [some (mR 69), some (mI B), none, none, none] [] (e_X12_next (gs (gs A 64 43 (w32 ((A 64 43) - 1))) 64 12 (w32 ((A 64 12) - 1))))) (h2 : ¬ (H 64 13 = 0 ∧ (H 67 (Int.toNat (H 64 11))) = 7 ∧ B < H 64 12) → ¬ (H 64 13 = 0 ∧ ((H 67 (Int.toNat (H 64 11))) = 8 ∨ (H 67 (Int.toNat (H 64 11))) = 9 ∨ (H 67 (Int.toNat (H 64 11))) = 10)) → B < H 64 12 → Q none (cO 0 m (e_X12_fail H 1))) (h3 : ¬ (H 64 13 = 0 ∧ (H 67 (Int.toNat (H 64 11))) = 7 ∧ B < H 64 12) → ¬ (H 64 13 = 0 ∧ ((H 67 (Int.toNat (H 64 11))) = 8 ∨ (H 67 (Int.toNat (H 64 11))) = 9 ∨ (H 67 (Int.toNat (H 64 11))) = 10)) → H 64 12 ≤ B → Q none (cO 0 m H)) (h4 : ∀ z : Int, ¬ (H 64 13 = 0 ∧ (H 67 (Int.toNat (H 64 11))) = 7 ∧ B < H 64 12) → H 64 13 = 0 → ((H 67 (Int.toNat (H 64 11))) = 8 ∨ (H 67 (Int.toNat (H 64 11))) = 9 ∨ (H 67 (Int.toNat (H 64 11))) = 10) → (z = 0 ∧ ¬ (H 67 (Int.toNat (H 64 11))) = 10 ∨ z = 1 ∧ (H 67 (Int.toNat (H 64 11))) = 10) → ∀ A, cO z m H = A → W2 o_X12 M_X12_expression (inN [64, 72, 73, 74, 75, 76, 77, 78, 79, 80, 81, 82, 83, 84, 85, 86, 87, 88, 89, 90, 91, 92, 93]) (q + 5) Q 12 [some (mR 69), some (mI B), some (mI 1), none, none] [] (e_X12_next (gs (gs A 93 (Int.toNat (A 64 43)) (H 67 (Int.toNat (H 64 11)))) 64 43 (w32 ((A 64 43) + 1))))) : W2 o_X12 M_X12_expression (inN [64, 72, 73, 74, 75, 76, 77, 78, 79, 80, 81, 82, 83, 84, 85, 86, 87, 88, 89, 90, 91, 92, 93]) (q + 5) Q 200 [some (mR 69), some (mI B), none, none, none] [] H := by
  refine w2_vc [12, 200, 222, 232, 242, 246, 304, 332, 343, 353, 357] 400 oo_X12 q_X12_expression ?_
  refine sp_X12_is (by first | omega | (simp (disch := decide) only [gs_ne, gs_at_ne, gs_at]; omega)) ?_
  have c2 := fa_X12_is H 7
  refine ⟨fun (c3 : (f_X12_is H 7) = 0) => ?_, fun (c3 : ¬ (f_X12_is H 7) = 0) => ?_⟩
  · skip
    refine sp_X12_is (by first | omega | (simp (disch := decide) only [gs_ne, gs_at_ne, gs_at]; omega)) ?_
    have c5 := fa_X12_is H 8
    refine ⟨fun (c6 : ¬ (f_X12_is H 8) = 0) => ?_, fun (c6 : (f_X12_is H 8) = 0) => ?_⟩
    · skip
      refine ⟨fun _ => ?_, fun (c : (1 : Int) = 0) => absurd c (by decide)⟩
      refine ⟨(show 0 ≤ (H 64 11) ∧ (H 64 11) < ((603 : Nat) : Int) from by first | omega | (simp (disch := omega) only [w32_i]; omega)), ?_⟩
      refine ⟨fun (c7 : ¬ (H 67 (Int.toNat (H 64 11))) = 10) => ?_, fun (c7 : (H 67 (Int.toNat (H 64 11))) = 10) => ?_⟩
      · skip
        refine sp_X12_comesOut (m := m) (z := 0) (insub (by decide)) (by omega) (by omega) (by omega) (by omega) ?_
        have cf := cO_fr (z := 0) m H
        have cf11 := cf.2 11 (by decide) (by decide)
        have cf12 := cf.2 12 (by decide) (by decide)
        have hA43 := h43 0 (by omega)
        generalize hA : cO 0 m H = A at *
        refine (show W2 o_X12 M_X12_expression (inN [64, 72, 73, 74, 75, 76, 77, 78, 79, 80, 81, 82, 83, 84, 85, 86, 87, 88, 89, 90, 91, 92, 93]) (q + 5) Q 332 [some (mR 69), some (mI B), some (mI 1), none, some (mI (H 67 (Int.toNat (H 64 11))))] [] A from ?_)
        refine w2_vc [12, 200, 222, 232, 242, 246, 304, 332, 343, 353, 357] 400 oo_X12 q_X12_expression ?_
        refine ⟨(show 0 ≤ (A 64 43) ∧ (A 64 43) < ((48 : Nat) : Int) from by first | omega | (simp (disch := omega) only [w32_i]; omega)), ?_⟩
        refine (show W2 o_X12 M_X12_expression (inN [64, 72, 73, 74, 75, 76, 77, 78, 79, 80, 81, 82, 83, 84, 85, 86, 87, 88, 89, 90, 91, 92, 93]) (q + 5) Q 343 [some (mR 69), some (mI B), some (mI 1), none, some (mI (H 67 (Int.toNat (H 64 11))))] [] (gs A 93 (Int.toNat (A 64 43)) (H 67 (Int.toNat (H 64 11)))) from ?_)
        refine w2_vc [12, 200, 222, 232, 242, 246, 304, 332, 343, 353, 357] 400 oo_X12 q_X12_expression ?_
        refine (show W2 o_X12 M_X12_expression (inN [64, 72, 73, 74, 75, 76, 77, 78, 79, 80, 81, 82, 83, 84, 85, 86, 87, 88, 89, 90, 91, 92, 93]) (q + 5) Q 353 [some (mR 69), some (mI B), some (mI 1), none, some (mI (H 67 (Int.toNat (H 64 11))))] [] (gs (gs A 93 (Int.toNat (A 64 43)) (H 67 (Int.toNat (H 64 11)))) 64 43 (w32 ((A 64 43) + 1))) from ?_)
        refine w2_vc [12, 200, 222, 232, 242, 246, 304, 332, 343, 353, 357] 400 oo_X12 q_X12_expression ?_
        refine sp_X12_next (by first | omega | (simp (disch := decide) only [gs_ne, gs_at_ne, gs_at]; omega)) (insub (by decide)) ?_
        have c10 := fx_next (gs (gs A 93 (Int.toNat (A 64 43)) (H 67 (Int.toNat (H 64 11)))) 64 43 (w32 ((A 64 43) + 1)))
        refine (show W2 o_X12 M_X12_expression (inN [64, 72, 73, 74, 75, 76, 77, 78, 79, 80, 81, 82, 83, 84, 85, 86, 87, 88, 89, 90, 91, 92, 93]) (q + 5) Q 357 [some (mR 69), some (mI B), some (mI 1), none, some (mI (H 67 (Int.toNat (H 64 11))))] [] (e_X12_next (gs (gs A 93 (Int.toNat (A 64 43)) (H 67 (Int.toNat (H 64 11)))) 64 43 (w32 ((A 64 43) + 1))) ) from ?_)
        refine w2_vc [12, 200, 222, 232, 242, 246, 304, 332, 343, 353, 357] 400 oo_X12 q_X12_expression ?_
        refine (show W2 o_X12 M_X12_expression (inN [64, 72, 73, 74, 75, 76, 77, 78, 79, 80, 81, 82, 83, 84, 85, 86, 87, 88, 89, 90, 91, 92, 93]) (q + 5) Q 12 [some (mR 69), some (mI B), some (mI 1), none, some (mI (H 67 (Int.toNat (H 64 11))))] [] (e_X12_next (gs (gs A 93 (Int.toNat (A 64 43)) (H 67 (Int.toNat (H 64 11)))) 64 43 (w32 ((A 64 43) + 1))) ) from ?_)
        refine WP.fg (L' := [some (mR 69), some (mI B), some (mI 1), none, none]) ⟨rfl, rfl, rfl, trivial⟩ ?_
        exact h4 0 (by omega) (by omega) (by omega) (by omega) A hA
      · skip
        refine sp_X12_comesOut (m := m) (z := 1) (insub (by decide)) (by omega) (by omega) (by omega) (by omega) ?_
        have cf := cO_fr (z := 1) m H
        have cf11 := cf.2 11 (by decide) (by decide)
        have cf12 := cf.2 12 (by decide) (by decide)
        have hA43 := h43 1 (by omega)
        generalize hA : cO 1 m H = A at *
        refine (show W2 o_X12 M_X12_expression (inN [64, 72, 73, 74, 75, 76, 77, 78, 79, 80, 81, 82, 83, 84, 85, 86, 87, 88, 89, 90, 91, 92, 93]) (q + 5) Q 332 [some (mR 69), some (mI B), some (mI 1), none, some (mI (H 67 (Int.toNat (H 64 11))))] [] A from ?_)
        refine w2_vc [12, 200, 222, 232, 242, 246, 304, 332, 343, 353, 357] 400 oo_X12 q_X12_expression ?_
        refine ⟨(show 0 ≤ (A 64 43) ∧ (A 64 43) < ((48 : Nat) : Int) from by first | omega | (simp (disch := omega) only [w32_i]; omega)), ?_⟩
        refine (show W2 o_X12 M_X12_expression (inN [64, 72, 73, 74, 75, 76, 77, 78, 79, 80, 81, 82, 83, 84, 85, 86, 87, 88, 89, 90, 91, 92, 93]) (q + 5) Q 343 [some (mR 69), some (mI B), some (mI 1), none, some (mI (H 67 (Int.toNat (H 64 11))))] [] (gs A 93 (Int.toNat (A 64 43)) (H 67 (Int.toNat (H 64 11)))) from ?_)
        refine w2_vc [12, 200, 222, 232, 242, 246, 304, 332, 343, 353, 357] 400 oo_X12 q_X12_expression ?_
        refine (show W2 o_X12 M_X12_expression (inN [64, 72, 73, 74, 75, 76, 77, 78, 79, 80, 81, 82, 83, 84, 85, 86, 87, 88, 89, 90, 91, 92, 93]) (q + 5) Q 353 [some (mR 69), some (mI B), some (mI 1), none, some (mI (H 67 (Int.toNat (H 64 11))))] [] (gs (gs A 93 (Int.toNat (A 64 43)) (H 67 (Int.toNat (H 64 11)))) 64 43 (w32 ((A 64 43) + 1))) from ?_)
        refine w2_vc [12, 200, 222, 232, 242, 246, 304, 332, 343, 353, 357] 400 oo_X12 q_X12_expression ?_
        refine sp_X12_next (by first | omega | (simp (disch := decide) only [gs_ne, gs_at_ne, gs_at]; omega)) (insub (by decide)) ?_
        have c13 := fx_next (gs (gs A 93 (Int.toNat (A 64 43)) (H 67 (Int.toNat (H 64 11)))) 64 43 (w32 ((A 64 43) + 1)))
        refine (show W2 o_X12 M_X12_expression (inN [64, 72, 73, 74, 75, 76, 77, 78, 79, 80, 81, 82, 83, 84, 85, 86, 87, 88, 89, 90, 91, 92, 93]) (q + 5) Q 357 [some (mR 69), some (mI B), some (mI 1), none, some (mI (H 67 (Int.toNat (H 64 11))))] [] (e_X12_next (gs (gs A 93 (Int.toNat (A 64 43)) (H 67 (Int.toNat (H 64 11)))) 64 43 (w32 ((A 64 43) + 1))) ) from ?_)
        refine w2_vc [12, 200, 222, 232, 242, 246, 304, 332, 343, 353, 357] 400 oo_X12 q_X12_expression ?_
        refine (show W2 o_X12 M_X12_expression (inN [64, 72, 73, 74, 75, 76, 77, 78, 79, 80, 81, 82, 83, 84, 85, 86, 87, 88, 89, 90, 91, 92, 93]) (q + 5) Q 12 [some (mR 69), some (mI B), some (mI 1), none, some (mI (H 67 (Int.toNat (H 64 11))))] [] (e_X12_next (gs (gs A 93 (Int.toNat (A 64 43)) (H 67 (Int.toNat (H 64 11)))) 64 43 (w32 ((A 64 43) + 1))) ) from ?_)
        refine WP.fg (L' := [some (mR 69), some (mI B), some (mI 1), none, none]) ⟨rfl, rfl, rfl, trivial⟩ ?_
        exact h4 1 (by omega) (by omega) (by omega) (by omega) A hA
    · skip
      refine sp_X12_is (by first | omega | (simp (disch := decide) only [gs_ne, gs_at_ne, gs_at]; omega)) ?_
      have c15 := fa_X12_is H 9
      refine ⟨fun (c16 : ¬ (f_X12_is H 9) = 0) => ?_, fun (c16 : (f_X12_is H 9) = 0) => ?_⟩
      · skip
        refine ⟨fun _ => ?_, fun (c : (1 : Int) = 0) => absurd c (by decide)⟩
        refine ⟨(show 0 ≤ (H 64 11) ∧ (H 64 11) < ((603 : Nat) : Int) from by first | omega | (simp (disch := omega) only [w32_i]; omega)), ?_⟩
        refine ⟨fun (c17 : ¬ (H 67 (Int.toNat (H 64 11))) = 10) => ?_, fun (c17 : (H 67 (Int.toNat (H 64 11))) = 10) => ?_⟩
        · skip
          refine sp_X12_comesOut (m := m) (z := 0) (insub (by decide)) (by omega) (by omega) (by omega) (by omega) ?_
          have cf := cO_fr (z := 0) m H
          have cf11 := cf.2 11 (by decide) (by decide)
          have cf12 := cf.2 12 (by decide) (by decide)
          have hA43 := h43 0 (by omega)
          generalize hA : cO 0 m H = A at *
          refine (show W2 o_X12 M_X12_expression (inN [64, 72, 73, 74, 75, 76, 77, 78, 79, 80, 81, 82, 83, 84, 85, 86, 87, 88, 89, 90, 91, 92, 93]) (q + 5) Q 332 [some (mR 69), some (mI B), some (mI 1), none, some (mI (H 67 (Int.toNat (H 64 11))))] [] A from ?_)
          refine w2_vc [12, 200, 222, 232, 242, 246, 304, 332, 343, 353, 357] 400 oo_X12 q_X12_expression ?_
          refine ⟨(show 0 ≤ (A 64 43) ∧ (A 64 43) < ((48 : Nat) : Int) from by first | omega | (simp (disch := omega) only [w32_i]; omega)), ?_⟩
          refine (show W2 o_X12 M_X12_expression (inN [64, 72, 73, 74, 75, 76, 77, 78, 79, 80, 81, 82, 83, 84, 85, 86, 87, 88, 89, 90, 91, 92, 93]) (q + 5) Q 343 [some (mR 69), some (mI B), some (mI 1), none, some (mI (H 67 (Int.toNat (H 64 11))))] [] (gs A 93 (Int.toNat (A 64 43)) (H 67 (Int.toNat (H 64 11)))) from ?_)
          refine w2_vc [12, 200, 222, 232, 242, 246, 304, 332, 343, 353, 357] 400 oo_X12 q_X12_expression ?_
          refine (show W2 o_X12 M_X12_expression (inN [64, 72, 73, 74, 75, 76, 77, 78, 79, 80, 81, 82, 83, 84, 85, 86, 87, 88, 89, 90, 91, 92, 93]) (q + 5) Q 353 [some (mR 69), some (mI B), some (mI 1), none, some (mI (H 67 (Int.toNat (H 64 11))))] [] (gs (gs A 93 (Int.toNat (A 64 43)) (H 67 (Int.toNat (H 64 11)))) 64 43 (w32 ((A 64 43) + 1))) from ?_)
          refine w2_vc [12, 200, 222, 232, 242, 246, 304, 332, 343, 353, 357] 400 oo_X12 q_X12_expression ?_
          refine sp_X12_next (by first | omega | (simp (disch := decide) only [gs_ne, gs_at_ne, gs_at]; omega)) (insub (by decide)) ?_
          have c20 := fx_next (gs (gs A 93 (Int.toNat (A 64 43)) (H 67 (Int.toNat (H 64 11)))) 64 43 (w32 ((A 64 43) + 1)))
          refine (show W2 o_X12 M_X12_expression (inN [64, 72, 73, 74, 75, 76, 77, 78, 79, 80, 81, 82, 83, 84, 85, 86, 87, 88, 89, 90, 91, 92, 93]) (q + 5) Q 357 [some (mR 69), some (mI B), some (mI 1), none, some (mI (H 67 (Int.toNat (H 64 11))))] [] (e_X12_next (gs (gs A 93 (Int.toNat (A 64 43)) (H 67 (Int.toNat (H 64 11)))) 64 43 (w32 ((A 64 43) + 1))) ) from ?_)
          refine w2_vc [12, 200, 222, 232, 242, 246, 304, 332, 343, 353, 357] 400 oo_X12 q_X12_expression ?_
          refine (show W2 o_X12 M_X12_expression (inN [64, 72, 73, 74, 75, 76, 77, 78, 79, 80, 81, 82, 83, 84, 85, 86, 87, 88, 89, 90, 91, 92, 93]) (q + 5) Q 12 [some (mR 69), some (mI B), some (mI 1), none, some (mI (H 67 (Int.toNat (H 64 11))))] [] (e_X12_next (gs (gs A 93 (Int.toNat (A 64 43)) (H 67 (Int.toNat (H 64 11)))) 64 43 (w32 ((A 64 43) + 1))) ) from ?_)
          refine WP.fg (L' := [some (mR 69), some (mI B), some (mI 1), none, none]) ⟨rfl, rfl, rfl, trivial⟩ ?_
          exact h4 0 (by omega) (by omega) (by omega) (by omega) A hA
        · skip
          refine sp_X12_comesOut (m := m) (z := 1) (insub (by decide)) (by omega) (by omega) (by omega) (by omega) ?_
          have cf := cO_fr (z := 1) m H
          have cf11 := cf.2 11 (by decide) (by decide)
          have cf12 := cf.2 12 (by decide) (by decide)
          have hA43 := h43 1 (by omega)
          generalize hA : cO 1 m H = A at *
          refine (show W2 o_X12 M_X12_expression (inN [64, 72, 73, 74, 75, 76, 77, 78, 79, 80, 81, 82, 83, 84, 85, 86, 87, 88, 89, 90, 91, 92, 93]) (q + 5) Q 332 [some (mR 69), some (mI B), some (mI 1), none, some (mI (H 67 (Int.toNat (H 64 11))))] [] A from ?_)
          refine w2_vc [12, 200, 222, 232, 242, 246, 304, 332, 343, 353, 357] 400 oo_X12 q_X12_expression ?_
          refine ⟨(show 0 ≤ (A 64 43) ∧ (A 64 43) < ((48 : Nat) : Int) from by first | omega | (simp (disch := omega) only [w32_i]; omega)), ?_⟩
          refine (show W2 o_X12 M_X12_expression (inN [64, 72, 73, 74, 75, 76, 77, 78, 79, 80, 81, 82, 83, 84, 85, 86, 87, 88, 89, 90, 91, 92, 93]) (q + 5) Q 343 [some (mR 69), some (mI B), some (mI 1), none, some (mI (H 67 (Int.toNat (H 64 11))))] [] (gs A 93 (Int.toNat (A 64 43)) (H 67 (Int.toNat (H 64 11)))) from ?_)
          refine w2_vc [12, 200, 222, 232, 242, 246, 304, 332, 343, 353, 357] 400 oo_X12 q_X12_expression ?_
          refine (show W2 o_X12 M_X12_expression (inN [64, 72, 73, 74, 75, 76, 77, 78, 79, 80, 81, 82, 83, 84, 85, 86, 87, 88, 89, 90, 91, 92, 93]) (q + 5) Q 353 [some (mR 69), some (mI B), some (mI 1), none, some (mI (H 67 (Int.toNat (H 64 11))))] [] (gs (gs A 93 (Int.toNat (A 64 43)) (H 67 (Int.toNat (H 64 11)))) 64 43 (w32 ((A 64 43) + 1))) from ?_)
          refine w2_vc [12, 200, 222, 232, 242, 246, 304, 332, 343, 353, 357] 400 oo_X12 q_X12_expression ?_
          refine sp_X12_next (by first | omega | (simp (disch := decide) only [gs_ne, gs_at_ne, gs_at]; omega)) (insub (by decide)) ?_
          have c23 := fx_next (gs (gs A 93 (Int.toNat (A 64 43)) (H 67 (Int.toNat (H 64 11)))) 64 43 (w32 ((A 64 43) + 1)))
          refine (show W2 o_X12 M_X12_expression (inN [64, 72, 73, 74, 75, 76, 77, 78, 79, 80, 81, 82, 83, 84, 85, 86, 87, 88, 89, 90, 91, 92, 93]) (q + 5) Q 357 [some (mR 69), some (mI B), some (mI 1), none, some (mI (H 67 (Int.toNat (H 64 11))))] [] (e_X12_next (gs (gs A 93 (Int.toNat (A 64 43)) (H 67 (Int.toNat (H 64 11)))) 64 43 (w32 ((A 64 43) + 1))) ) from ?_)
          refine w2_vc [12, 200, 222, 232, 242, 246, 304, 332, 343, 353, 357] 400 oo_X12 q_X12_expression ?_
          refine (show W2 o_X12 M_X12_expression (inN [64, 72, 73, 74, 75, 76, 77, 78, 79, 80, 81, 82, 83, 84, 85, 86, 87, 88, 89, 90, 91, 92, 93]) (q + 5) Q 12 [some (mR 69), some (mI B), some (mI 1), none, some (mI (H 67 (Int.toNat (H 64 11))))] [] (e_X12_next (gs (gs A 93 (Int.toNat (A 64 43)) (H 67 (Int.toNat (H 64 11)))) 64 43 (w32 ((A 64 43) + 1))) ) from ?_)
          refine WP.fg (L' := [some (mR 69), some (mI B), some (mI 1), none, none]) ⟨rfl, rfl, rfl, trivial⟩ ?_
          exact h4 1 (by omega) (by omega) (by omega) (by omega) A hA
      · skip
        refine sp_X12_is (by first | omega | (simp (disch := decide) only [gs_ne, gs_at_ne, gs_at]; omega)) ?_
        have c25 := fa_X12_is H 10
        refine ⟨fun (c26 : (f_X12_is H 10) = 0) => ?_, fun (c26 : ¬ (f_X12_is H 10) = 0) => ?_⟩
        · skip
          refine ⟨fun (c : ¬ (0 : Int) = 0) => absurd c (by decide), fun _ => ?_⟩
          refine ⟨fun (c27 : (H 64 12) ≤ B) => ?_, fun (c27 : B < (H 64 12)) => ?_⟩
          · skip
            refine sp_X12_comesOut (m := m) (z := 0) (insub (by decide)) (by omega) (by omega) (by omega) (by omega) ?_
            have cf := cO_fr (z := 0) m H
            have cf11 := cf.2 11 (by decide) (by decide)
            have cf12 := cf.2 12 (by decide) (by decide)
            have hA43 := h43 0 (by omega)
            generalize hA : cO 0 m H = A at *
            refine (show W2 o_X12 M_X12_expression (inN [64, 72, 73, 74, 75, 76, 77, 78, 79, 80, 81, 82, 83, 84, 85, 86, 87, 88, 89, 90, 91, 92, 93]) (q + 5) Q 304 [some (mR 69), some (mI B), some (mI 0), none, none] [] A from ?_)
            refine w2_vc [12, 200, 222, 232, 242, 246, 304, 332, 343, 353, 357] 400 oo_X12 q_X12_expression ?_
            exact h3 (by omega) (by omega) (by omega)
          · skip
            refine sp_X12_fail (by first | omega | (simp (disch := decide) only [gs_ne, gs_at_ne, gs_at]; omega)) (insub (by decide)) ?_
            have c30 := fx_fail H 1
            have f31 := fx_fail H 1
            refine sp_X12_comesOut (m := m) (z := 0) (insub (by decide)) (by omega) (by omega) (by omega) (by omega) ?_
            have cf := cO_fr (z := 0) m (e_X12_fail H 1)
            have cf11 := cf.2 11 (by decide) (by decide)
            have cf12 := cf.2 12 (by decide) (by decide)
            refine (show W2 o_X12 M_X12_expression (inN [64, 72, 73, 74, 75, 76, 77, 78, 79, 80, 81, 82, 83, 84, 85, 86, 87, 88, 89, 90, 91, 92, 93]) (q + 5) Q 304 [some (mR 69), some (mI B), some (mI 0), none, none] [] (cO 0 m (e_X12_fail H 1)) from ?_)
            refine w2_vc [12, 200, 222, 232, 242, 246, 304, 332, 343, 353, 357] 400 oo_X12 q_X12_expression ?_
            exact h2 (by omega) (by omega) (by omega)
        · skip
          refine ⟨fun _ => ?_, fun (c : (1 : Int) = 0) => absurd c (by decide)⟩
          refine ⟨(show 0 ≤ (H 64 11) ∧ (H 64 11) < ((603 : Nat) : Int) from by first | omega | (simp (disch := omega) only [w32_i]; omega)), ?_⟩
          refine ⟨fun (c32 : ¬ (H 67 (Int.toNat (H 64 11))) = 10) => ?_, fun (c32 : (H 67 (Int.toNat (H 64 11))) = 10) => ?_⟩
          · skip
            refine sp_X12_comesOut (m := m) (z := 0) (insub (by decide)) (by omega) (by omega) (by omega) (by omega) ?_
            have cf := cO_fr (z := 0) m H
            have cf11 := cf.2 11 (by decide) (by decide)
            have cf12 := cf.2 12 (by decide) (by decide)
            have hA43 := h43 0 (by omega)
            generalize hA : cO 0 m H = A at *
            refine (show W2 o_X12 M_X12_expression (inN [64, 72, 73, 74, 75, 76, 77, 78, 79, 80, 81, 82, 83, 84, 85, 86, 87, 88, 89, 90, 91, 92, 93]) (q + 5) Q 332 [some (mR 69), some (mI B), some (mI 1), none, some (mI (H 67 (Int.toNat (H 64 11))))] [] A from ?_)
            refine w2_vc [12, 200, 222, 232, 242, 246, 304, 332, 343, 353, 357] 400 oo_X12 q_X12_expression ?_
            refine ⟨(show 0 ≤ (A 64 43) ∧ (A 64 43) < ((48 : Nat) : Int) from by first | omega | (simp (disch := omega) only [w32_i]; omega)), ?_⟩
            refine (show W2 o_X12 M_X12_expression (inN [64, 72, 73, 74, 75, 76, 77, 78, 79, 80, 81, 82, 83, 84, 85, 86, 87, 88, 89, 90, 91, 92, 93]) (q + 5) Q 343 [some (mR 69), some (mI B), some (mI 1), none, some (mI (H 67 (Int.toNat (H 64 11))))] [] (gs A 93 (Int.toNat (A 64 43)) (H 67 (Int.toNat (H 64 11)))) from ?_)
            refine w2_vc [12, 200, 222, 232, 242, 246, 304, 332, 343, 353, 357] 400 oo_X12 q_X12_expression ?_
            refine (show W2 o_X12 M_X12_expression (inN [64, 72, 73, 74, 75, 76, 77, 78, 79, 80, 81, 82, 83, 84, 85, 86, 87, 88, 89, 90, 91, 92, 93]) (q + 5) Q 353 [some (mR 69), some (mI B), some (mI 1), none, some (mI (H 67 (Int.toNat (H 64 11))))] [] (gs (gs A 93 (Int.toNat (A 64 43)) (H 67 (Int.toNat (H 64 11)))) 64 43 (w32 ((A 64 43) + 1))) from ?_)
            refine w2_vc [12, 200, 222, 232, 242, 246, 304, 332, 343, 353, 357] 400 oo_X12 q_X12_expression ?_
            refine sp_X12_next (by first | omega | (simp (disch := decide) only [gs_ne, gs_at_ne, gs_at]; omega)) (insub (by decide)) ?_
            have c35 := fx_next (gs (gs A 93 (Int.toNat (A 64 43)) (H 67 (Int.toNat (H 64 11)))) 64 43 (w32 ((A 64 43) + 1)))
            refine (show W2 o_X12 M_X12_expression (inN [64, 72, 73, 74, 75, 76, 77, 78, 79, 80, 81, 82, 83, 84, 85, 86, 87, 88, 89, 90, 91, 92, 93]) (q + 5) Q 357 [some (mR 69), some (mI B), some (mI 1), none, some (mI (H 67 (Int.toNat (H 64 11))))] [] (e_X12_next (gs (gs A 93 (Int.toNat (A 64 43)) (H 67 (Int.toNat (H 64 11)))) 64 43 (w32 ((A 64 43) + 1))) ) from ?_)
            refine w2_vc [12, 200, 222, 232, 242, 246, 304, 332, 343, 353, 357] 400 oo_X12 q_X12_expression ?_
            refine (show W2 o_X12 M_X12_expression (inN [64, 72, 73, 74, 75, 76, 77, 78, 79, 80, 81, 82, 83, 84, 85, 86, 87, 88, 89, 90, 91, 92, 93]) (q + 5) Q 12 [some (mR 69), some (mI B), some (mI 1), none, some (mI (H 67 (Int.toNat (H 64 11))))] [] (e_X12_next (gs (gs A 93 (Int.toNat (A 64 43)) (H 67 (Int.toNat (H 64 11)))) 64 43 (w32 ((A 64 43) + 1))) ) from ?_)
            refine WP.fg (L' := [some (mR 69), some (mI B), some (mI 1), none, none]) ⟨rfl, rfl, rfl, trivial⟩ ?_
            exact h4 0 (by omega) (by omega) (by omega) (by omega) A hA
          · skip
            refine sp_X12_comesOut (m := m) (z := 1) (insub (by decide)) (by omega) (by omega) (by omega) (by omega) ?_
            have cf := cO_fr (z := 1) m H
            have cf11 := cf.2 11 (by decide) (by decide)
            have cf12 := cf.2 12 (by decide) (by decide)
            have hA43 := h43 1 (by omega)
            generalize hA : cO 1 m H = A at *
            refine (show W2 o_X12 M_X12_expression (inN [64, 72, 73, 74, 75, 76, 77, 78, 79, 80, 81, 82, 83, 84, 85, 86, 87, 88, 89, 90, 91, 92, 93]) (q + 5) Q 332 [some (mR 69), some (mI B), some (mI 1), none, some (mI (H 67 (Int.toNat (H 64 11))))] [] A from ?_)
            refine w2_vc [12, 200, 222, 232, 242, 246, 304, 332, 343, 353, 357] 400 oo_X12 q_X12_expression ?_
            refine ⟨(show 0 ≤ (A 64 43) ∧ (A 64 43) < ((48 : Nat) : Int) from by first | omega | (simp (disch := omega) only [w32_i]; omega)), ?_⟩
            refine (show W2 o_X12 M_X12_expression (inN [64, 72, 73, 74, 75, 76, 77, 78, 79, 80, 81, 82, 83, 84, 85, 86, 87, 88, 89, 90, 91, 92, 93]) (q + 5) Q 343 [some (mR 69), some (mI B), some (mI 1), none, some (mI (H 67 (Int.toNat (H 64 11))))] [] (gs A 93 (Int.toNat (A 64 43)) (H 67 (Int.toNat (H 64 11)))) from ?_)
            refine w2_vc [12, 200, 222, 232, 242, 246, 304, 332, 343, 353, 357] 400 oo_X12 q_X12_expression ?_
            refine (show W2 o_X12 M_X12_expression (inN [64, 72, 73, 74, 75, 76, 77, 78, 79, 80, 81, 82, 83, 84, 85, 86, 87, 88, 89, 90, 91, 92, 93]) (q + 5) Q 353 [some (mR 69), some (mI B), some (mI 1), none, some (mI (H 67 (Int.toNat (H 64 11))))] [] (gs (gs A 93 (Int.toNat (A 64 43)) (H 67 (Int.toNat (H 64 11)))) 64 43 (w32 ((A 64 43) + 1))) from ?_)
            refine w2_vc [12, 200, 222, 232, 242, 246, 304, 332, 343, 353, 357] 400 oo_X12 q_X12_expression ?_
            refine sp_X12_next (by first | omega | (simp (disch := decide) only [gs_ne, gs_at_ne, gs_at]; omega)) (insub (by decide)) ?_
            have c38 := fx_next (gs (gs A 93 (Int.toNat (A 64 43)) (H 67 (Int.toNat (H 64 11)))) 64 43 (w32 ((A 64 43) + 1)))
            refine (show W2 o_X12 M_X12_expression (inN [64, 72, 73, 74, 75, 76, 77, 78, 79, 80, 81, 82, 83, 84, 85, 86, 87, 88, 89, 90, 91, 92, 93]) (q + 5) Q 357 [some (mR 69), some (mI B), some (mI 1), none, some (mI (H 67 (Int.toNat (H 64 11))))] [] (e_X12_next (gs (gs A 93 (Int.toNat (A 64 43)) (H 67 (Int.toNat (H 64 11)))) 64 43 (w32 ((A 64 43) + 1))) ) from ?_)
            refine w2_vc [12, 200, 222, 232, 242, 246, 304, 332, 343, 353, 357] 400 oo_X12 q_X12_expression ?_
            refine (show W2 o_X12 M_X12_expression (inN [64, 72, 73, 74, 75, 76, 77, 78, 79, 80, 81, 82, 83, 84, 85, 86, 87, 88, 89, 90, 91, 92, 93]) (q + 5) Q 12 [some (mR 69), some (mI B), some (mI 1), none, some (mI (H 67 (Int.toNat (H 64 11))))] [] (e_X12_next (gs (gs A 93 (Int.toNat (A 64 43)) (H 67 (Int.toNat (H 64 11)))) 64 43 (w32 ((A 64 43) + 1))) ) from ?_)
            refine WP.fg (L' := [some (mR 69), some (mI B), some (mI 1), none, none]) ⟨rfl, rfl, rfl, trivial⟩ ?_
            exact h4 1 (by omega) (by omega) (by omega) (by omega) A hA
  · skip
    refine ⟨fun (c39 : (H 64 12) ≤ B) => ?_, fun (c39 : B < (H 64 12)) => ?_⟩
    · skip
      refine sp_X12_is (by first | omega | (simp (disch := decide) only [gs_ne, gs_at_ne, gs_at]; omega)) ?_
      have c41 := fa_X12_is H 8
      refine ⟨fun (c42 : ¬ (f_X12_is H 8) = 0) => ?_, fun (c42 : (f_X12_is H 8) = 0) => ?_⟩
      · skip
        refine ⟨fun _ => ?_, fun (c : (1 : Int) = 0) => absurd c (by decide)⟩
        refine ⟨(show 0 ≤ (H 64 11) ∧ (H 64 11) < ((603 : Nat) : Int) from by first | omega | (simp (disch := omega) only [w32_i]; omega)), ?_⟩
        refine ⟨fun (c43 : ¬ (H 67 (Int.toNat (H 64 11))) = 10) => ?_, fun (c43 : (H 67 (Int.toNat (H 64 11))) = 10) => ?_⟩
        · skip
          refine sp_X12_comesOut (m := m) (z := 0) (insub (by decide)) (by omega) (by omega) (by omega) (by omega) ?_
          have cf := cO_fr (z := 0) m H
          have cf11 := cf.2 11 (by decide) (by decide)
          have cf12 := cf.2 12 (by decide) (by decide)
          have hA43 := h43 0 (by omega)
          generalize hA : cO 0 m H = A at *
          refine (show W2 o_X12 M_X12_expression (inN [64, 72, 73, 74, 75, 76, 77, 78, 79, 80, 81, 82, 83, 84, 85, 86, 87, 88, 89, 90, 91, 92, 93]) (q + 5) Q 332 [some (mR 69), some (mI B), some (mI 1), none, some (mI (H 67 (Int.toNat (H 64 11))))] [] A from ?_)
          refine w2_vc [12, 200, 222, 232, 242, 246, 304, 332, 343, 353, 357] 400 oo_X12 q_X12_expression ?_
          refine ⟨(show 0 ≤ (A 64 43) ∧ (A 64 43) < ((48 : Nat) : Int) from by first | omega | (simp (disch := omega) only [w32_i]; omega)), ?_⟩
          refine (show W2 o_X12 M_X12_expression (inN [64, 72, 73, 74, 75, 76, 77, 78, 79, 80, 81, 82, 83, 84, 85, 86, 87, 88, 89, 90, 91, 92, 93]) (q + 5) Q 343 [some (mR 69), some (mI B), some (mI 1), none, some (mI (H 67 (Int.toNat (H 64 11))))] [] (gs A 93 (Int.toNat (A 64 43)) (H 67 (Int.toNat (H 64 11)))) from ?_)
          refine w2_vc [12, 200, 222, 232, 242, 246, 304, 332, 343, 353, 357] 400 oo_X12 q_X12_expression ?_
          refine (show W2 o_X12 M_X12_expression (inN [64, 72, 73, 74, 75, 76, 77, 78, 79, 80, 81, 82, 83, 84, 85, 86, 87, 88, 89, 90, 91, 92, 93]) (q + 5) Q 353 [some (mR 69), some (mI B), some (mI 1), none, some (mI (H 67 (Int.toNat (H 64 11))))] [] (gs (gs A 93 (Int.toNat (A 64 43)) (H 67 (Int.toNat (H 64 11)))) 64 43 (w32 ((A 64 43) + 1))) from ?_)
          refine w2_vc [12, 200, 222, 232, 242, 246, 304, 332, 343, 353, 357] 400 oo_X12 q_X12_expression ?_
          refine sp_X12_next (by first | omega | (simp (disch := decide) only [gs_ne, gs_at_ne, gs_at]; omega)) (insub (by decide)) ?_
          have c46 := fx_next (gs (gs A 93 (Int.toNat (A 64 43)) (H 67 (Int.toNat (H 64 11)))) 64 43 (w32 ((A 64 43) + 1)))
          refine (show W2 o_X12 M_X12_expression (inN [64, 72, 73, 74, 75, 76, 77, 78, 79, 80, 81, 82, 83, 84, 85, 86, 87, 88, 89, 90, 91, 92, 93]) (q + 5) Q 357 [some (mR 69), some (mI B), some (mI 1), none, some (mI (H 67 (Int.toNat (H 64 11))))] [] (e_X12_next (gs (gs A 93 (Int.toNat (A 64 43)) (H 67 (Int.toNat (H 64 11)))) 64 43 (w32 ((A 64 43) + 1))) ) from ?_)
          refine w2_vc [12, 200, 222, 232, 242, 246, 304, 332, 343, 353, 357] 400 oo_X12 q_X12_expression ?_
          refine (show W2 o_X12 M_X12_expression (inN [64, 72, 73, 74, 75, 76, 77, 78, 79, 80, 81, 82, 83, 84, 85, 86, 87, 88, 89, 90, 91, 92, 93]) (q + 5) Q 12 [some (mR 69), some (mI B), some (mI 1), none, some (mI (H 67 (Int.toNat (H 64 11))))] [] (e_X12_next (gs (gs A 93 (Int.toNat (A 64 43)) (H 67 (Int.toNat (H 64 11)))) 64 43 (w32 ((A 64 43) + 1))) ) from ?_)
          refine WP.fg (L' := [some (mR 69), some (mI B), some (mI 1), none, none]) ⟨rfl, rfl, rfl, trivial⟩ ?_
          exact h4 0 (by omega) (by omega) (by omega) (by omega) A hA
        · skip
          refine sp_X12_comesOut (m := m) (z := 1) (insub (by decide)) (by omega) (by omega) (by omega) (by omega) ?_
          have cf := cO_fr (z := 1) m H
          have cf11 := cf.2 11 (by decide) (by decide)
          have cf12 := cf.2 12 (by decide) (by decide)
          have hA43 := h43 1 (by omega)
          generalize hA : cO 1 m H = A at *
          refine (show W2 o_X12 M_X12_expression (inN [64, 72, 73, 74, 75, 76, 77, 78, 79, 80, 81, 82, 83, 84, 85, 86, 87, 88, 89, 90, 91, 92, 93]) (q + 5) Q 332 [some (mR 69), some (mI B), some (mI 1), none, some (mI (H 67 (Int.toNat (H 64 11))))] [] A from ?_)
          refine w2_vc [12, 200, 222, 232, 242, 246, 304, 332, 343, 353, 357] 400 oo_X12 q_X12_expression ?_
          refine ⟨(show 0 ≤ (A 64 43) ∧ (A 64 43) < ((48 : Nat) : Int) from by first | omega | (simp (disch := omega) only [w32_i]; omega)), ?_⟩
          refine (show W2 o_X12 M_X12_expression (inN [64, 72, 73, 74, 75, 76, 77, 78, 79, 80, 81, 82, 83, 84, 85, 86, 87, 88, 89, 90, 91, 92, 93]) (q + 5) Q 343 [some (mR 69), some (mI B), some (mI 1), none, some (mI (H 67 (Int.toNat (H 64 11))))] [] (gs A 93 (Int.toNat (A 64 43)) (H 67 (Int.toNat (H 64 11)))) from ?_)
          refine w2_vc [12, 200, 222, 232, 242, 246, 304, 332, 343, 353, 357] 400 oo_X12 q_X12_expression ?_
          refine (show W2 o_X12 M_X12_expression (inN [64, 72, 73, 74, 75, 76, 77, 78, 79, 80, 81, 82, 83, 84, 85, 86, 87, 88, 89, 90, 91, 92, 93]) (q + 5) Q 353 [some (mR 69), some (mI B), some (mI 1), none, some (mI (H 67 (Int.toNat (H 64 11))))] [] (gs (gs A 93 (Int.toNat (A 64 43)) (H 67 (Int.toNat (H 64 11)))) 64 43 (w32 ((A 64 43) + 1))) from ?_)
          refine w2_vc [12, 200, 222, 232, 242, 246, 304, 332, 343, 353, 357] 400 oo_X12 q_X12_expression ?_
          refine sp_X12_next (by first | omega | (simp (disch := decide) only [gs_ne, gs_at_ne, gs_at]; omega)) (insub (by decide)) ?_
          have c49 := fx_next (gs (gs A 93 (Int.toNat (A 64 43)) (H 67 (Int.toNat (H 64 11)))) 64 43 (w32 ((A 64 43) + 1)))
          refine (show W2 o_X12 M_X12_expression (inN [64, 72, 73, 74, 75, 76, 77, 78, 79, 80, 81, 82, 83, 84, 85, 86, 87, 88, 89, 90, 91, 92, 93]) (q + 5) Q 357 [some (mR 69), some (mI B), some (mI 1), none, some (mI (H 67 (Int.toNat (H 64 11))))] [] (e_X12_next (gs (gs A 93 (Int.toNat (A 64 43)) (H 67 (Int.toNat (H 64 11)))) 64 43 (w32 ((A 64 43) + 1))) ) from ?_)
          refine w2_vc [12, 200, 222, 232, 242, 246, 304, 332, 343, 353, 357] 400 oo_X12 q_X12_expression ?_
          refine (show W2 o_X12 M_X12_expression (inN [64, 72, 73, 74, 75, 76, 77, 78, 79, 80, 81, 82, 83, 84, 85, 86, 87, 88, 89, 90, 91, 92, 93]) (q + 5) Q 12 [some (mR 69), some (mI B), some (mI 1), none, some (mI (H 67 (Int.toNat (H 64 11))))] [] (e_X12_next (gs (gs A 93 (Int.toNat (A 64 43)) (H 67 (Int.toNat (H 64 11)))) 64 43 (w32 ((A 64 43) + 1))) ) from ?_)
          refine WP.fg (L' := [some (mR 69), some (mI B), some (mI 1), none, none]) ⟨rfl, rfl, rfl, trivial⟩ ?_
          exact h4 1 (by omega) (by omega) (by omega) (by omega) A hA
      · skip
        refine sp_X12_is (by first | omega | (simp (disch := decide) only [gs_ne, gs_at_ne, gs_at]; omega)) ?_
        have c51 := fa_X12_is H 9
        refine ⟨fun (c52 : ¬ (f_X12_is H 9) = 0) => ?_, fun (c52 : (f_X12_is H 9) = 0) => ?_⟩
        · skip
          refine ⟨fun _ => ?_, fun (c : (1 : Int) = 0) => absurd c (by decide)⟩
          refine ⟨(show 0 ≤ (H 64 11) ∧ (H 64 11) < ((603 : Nat) : Int) from by first | omega | (simp (disch := omega) only [w32_i]; omega)), ?_⟩
          refine ⟨fun (c53 : ¬ (H 67 (Int.toNat (H 64 11))) = 10) => ?_, fun (c53 : (H 67 (Int.toNat (H 64 11))) = 10) => ?_⟩
          · skip
            refine sp_X12_comesOut (m := m) (z := 0) (insub (by decide)) (by omega) (by omega) (by omega) (by omega) ?_
            have cf := cO_fr (z := 0) m H
            have cf11 := cf.2 11 (by decide) (by decide)
            have cf12 := cf.2 12 (by decide) (by decide)
            have hA43 := h43 0 (by omega)
            generalize hA : cO 0 m H = A at *
            refine (show W2 o_X12 M_X12_expression (inN [64, 72, 73, 74, 75, 76, 77, 78, 79, 80, 81, 82, 83, 84, 85, 86, 87, 88, 89, 90, 91, 92, 93]) (q + 5) Q 332 [some (mR 69), some (mI B), some (mI 1), none, some (mI (H 67 (Int.toNat (H 64 11))))] [] A from ?_)
            refine w2_vc [12, 200, 222, 232, 242, 246, 304, 332, 343, 353, 357] 400 oo_X12 q_X12_expression ?_
            refine ⟨(show 0 ≤ (A 64 43) ∧ (A 64 43) < ((48 : Nat) : Int) from by first | omega | (simp (disch := omega) only [w32_i]; omega)), ?_⟩
            refine (show W2 o_X12 M_X12_expression (inN [64, 72, 73, 74, 75, 76, 77, 78, 79, 80, 81, 82, 83, 84, 85, 86, 87, 88, 89, 90, 91, 92, 93]) (q + 5) Q 343 [some (mR 69), some (mI B), some (mI 1), none, some (mI (H 67 (Int.toNat (H 64 11))))] [] (gs A 93 (Int.toNat (A 64 43)) (H 67 (Int.toNat (H 64 11)))) from ?_)
            refine w2_vc [12, 200, 222, 232, 242, 246, 304, 332, 343, 353, 357] 400 oo_X12 q_X12_expression ?_
            refine (show W2 o_X12 M_X12_expression (inN [64, 72, 73, 74, 75, 76, 77, 78, 79, 80, 81, 82, 83, 84, 85, 86, 87, 88, 89, 90, 91, 92, 93]) (q + 5) Q 353 [some (mR 69), some (mI B), some (mI 1), none, some (mI (H 67 (Int.toNat (H 64 11))))] [] (gs (gs A 93 (Int.toNat (A 64 43)) (H 67 (Int.toNat (H 64 11)))) 64 43 (w32 ((A 64 43) + 1))) from ?_)
            refine w2_vc [12, 200, 222, 232, 242, 246, 304, 332, 343, 353, 357] 400 oo_X12 q_X12_expression ?_
            refine sp_X12_next (by first | omega | (simp (disch := decide) only [gs_ne, gs_at_ne, gs_at]; omega)) (insub (by decide)) ?_
            have c56 := fx_next (gs (gs A 93 (Int.toNat (A 64 43)) (H 67 (Int.toNat (H 64 11)))) 64 43 (w32 ((A 64 43) + 1)))
            refine (show W2 o_X12 M_X12_expression (inN [64, 72, 73, 74, 75, 76, 77, 78, 79, 80, 81, 82, 83, 84, 85, 86, 87, 88, 89, 90, 91, 92, 93]) (q + 5) Q 357 [some (mR 69), some (mI B), some (mI 1), none, some (mI (H 67 (Int.toNat (H 64 11))))] [] (e_X12_next (gs (gs A 93 (Int.toNat (A 64 43)) (H 67 (Int.toNat (H 64 11)))) 64 43 (w32 ((A 64 43) + 1))) ) from ?_)
            refine w2_vc [12, 200, 222, 232, 242, 246, 304, 332, 343, 353, 357] 400 oo_X12 q_X12_expression ?_
            refine (show W2 o_X12 M_X12_expression (inN [64, 72, 73, 74, 75, 76, 77, 78, 79, 80, 81, 82, 83, 84, 85, 86, 87, 88, 89, 90, 91, 92, 93]) (q + 5) Q 12 [some (mR 69), some (mI B), some (mI 1), none, some (mI (H 67 (Int.toNat (H 64 11))))] [] (e_X12_next (gs (gs A 93 (Int.toNat (A 64 43)) (H 67 (Int.toNat (H 64 11)))) 64 43 (w32 ((A 64 43) + 1))) ) from ?_)
            refine WP.fg (L' := [some (mR 69), some (mI B), some (mI 1), none, none]) ⟨rfl, rfl, rfl, trivial⟩ ?_
            exact h4 0 (by omega) (by omega) (by omega) (by omega) A hA
          · skip
            refine sp_X12_comesOut (m := m) (z := 1) (insub (by decide)) (by omega) (by omega) (by omega) (by omega) ?_
            have cf := cO_fr (z := 1) m H
            have cf11 := cf.2 11 (by decide) (by decide)
            have cf12 := cf.2 12 (by decide) (by decide)
            have hA43 := h43 1 (by omega)
            generalize hA : cO 1 m H = A at *
            refine (show W2 o_X12 M_X12_expression (inN [64, 72, 73, 74, 75, 76, 77, 78, 79, 80, 81, 82, 83, 84, 85, 86, 87, 88, 89, 90, 91, 92, 93]) (q + 5) Q 332 [some (mR 69), some (mI B), some (mI 1), none, some (mI (H 67 (Int.toNat (H 64 11))))] [] A from ?_)
            refine w2_vc [12, 200, 222, 232, 242, 246, 304, 332, 343, 353, 357] 400 oo_X12 q_X12_expression ?_
            refine ⟨(show 0 ≤ (A 64 43) ∧ (A 64 43) < ((48 : Nat) : Int) from by first | omega | (simp (disch := omega) only [w32_i]; omega)), ?_⟩
            refine (show W2 o_X12 M_X12_expression (inN [64, 72, 73, 74, 75, 76, 77, 78, 79, 80, 81, 82, 83, 84, 85, 86, 87, 88, 89, 90, 91, 92, 93]) (q + 5) Q 343 [some (mR 69), some (mI B), some (mI 1), none, some (mI (H 67 (Int.toNat (H 64 11))))] [] (gs A 93 (Int.toNat (A 64 43)) (H 67 (Int.toNat (H 64 11)))) from ?_)
            refine w2_vc [12, 200, 222, 232, 242, 246, 304, 332, 343, 353, 357] 400 oo_X12 q_X12_expression ?_
            refine (show W2 o_X12 M_X12_expression (inN [64, 72, 73, 74, 75, 76, 77, 78, 79, 80, 81, 82, 83, 84, 85, 86, 87, 88, 89, 90, 91, 92, 93]) (q + 5) Q 353 [some (mR 69), some (mI B), some (mI 1), none, some (mI (H 67 (Int.toNat (H 64 11))))] [] (gs (gs A 93 (Int.toNat (A 64 43)) (H 67 (Int.toNat (H 64 11)))) 64 43 (w32 ((A 64 43) + 1))) from ?_)
            refine w2_vc [12, 200, 222, 232, 242, 246, 304, 332, 343, 353, 357] 400 oo_X12 q_X12_expression ?_
            refine sp_X12_next (by first | omega | (simp (disch := decide) only [gs_ne, gs_at_ne, gs_at]; omega)) (insub (by decide)) ?_
            have c59 := fx_next (gs (gs A 93 (Int.toNat (A 64 43)) (H 67 (Int.toNat (H 64 11)))) 64 43 (w32 ((A 64 43) + 1)))
            refine (show W2 o_X12 M_X12_expression (inN [64, 72, 73, 74, 75, 76, 77, 78, 79, 80, 81, 82, 83, 84, 85, 86, 87, 88, 89, 90, 91, 92, 93]) (q + 5) Q 357 [some (mR 69), some (mI B), some (mI 1), none, some (mI (H 67 (Int.toNat (H 64 11))))] [] (e_X12_next (gs (gs A 93 (Int.toNat (A 64 43)) (H 67 (Int.toNat (H 64 11)))) 64 43 (w32 ((A 64 43) + 1))) ) from ?_)
            refine w2_vc [12, 200, 222, 232, 242, 246, 304, 332, 343, 353, 357] 400 oo_X12 q_X12_expression ?_
            refine (show W2 o_X12 M_X12_expression (inN [64, 72, 73, 74, 75, 76, 77, 78, 79, 80, 81, 82, 83, 84, 85, 86, 87, 88, 89, 90, 91, 92, 93]) (q + 5) Q 12 [some (mR 69), some (mI B), some (mI 1), none, some (mI (H 67 (Int.toNat (H 64 11))))] [] (e_X12_next (gs (gs A 93 (Int.toNat (A 64 43)) (H 67 (Int.toNat (H 64 11)))) 64 43 (w32 ((A 64 43) + 1))) ) from ?_)
            refine WP.fg (L' := [some (mR 69), some (mI B), some (mI 1), none, none]) ⟨rfl, rfl, rfl, trivial⟩ ?_
            exact h4 1 (by omega) (by omega) (by omega) (by omega) A hA
        · skip
          refine sp_X12_is (by first | omega | (simp (disch := decide) only [gs_ne, gs_at_ne, gs_at]; omega)) ?_
          have c61 := fa_X12_is H 10
          refine ⟨fun (c62 : (f_X12_is H 10) = 0) => ?_, fun (c62 : ¬ (f_X12_is H 10) = 0) => ?_⟩
          · skip
            refine ⟨fun (c : ¬ (0 : Int) = 0) => absurd c (by decide), fun _ => ?_⟩
            refine ⟨fun (c63 : (H 64 12) ≤ B) => ?_, fun (c63 : B < (H 64 12)) => ?_⟩
            · skip
              refine sp_X12_comesOut (m := m) (z := 0) (insub (by decide)) (by omega) (by omega) (by omega) (by omega) ?_
              have cf := cO_fr (z := 0) m H
              have cf11 := cf.2 11 (by decide) (by decide)
              have cf12 := cf.2 12 (by decide) (by decide)
              have hA43 := h43 0 (by omega)
              generalize hA : cO 0 m H = A at *
              refine (show W2 o_X12 M_X12_expression (inN [64, 72, 73, 74, 75, 76, 77, 78, 79, 80, 81, 82, 83, 84, 85, 86, 87, 88, 89, 90, 91, 92, 93]) (q + 5) Q 304 [some (mR 69), some (mI B), some (mI 0), none, none] [] A from ?_)
              refine w2_vc [12, 200, 222, 232, 242, 246, 304, 332, 343, 353, 357] 400 oo_X12 q_X12_expression ?_
              exact h3 (by omega) (by omega) (by omega)
            · skip
              refine sp_X12_fail (by first | omega | (simp (disch := decide) only [gs_ne, gs_at_ne, gs_at]; omega)) (insub (by decide)) ?_
              have c66 := fx_fail H 1
              have f67 := fx_fail H 1
              refine sp_X12_comesOut (m := m) (z := 0) (insub (by decide)) (by omega) (by omega) (by omega) (by omega) ?_
              have cf := cO_fr (z := 0) m (e_X12_fail H 1)
              have cf11 := cf.2 11 (by decide) (by decide)
              have cf12 := cf.2 12 (by decide) (by decide)
              refine (show W2 o_X12 M_X12_expression (inN [64, 72, 73, 74, 75, 76, 77, 78, 79, 80, 81, 82, 83, 84, 85, 86, 87, 88, 89, 90, 91, 92, 93]) (q + 5) Q 304 [some (mR 69), some (mI B), some (mI 0), none, none] [] (cO 0 m (e_X12_fail H 1)) from ?_)
              refine w2_vc [12, 200, 222, 232, 242, 246, 304, 332, 343, 353, 357] 400 oo_X12 q_X12_expression ?_
              exact h2 (by omega) (by omega) (by omega)
          · skip
            refine ⟨fun _ => ?_, fun (c : (1 : Int) = 0) => absurd c (by decide)⟩
            refine ⟨(show 0 ≤ (H 64 11) ∧ (H 64 11) < ((603 : Nat) : Int) from by first | omega | (simp (disch := omega) only [w32_i]; omega)), ?_⟩
            refine ⟨fun (c68 : ¬ (H 67 (Int.toNat (H 64 11))) = 10) => ?_, fun (c68 : (H 67 (Int.toNat (H 64 11))) = 10) => ?_⟩
            · skip
              refine sp_X12_comesOut (m := m) (z := 0) (insub (by decide)) (by omega) (by omega) (by omega) (by omega) ?_
              have cf := cO_fr (z := 0) m H
              have cf11 := cf.2 11 (by decide) (by decide)
              have cf12 := cf.2 12 (by decide) (by decide)
              have hA43 := h43 0 (by omega)
              generalize hA : cO 0 m H = A at *
              refine (show W2 o_X12 M_X12_expression (inN [64, 72, 73, 74, 75, 76, 77, 78, 79, 80, 81, 82, 83, 84, 85, 86, 87, 88, 89, 90, 91, 92, 93]) (q + 5) Q 332 [some (mR 69), some (mI B), some (mI 1), none, some (mI (H 67 (Int.toNat (H 64 11))))] [] A from ?_)
              refine w2_vc [12, 200, 222, 232, 242, 246, 304, 332, 343, 353, 357] 400 oo_X12 q_X12_expression ?_
              refine ⟨(show 0 ≤ (A 64 43) ∧ (A 64 43) < ((48 : Nat) : Int) from by first | omega | (simp (disch := omega) only [w32_i]; omega)), ?_⟩
              refine (show W2 o_X12 M_X12_expression (inN [64, 72, 73, 74, 75, 76, 77, 78, 79, 80, 81, 82, 83, 84, 85, 86, 87, 88, 89, 90, 91, 92, 93]) (q + 5) Q 343 [some (mR 69), some (mI B), some (mI 1), none, some (mI (H 67 (Int.toNat (H 64 11))))] [] (gs A 93 (Int.toNat (A 64 43)) (H 67 (Int.toNat (H 64 11)))) from ?_)
              refine w2_vc [12, 200, 222, 232, 242, 246, 304, 332, 343, 353, 357] 400 oo_X12 q_X12_expression ?_
              refine (show W2 o_X12 M_X12_expression (inN [64, 72, 73, 74, 75, 76, 77, 78, 79, 80, 81, 82, 83, 84, 85, 86, 87, 88, 89, 90, 91, 92, 93]) (q + 5) Q 353 [some (mR 69), some (mI B), some (mI 1), none, some (mI (H 67 (Int.toNat (H 64 11))))] [] (gs (gs A 93 (Int.toNat (A 64 43)) (H 67 (Int.toNat (H 64 11)))) 64 43 (w32 ((A 64 43) + 1))) from ?_)
              refine w2_vc [12, 200, 222, 232, 242, 246, 304, 332, 343, 353, 357] 400 oo_X12 q_X12_expression ?_
              refine sp_X12_next (by first | omega | (simp (disch := decide) only [gs_ne, gs_at_ne, gs_at]; omega)) (insub (by decide)) ?_
              have c71 := fx_next (gs (gs A 93 (Int.toNat (A 64 43)) (H 67 (Int.toNat (H 64 11)))) 64 43 (w32 ((A 64 43) + 1)))
              refine (show W2 o_X12 M_X12_expression (inN [64, 72, 73, 74, 75, 76, 77, 78, 79, 80, 81, 82, 83, 84, 85, 86, 87, 88, 89, 90, 91, 92, 93]) (q + 5) Q 357 [some (mR 69), some (mI B), some (mI 1), none, some (mI (H 67 (Int.toNat (H 64 11))))] [] (e_X12_next (gs (gs A 93 (Int.toNat (A 64 43)) (H 67 (Int.toNat (H 64 11)))) 64 43 (w32 ((A 64 43) + 1))) ) from ?_)
              refine w2_vc [12, 200, 222, 232, 242, 246, 304, 332, 343, 353, 357] 400 oo_X12 q_X12_expression ?_
              refine (show W2 o_X12 M_X12_expression (inN [64, 72, 73, 74, 75, 76, 77, 78, 79, 80, 81, 82, 83, 84, 85, 86, 87, 88, 89, 90, 91, 92, 93]) (q + 5) Q 12 [some (mR 69), some (mI B), some (mI 1), none, some (mI (H 67 (Int.toNat (H 64 11))))] [] (e_X12_next (gs (gs A 93 (Int.toNat (A 64 43)) (H 67 (Int.toNat (H 64 11)))) 64 43 (w32 ((A 64 43) + 1))) ) from ?_)
              refine WP.fg (L' := [some (mR 69), some (mI B), some (mI 1), none, none]) ⟨rfl, rfl, rfl, trivial⟩ ?_
              exact h4 0 (by omega) (by omega) (by omega) (by omega) A hA
            · skip
              refine sp_X12_comesOut (m := m) (z := 1) (insub (by decide)) (by omega) (by omega) (by omega) (by omega) ?_
              have cf := cO_fr (z := 1) m H
              have cf11 := cf.2 11 (by decide) (by decide)
              have cf12 := cf.2 12 (by decide) (by decide)
              have hA43 := h43 1 (by omega)
              generalize hA : cO 1 m H = A at *
              refine (show W2 o_X12 M_X12_expression (inN [64, 72, 73, 74, 75, 76, 77, 78, 79, 80, 81, 82, 83, 84, 85, 86, 87, 88, 89, 90, 91, 92, 93]) (q + 5) Q 332 [some (mR 69), some (mI B), some (mI 1), none, some (mI (H 67 (Int.toNat (H 64 11))))] [] A from ?_)
              refine w2_vc [12, 200, 222, 232, 242, 246, 304, 332, 343, 353, 357] 400 oo_X12 q_X12_expression ?_
              refine ⟨(show 0 ≤ (A 64 43) ∧ (A 64 43) < ((48 : Nat) : Int) from by first | omega | (simp (disch := omega) only [w32_i]; omega)), ?_⟩
              refine (show W2 o_X12 M_X12_expression (inN [64, 72, 73, 74, 75, 76, 77, 78, 79, 80, 81, 82, 83, 84, 85, 86, 87, 88, 89, 90, 91, 92, 93]) (q + 5) Q 343 [some (mR 69), some (mI B), some (mI 1), none, some (mI (H 67 (Int.toNat (H 64 11))))] [] (gs A 93 (Int.toNat (A 64 43)) (H 67 (Int.toNat (H 64 11)))) from ?_)
              refine w2_vc [12, 200, 222, 232, 242, 246, 304, 332, 343, 353, 357] 400 oo_X12 q_X12_expression ?_
              refine (show W2 o_X12 M_X12_expression (inN [64, 72, 73, 74, 75, 76, 77, 78, 79, 80, 81, 82, 83, 84, 85, 86, 87, 88, 89, 90, 91, 92, 93]) (q + 5) Q 353 [some (mR 69), some (mI B), some (mI 1), none, some (mI (H 67 (Int.toNat (H 64 11))))] [] (gs (gs A 93 (Int.toNat (A 64 43)) (H 67 (Int.toNat (H 64 11)))) 64 43 (w32 ((A 64 43) + 1))) from ?_)
              refine w2_vc [12, 200, 222, 232, 242, 246, 304, 332, 343, 353, 357] 400 oo_X12 q_X12_expression ?_
              refine sp_X12_next (by first | omega | (simp (disch := decide) only [gs_ne, gs_at_ne, gs_at]; omega)) (insub (by decide)) ?_
              have c74 := fx_next (gs (gs A 93 (Int.toNat (A 64 43)) (H 67 (Int.toNat (H 64 11)))) 64 43 (w32 ((A 64 43) + 1)))
              refine (show W2 o_X12 M_X12_expression (inN [64, 72, 73, 74, 75, 76, 77, 78, 79, 80, 81, 82, 83, 84, 85, 86, 87, 88, 89, 90, 91, 92, 93]) (q + 5) Q 357 [some (mR 69), some (mI B), some (mI 1), none, some (mI (H 67 (Int.toNat (H 64 11))))] [] (e_X12_next (gs (gs A 93 (Int.toNat (A 64 43)) (H 67 (Int.toNat (H 64 11)))) 64 43 (w32 ((A 64 43) + 1))) ) from ?_)
              refine w2_vc [12, 200, 222, 232, 242, 246, 304, 332, 343, 353, 357] 400 oo_X12 q_X12_expression ?_
              refine (show W2 o_X12 M_X12_expression (inN [64, 72, 73, 74, 75, 76, 77, 78, 79, 80, 81, 82, 83, 84, 85, 86, 87, 88, 89, 90, 91, 92, 93]) (q + 5) Q 12 [some (mR 69), some (mI B), some (mI 1), none, some (mI (H 67 (Int.toNat (H 64 11))))] [] (e_X12_next (gs (gs A 93 (Int.toNat (A 64 43)) (H 67 (Int.toNat (H 64 11)))) 64 43 (w32 ((A 64 43) + 1))) ) from ?_)
              refine WP.fg (L' := [some (mR 69), some (mI B), some (mI 1), none, none]) ⟨rfl, rfl, rfl, trivial⟩ ?_
              exact h4 1 (by omega) (by omega) (by omega) (by omega) A hA
    · skip
      refine sp_X12_comesOut (m := m) (z := 0) (insub (by decide)) (by omega) (by omega) (by omega) (by omega) ?_
      have cf := cO_fr (z := 0) m H
      have cf11 := cf.2 11 (by decide) (by decide)
      have cf12 := cf.2 12 (by decide) (by decide)
      have hA43 := h43 0 (by omega)
      generalize hA : cO 0 m H = A at *
      refine (show W2 o_X12 M_X12_expression (inN [64, 72, 73, 74, 75, 76, 77, 78, 79, 80, 81, 82, 83, 84, 85, 86, 87, 88, 89, 90, 91, 92, 93]) (q + 5) Q 222 [some (mR 69), some (mI B), none, none, none] [] A from ?_)
      refine w2_vc [12, 200, 222, 232, 242, 246, 304, 332, 343, 353, 357] 400 oo_X12 q_X12_expression ?_
      refine (show W2 o_X12 M_X12_expression (inN [64, 72, 73, 74, 75, 76, 77, 78, 79, 80, 81, 82, 83, 84, 85, 86, 87, 88, 89, 90, 91, 92, 93]) (q + 5) Q 232 [some (mR 69), some (mI B), none, none, none] [] (gs A 64 43 (w32 ((A 64 43) - 1))) from ?_)
      refine w2_vc [12, 200, 222, 232, 242, 246, 304, 332, 343, 353, 357] 400 oo_X12 q_X12_expression ?_
      refine (show W2 o_X12 M_X12_expression (inN [64, 72, 73, 74, 75, 76, 77, 78, 79, 80, 81, 82, 83, 84, 85, 86, 87, 88, 89, 90, 91, 92, 93]) (q + 5) Q 242 [some (mR 69), some (mI B), none, none, none] [] (gs (gs A 64 43 (w32 ((A 64 43) - 1))) 64 12 (w32 ((A 64 12) - 1))) from ?_)
      refine w2_vc [12, 200, 222, 232, 242, 246, 304, 332, 343, 353, 357] 400 oo_X12 q_X12_expression ?_
      refine sp_X12_next (by first | omega | (simp (disch := decide) only [gs_ne, gs_at_ne, gs_at]; omega)) (insub (by decide)) ?_
      have c77 := fx_next (gs (gs A 64 43 (w32 ((A 64 43) - 1))) 64 12 (w32 ((A 64 12) - 1)))
      refine (show W2 o_X12 M_X12_expression (inN [64, 72, 73, 74, 75, 76, 77, 78, 79, 80, 81, 82, 83, 84, 85, 86, 87, 88, 89, 90, 91, 92, 93]) (q + 5) Q 246 [some (mR 69), some (mI B), none, none, none] [] (e_X12_next (gs (gs A 64 43 (w32 ((A 64 43) - 1))) 64 12 (w32 ((A 64 12) - 1))) ) from ?_)
      refine w2_vc [12, 200, 222, 232, 242, 246, 304, 332, 343, 353, 357] 400 oo_X12 q_X12_expression ?_
      refine (show W2 o_X12 M_X12_expression (inN [64, 72, 73, 74, 75, 76, 77, 78, 79, 80, 81, 82, 83, 84, 85, 86, 87, 88, 89, 90, 91, 92, 93]) (q + 5) Q 200 [some (mR 69), some (mI B), none, none, none] [] (e_X12_next (gs (gs A 64 43 (w32 ((A 64 43) - 1))) 64 12 (w32 ((A 64 12) - 1))) ) from ?_)
      exact h1 (by omega) (by omega) (by omega) A rfl
