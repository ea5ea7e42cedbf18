/-! ===== loops: whether a board is lost by what is known ===== -/
/-- one of the first m facts says that board b is lost by fortnight f -/
def fl (kd bd wh : Nat → Int) (b f : Int) : Nat → Bool
  | 0 => false
  | m + 1 => fl kd bd wh b f m || (decide (kd m = 4) && (decide (bd m = b) && decide (wh m ≤ f)))
def b01 (b : Bool) : Int := bif b then 1 else 0
theorem w32_nat {j : Nat} (h : j < 100000) : w32 ((j : Int) + 1) = ((j + 1 : Nat) : Int) := by unfold w32; omega
theorem lp_X3_isLost {D : Nat → Bool} {d : Nat} {G : mG} {b f n : Int} {Q : Option mV → mG → Prop} (hn : 0 ≤ n ∧ n ≤ G 8 4) (hs : G 8 4 ≤ 300) (h : Q (some (mI (b01 (fl (G 9) (G 10) (G 11) b f n.toNat)))) G) :
    ∀ (t j : Nat), j + t = n.toNat → fl (G 9) (G 10) (G 11) b f j = false → W2 o_X3 M_X3_isLost D (d + 2) Q 3 [some (mR 13), some (mI b), some (mI f), some (mI n), some (mI (j : Int))] [] G := by
  intro t
  induction t with
  | zero =>
    intro j hj hf
    refine w2_vc [3] 200 oo_X3 q_X3_isLost ?_
    refine ⟨fun (c1 : n ≤ (j : Int)) => ?_, fun (c1 : (j : Int) < n) => absurd c1 (by omega)⟩
    have e : n.toNat = j := by omega
    rw [e, hf] at h
    exact ⟨Or.inl rfl, h⟩
  | succ t ih =>
    intro j hj hf
    have hj3 : j < 300 := by omega
    have next : fl (G 9) (G 10) (G 11) b f (j + 1) = false → W2 o_X3 M_X3_isLost D (d + 2) Q 3 [some (mR 13), some (mI b), some (mI f), some (mI n), some (mI (w32 ((j : Int) + 1)))] [] G := by
      intro hf2
      rw [w32_nat (by omega)]
      exact ih (j + 1) (by omega) hf2
    have st : ∀ k : Nat, Int.toNat (k : Int) = k := fun k => Int.toNat_natCast k
    refine w2_vc [3] 200 oo_X3 q_X3_isLost ?_
    refine ⟨fun (c1 : n ≤ (j : Int)) => absurd c1 (by omega), fun (c1 : (j : Int) < n) => ?_⟩
    refine sp_X3_has ?_
    have c2 := fa_X3_has G (j : Int)
    refine ⟨fun (c3 : f_X3_has G (j : Int) = 0) => absurd c3 (by omega), fun _ => ?_⟩
    refine ⟨(show 0 ≤ (j : Int) ∧ (j : Int) < ((300 : Nat) : Int) from by omega), ?_⟩
    refine ⟨fun (c4 : ¬ G 9 (Int.toNat (j : Int)) = 4) => next ?_, fun (c4 : G 9 (Int.toNat (j : Int)) = 4) => ?_⟩
    · rw [st] at c4; simp [fl, hf, c4]
    refine ⟨(show 0 ≤ (j : Int) ∧ (j : Int) < ((300 : Nat) : Int) from by omega), ?_⟩
    refine ⟨fun (c5 : ¬ G 10 (Int.toNat (j : Int)) = b) => next ?_, fun (c5 : G 10 (Int.toNat (j : Int)) = b) => ?_⟩
    · rw [st] at c5; simp [fl, hf, c5]
    refine ⟨(show 0 ≤ (j : Int) ∧ (j : Int) < ((300 : Nat) : Int) from by omega), ?_⟩
    refine ⟨fun (c6 : f < G 11 (Int.toNat (j : Int))) => next ?_, fun (c6 : G 11 (Int.toNat (j : Int)) ≤ f) => ?_⟩
    · rw [st] at c6
      have : ¬ G 11 j ≤ f := by omega
      simp [fl, hf, this]
    · rw [st] at c4 c5 c6
      have e1 : fl (G 9) (G 10) (G 11) b f (j + 1) = true := by simp [fl, c4, c5, c6]
      have e2 : ∀ k, fl (G 9) (G 10) (G 11) b f (j + 1 + k) = true := by
        intro k
        induction k with
        | zero => exact e1
        | succ k ih2 => show (fl (G 9) (G 10) (G 11) b f (j + 1 + k) || _) = true; rw [ih2]; rfl
      have e3 : n.toNat = j + 1 + (n.toNat - (j + 1)) := by omega
      rw [e3, e2] at h
      exact ⟨Or.inr rfl, h⟩
theorem sp_X3_isLost {D : Nat → Bool} {d : Nat} {G : mG} {b f n : Int} {Q : Option mV → mG → Prop} (hn : 0 ≤ n ∧ n ≤ G 8 4) (hs : G 8 4 ≤ 300) (h : Q (some (mI (b01 (fl (G 9) (G 10) (G 11) b f n.toNat)))) G) : P2 D (d + 2) M_X3_isLost [mR 13, mI b, mI f, mI n] G Q :=
  p2_vc [3] 20 oo_X3 q_X3_isLost (by decide) rfl (Nat.le_of_ble_eq_true rfl) (lp_X3_isLost hn hs h n.toNat 0 (by omega) rfl)
