/-! ===== printed by wip/whole/gen25.py: the parser ===== -/
def e_X7_stop (G : mG) (x : Int) : mG := (gs (gs (gs G 15 10 x) 15 11 (f_X10_start (gs G 15 10 x) )) 15 8 (-1))
theorem frp_X7_stop_15 {G : mG} {x : Int} {i : Nat} (hj : ∀ a ∈ ([8, 10, 11] : List Nat), i ≠ a) : (e_X7_stop G x) 15 i = G 15 i := by
  unfold e_X7_stop
  repeat' with_reducible first | apply ite_f | apply ite_f2 | apply ite_p | apply ite_p2
  all_goals first | (simp only [gs_at_ne (hj 8 (by simp)), gs_at_ne (hj 10 (by simp)), gs_at_ne (hj 11 (by simp))]; done) | rfl
theorem fr_X7_stop {G : mG} {x : Int} {k : Nat} (hk : ∀ a ∈ ([15] : List Nat), k ≠ a) : (e_X7_stop G x) k = G k := by
  unfold e_X7_stop
  repeat' with_reducible first | apply ite_f | apply ite_f2 | apply ite_p | apply ite_p2
  all_goals first | (simp only [gs_ne (hk (15) (by simp))]; done) | rfl
theorem sp_X7_stop {D : Nat → Bool} {d : Nat} {G : mG} {x : Int} {Q : Option mV → mG → Prop} (hD : ∀ k, D k = false → inN [15] k = false) (h : Q none (e_X7_stop G x)) : P2 D (d + 2) M_X7_stop [mR 20, mI x] G Q := by
  unfold e_X7_stop at h
  refine MP.to (D2 := inN [15]) (Q2 := Q) ?_ hD (fun v G' q _ => q)
  refine p2_vc [5, 16, 21] 400 oo_X7 q_X7_stop (by decide) rfl (Nat.le_of_ble_eq_true rfl) ?_
  refine (show W2 o_X7 M_X7_stop (inN [15]) (d + 2) Q 5 [some (mR 20), some (mI x)] [] (gs G 15 10 x) from ?_)
  refine w2_vc [5, 16, 21] 400 oo_X7 q_X7_stop ?_
  refine sp_X10_start  ?_
  refine (show W2 o_X7 M_X7_stop (inN [15]) (d + 2) Q 16 [some (mR 20), some (mI x)] [] (gs (gs G 15 10 x) 15 11 (f_X10_start (gs G 15 10 x) )) from ?_)
  refine w2_vc [5, 16, 21] 400 oo_X7 q_X7_stop ?_
  refine (show W2 o_X7 M_X7_stop (inN [15]) (d + 2) Q 21 [some (mR 20), some (mI x)] [] (gs (gs (gs G 15 10 x) 15 11 (f_X10_start (gs G 15 10 x) )) 15 8 (-1)) from ?_)
  refine w2_vc [5, 16, 21] 400 oo_X7 q_X7_stop ?_
  exact h
def e_X7_blameIf (G : mG) (x : Int) (y : Int) : mG := (if x = 0 then G else (e_X7_blame G y (f_X10_start G )))
theorem frp_X7_blameIf_15 {G : mG} {x : Int} {y : Int} {i : Nat} (hj : ∀ a ∈ ([10, 11] : List Nat), i ≠ a) : (e_X7_blameIf G x y) 15 i = G 15 i := by
  unfold e_X7_blameIf
  repeat' with_reducible first | apply ite_f | apply ite_f2 | apply ite_p | apply ite_p2
  all_goals first | (simp only [gs_at_ne (hj 10 (by simp)), gs_at_ne (hj 11 (by simp)), frp_X7_blame_15 (fun a ha => hj a (by simp only [List.mem_cons, List.not_mem_nil, or_false] at ha ⊢; omega))]; done) | rfl
theorem fr_X7_blameIf {G : mG} {x : Int} {y : Int} {k : Nat} (hk : ∀ a ∈ ([15] : List Nat), k ≠ a) : (e_X7_blameIf G x y) k = G k := by
  unfold e_X7_blameIf
  repeat' with_reducible first | apply ite_f | apply ite_f2 | apply ite_p | apply ite_p2
  all_goals first | (simp only [gs_ne (hk (15) (by simp)), fr_X7_blame (fun a ha => hk a (by simp only [List.mem_cons, List.not_mem_nil, or_false] at ha ⊢; omega))]; done) | rfl
theorem sp_X7_blameIf {D : Nat → Bool} {d : Nat} {G : mG} {x : Int} {y : Int} {Q : Option mV → mG → Prop} (hD : ∀ k, D k = false → inN [15] k = false) (h : Q none (e_X7_blameIf G x y)) : P2 D (d + 2) M_X7_blameIf [mR 20, mI x, mI y] G Q := by
  unfold e_X7_blameIf at h
  refine MP.to (D2 := inN [15]) (Q2 := Q) ?_ hD (fun v G' q _ => q)
  refine p2_vc [] 400 oo_X7 q_X7_blameIf (by decide) rfl (Nat.le_of_ble_eq_true rfl) ?_
  refine ⟨fun (c1 : x = 0) => ?_, fun (c1 : ¬ x = 0) => ?_⟩
  · rw [if_pos c1] at h
    exact h
  · rw [if_neg (c1)] at h
    refine sp_X10_start  ?_
    refine sp_X7_blame  (insub (by decide)) ?_
    exact h
def f_X7_followInCampaign (G : mG) (x : Int) : Int := (if x = 17 then 1 else (if x = 18 then 9 else (if x = 21 then 17 else (if x = 22 then 14 else (if x = 23 then 15 else (-1))))))
theorem sp_X7_followInCampaign {D : Nat → Bool} {d : Nat} {G : mG} {x : Int} {Q : Option mV → mG → Prop} (h : Q (some (mI (f_X7_followInCampaign G x))) G) : P2 D (d + 1) M_X7_followInCampaign [mI x] G Q := by
  unfold f_X7_followInCampaign at h
  refine p2_vc [] 400 oo_X7 q_X7_followInCampaign (by decide) rfl (Nat.le_of_ble_eq_true rfl) ?_
  refine ⟨fun (c1 : x < 17 ∨ 23 < x) => ?_, fun (c1 : x = 17) => ?_, fun (c1 : x = 18) => ?_, fun (c1 : x = 19) => ?_, fun (c1 : x = 20) => ?_, fun (c1 : x = 21) => ?_, fun (c1 : x = 22) => ?_, fun (c1 : x = 23) => ?_, trivial⟩
  · skip
    rw [if_neg (show ¬ x = 17 from by omega)] at h
    rw [if_neg (show ¬ x = 18 from by omega)] at h
    rw [if_neg (show ¬ x = 21 from by omega)] at h
    rw [if_neg (show ¬ x = 22 from by omega)] at h
    rw [if_neg (show ¬ x = 23 from by omega)] at h
    exact h
  · skip
    rw [if_pos c1] at h
    exact h
  · skip
    rw [if_neg (show ¬ x = 17 from by omega)] at h
    rw [if_pos c1] at h
    exact h
  · skip
    rw [if_neg (show ¬ x = 17 from by omega)] at h
    rw [if_neg (show ¬ x = 18 from by omega)] at h
    rw [if_neg (show ¬ x = 21 from by omega)] at h
    rw [if_neg (show ¬ x = 22 from by omega)] at h
    rw [if_neg (show ¬ x = 23 from by omega)] at h
    exact h
  · skip
    rw [if_neg (show ¬ x = 17 from by omega)] at h
    rw [if_neg (show ¬ x = 18 from by omega)] at h
    rw [if_neg (show ¬ x = 21 from by omega)] at h
    rw [if_neg (show ¬ x = 22 from by omega)] at h
    rw [if_neg (show ¬ x = 23 from by omega)] at h
    exact h
  · skip
    rw [if_neg (show ¬ x = 17 from by omega)] at h
    rw [if_neg (show ¬ x = 18 from by omega)] at h
    rw [if_pos c1] at h
    exact h
  · skip
    rw [if_neg (show ¬ x = 17 from by omega)] at h
    rw [if_neg (show ¬ x = 18 from by omega)] at h
    rw [if_neg (show ¬ x = 21 from by omega)] at h
    rw [if_pos c1] at h
    exact h
  · skip
    rw [if_neg (show ¬ x = 17 from by omega)] at h
    rw [if_neg (show ¬ x = 18 from by omega)] at h
    rw [if_neg (show ¬ x = 21 from by omega)] at h
    rw [if_neg (show ¬ x = 22 from by omega)] at h
    rw [if_pos c1] at h
    exact h
def f_X7_followUnit (G : mG) (x : Int) : Int := (if ¬ x = 5 then (if x = 3 then 21 else (if (f_X6_isVariable G x) = 0 then (-1) else 21)) else 20)
theorem sp_X7_followUnit {D : Nat → Bool} {d : Nat} {G : mG} {x : Int} {Q : Option mV → mG → Prop} (h : Q (some (mI (f_X7_followUnit G x))) G) : P2 D (d + 2) M_X7_followUnit [mI x] G Q := by
  unfold f_X7_followUnit at h
  refine p2_vc [] 400 oo_X7 q_X7_followUnit (by decide) rfl (Nat.le_of_ble_eq_true rfl) ?_
  refine ⟨fun (c1 : ¬ x = 5) => ?_, fun (c1 : x = 5) => ?_⟩
  · rw [if_pos c1] at h
    refine ⟨fun (c2 : x = 3) => ?_, fun (c2 : ¬ x = 3) => ?_⟩
    · rw [if_pos c2] at h
      exact h
    · rw [if_neg (c2)] at h
      refine sp_X6_isVariable  ?_
      refine ⟨fun (c4 : (f_X6_isVariable G x) = 0) => ?_, fun (c4 : ¬ (f_X6_isVariable G x) = 0) => ?_⟩
      · rw [if_pos c4] at h
        exact h
      · rw [if_neg (c4)] at h
        exact h
  · rw [if_neg (fun q => q c1)] at h
    exact h
def f_X7_followLiteral (G : mG) (x : Int) : Int := (if x = 26 then 17 else (if ¬ x = 25 then (f_X7_step G x 4 8) else 17))
theorem sp_X7_followLiteral {D : Nat → Bool} {d : Nat} {G : mG} {x : Int} {Q : Option mV → mG → Prop} (h : Q (some (mI (f_X7_followLiteral G x))) G) : P2 D (d + 2) M_X7_followLiteral [mI x] G Q := by
  unfold f_X7_followLiteral at h
  refine p2_vc [] 400 oo_X7 q_X7_followLiteral (by decide) rfl (Nat.le_of_ble_eq_true rfl) ?_
  refine ⟨fun (c1 : x = 26) => ?_, fun (c1 : ¬ x = 26) => ?_⟩
  · rw [if_pos c1] at h
    exact h
  · rw [if_neg (c1)] at h
    refine ⟨fun (c2 : ¬ x = 25) => ?_, fun (c2 : x = 25) => ?_⟩
    · rw [if_pos c2] at h
      refine sp_X7_step  ?_
      exact h
    · rw [if_neg (fun q => q c2)] at h
      exact h
def f_X7_followBehindUnit (G : mG) (x : Int) : Int := (if (f_X6_rankOf G x) < 4 then (if (G 15 6) ≤ 0 then (if ¬ (G 15 7) = 0 then (f_X7_followLiteral G x) else (f_X7_step G (f_X6_rankOf G x) 3 20)) else (f_X7_step G x 6 21)) else 20)
theorem sp_X7_followBehindUnit {D : Nat → Bool} {d : Nat} {G : mG} {x : Int} {Q : Option mV → mG → Prop} (h : Q (some (mI (f_X7_followBehindUnit G x))) G) : P2 D (d + 3) M_X7_followBehindUnit [mR 20, mI x] G Q := by
  unfold f_X7_followBehindUnit at h
  refine p2_vc [] 400 oo_X7 q_X7_followBehindUnit (by decide) rfl (Nat.le_of_ble_eq_true rfl) ?_
  refine sp_X6_rankOf  ?_
  refine ⟨fun (c2 : (f_X6_rankOf G x) < 4) => ?_, fun (c2 : 4 ≤ (f_X6_rankOf G x)) => ?_⟩
  · rw [if_pos c2] at h
    refine ⟨fun (c3 : (G 15 6) ≤ 0) => ?_, fun (c3 : 0 < (G 15 6)) => ?_⟩
    · rw [if_pos c3] at h
      refine ⟨fun (c4 : ¬ (G 15 7) = 0) => ?_, fun (c4 : (G 15 7) = 0) => ?_⟩
      · rw [if_pos c4] at h
        refine sp_X7_followLiteral  ?_
        exact h
      · rw [if_neg (fun q => q c4)] at h
        refine sp_X7_step  ?_
        exact h
    · rw [if_neg (Int.not_le.mpr c3)] at h
      refine sp_X7_step  ?_
      exact h
  · rw [if_neg (Int.not_lt.mpr c2)] at h
    exact h
def f_X7_followInCondition (G : mG) (x : Int) : Int := (if (G 15 8) = 17 then (if ¬ x = 27 then (f_X7_followUnit G x) else 18) else (if (G 15 8) = 18 then (f_X7_step G x 3 19) else (if (G 15 8) = 19 then (f_X7_followLiteral G x) else (if (G 15 8) = 20 then (f_X7_followUnit G x) else (if (G 15 8) = 21 then (f_X7_followBehindUnit G x) else (-1))))))
theorem sp_X7_followInCondition {D : Nat → Bool} {d : Nat} {G : mG} {x : Int} {Q : Option mV → mG → Prop} (h : Q (some (mI (f_X7_followInCondition G x))) G) : P2 D (d + 4) M_X7_followInCondition [mR 20, mI x] G Q := by
  unfold f_X7_followInCondition at h
  refine p2_vc [] 400 oo_X7 q_X7_followInCondition (by decide) rfl (Nat.le_of_ble_eq_true rfl) ?_
  refine ⟨fun (c1 : (G 15 8) < 17 ∨ 21 < (G 15 8)) => ?_, fun (c1 : (G 15 8) = 17) => ?_, fun (c1 : (G 15 8) = 18) => ?_, fun (c1 : (G 15 8) = 19) => ?_, fun (c1 : (G 15 8) = 20) => ?_, fun (c1 : (G 15 8) = 21) => ?_, trivial⟩
  · skip
    rw [if_neg (show ¬ (G 15 8) = 17 from by omega)] at h
    rw [if_neg (show ¬ (G 15 8) = 18 from by omega)] at h
    rw [if_neg (show ¬ (G 15 8) = 19 from by omega)] at h
    rw [if_neg (show ¬ (G 15 8) = 20 from by omega)] at h
    rw [if_neg (show ¬ (G 15 8) = 21 from by omega)] at h
    exact h
  · skip
    rw [if_pos c1] at h
    refine ⟨fun (c2 : ¬ x = 27) => ?_, fun (c2 : x = 27) => ?_⟩
    · rw [if_pos c2] at h
      refine sp_X7_followUnit  ?_
      exact h
    · rw [if_neg (fun q => q c2)] at h
      exact h
  · skip
    rw [if_neg (show ¬ (G 15 8) = 17 from by omega)] at h
    rw [if_pos c1] at h
    refine sp_X7_step  ?_
    exact h
  · skip
    rw [if_neg (show ¬ (G 15 8) = 17 from by omega)] at h
    rw [if_neg (show ¬ (G 15 8) = 18 from by omega)] at h
    rw [if_pos c1] at h
    refine sp_X7_followLiteral  ?_
    exact h
  · skip
    rw [if_neg (show ¬ (G 15 8) = 17 from by omega)] at h
    rw [if_neg (show ¬ (G 15 8) = 18 from by omega)] at h
    rw [if_neg (show ¬ (G 15 8) = 19 from by omega)] at h
    rw [if_pos c1] at h
    refine sp_X7_followUnit  ?_
    exact h
  · skip
    rw [if_neg (show ¬ (G 15 8) = 17 from by omega)] at h
    rw [if_neg (show ¬ (G 15 8) = 18 from by omega)] at h
    rw [if_neg (show ¬ (G 15 8) = 19 from by omega)] at h
    rw [if_neg (show ¬ (G 15 8) = 20 from by omega)] at h
    rw [if_pos c1] at h
    refine sp_X7_followBehindUnit  ?_
    exact h
def f_X7_follow (G : mG) (x : Int) : Int := (if (G 15 8) = 1 then (if ¬ x = 1 then (f_X7_step G x 14 2) else 0) else (if (G 15 8) = 2 then (f_X7_step G x 2 3) else (if (G 15 8) = 3 then (f_X7_step G x 15 4) else (if (G 15 8) = 4 then (f_X7_step G x 3 5) else (if (G 15 8) = 5 then (f_X7_step G x 16 6) else (if (G 15 8) = 6 then (f_X7_step G x 3 7) else (if (G 15 8) = 7 then (f_X7_step G x 4 8) else (if (G 15 8) = 8 then (f_X7_followInCampaign G x) else (if (G 15 8) = 9 then (f_X7_step G x 3 10) else (if (G 15 8) = 10 then (f_X7_step G x 19 11) else (if (G 15 8) = 11 then (f_X7_step G x 3 12) else (if (G 15 8) = 12 then (f_X7_step G x 20 13) else (if (G 15 8) = 13 then (f_X7_step G x 3 7) else (if (G 15 8) = 14 then (f_X7_step G x 2 7) else (if (G 15 8) = 15 then (f_X7_step G x 3 16) else (if (G 15 8) = 16 then (f_X7_step G x 24 17) else (f_X7_followInCondition G x)))))))))))))))))
set_option maxHeartbeats 8000000 in
theorem sp_X7_follow {D : Nat → Bool} {d : Nat} {G : mG} {x : Int} {Q : Option mV → mG → Prop} (h : Q (some (mI (f_X7_follow G x))) G) : P2 D (d + 5) M_X7_follow [mR 20, mI x] G Q := by
  unfold f_X7_follow at h
  refine p2_vc [] 400 oo_X7 q_X7_follow (by decide) rfl (Nat.le_of_ble_eq_true rfl) ?_
  refine ⟨fun (c1 : (G 15 8) < 1 ∨ 16 < (G 15 8)) => ?_, fun (c1 : (G 15 8) = 1) => ?_, fun (c1 : (G 15 8) = 2) => ?_, fun (c1 : (G 15 8) = 3) => ?_, fun (c1 : (G 15 8) = 4) => ?_, fun (c1 : (G 15 8) = 5) => ?_, fun (c1 : (G 15 8) = 6) => ?_, fun (c1 : (G 15 8) = 7) => ?_, fun (c1 : (G 15 8) = 8) => ?_, fun (c1 : (G 15 8) = 9) => ?_, fun (c1 : (G 15 8) = 10) => ?_, fun (c1 : (G 15 8) = 11) => ?_, fun (c1 : (G 15 8) = 12) => ?_, fun (c1 : (G 15 8) = 13) => ?_, fun (c1 : (G 15 8) = 14) => ?_, fun (c1 : (G 15 8) = 15) => ?_, fun (c1 : (G 15 8) = 16) => ?_, trivial⟩
  · skip
    rw [if_neg (show ¬ (G 15 8) = 1 from by omega)] at h
    rw [if_neg (show ¬ (G 15 8) = 2 from by omega)] at h
    rw [if_neg (show ¬ (G 15 8) = 3 from by omega)] at h
    rw [if_neg (show ¬ (G 15 8) = 4 from by omega)] at h
    rw [if_neg (show ¬ (G 15 8) = 5 from by omega)] at h
    rw [if_neg (show ¬ (G 15 8) = 6 from by omega)] at h
    rw [if_neg (show ¬ (G 15 8) = 7 from by omega)] at h
    rw [if_neg (show ¬ (G 15 8) = 8 from by omega)] at h
    rw [if_neg (show ¬ (G 15 8) = 9 from by omega)] at h
    rw [if_neg (show ¬ (G 15 8) = 10 from by omega)] at h
    rw [if_neg (show ¬ (G 15 8) = 11 from by omega)] at h
    rw [if_neg (show ¬ (G 15 8) = 12 from by omega)] at h
    rw [if_neg (show ¬ (G 15 8) = 13 from by omega)] at h
    rw [if_neg (show ¬ (G 15 8) = 14 from by omega)] at h
    rw [if_neg (show ¬ (G 15 8) = 15 from by omega)] at h
    rw [if_neg (show ¬ (G 15 8) = 16 from by omega)] at h
    refine sp_X7_followInCondition  ?_
    exact h
  · skip
    rw [if_pos c1] at h
    refine ⟨fun (c3 : ¬ x = 1) => ?_, fun (c3 : x = 1) => ?_⟩
    · rw [if_pos c3] at h
      refine sp_X7_step  ?_
      exact h
    · rw [if_neg (fun q => q c3)] at h
      exact h
  · skip
    rw [if_neg (show ¬ (G 15 8) = 1 from by omega)] at h
    rw [if_pos c1] at h
    refine sp_X7_step  ?_
    exact h
  · skip
    rw [if_neg (show ¬ (G 15 8) = 1 from by omega)] at h
    rw [if_neg (show ¬ (G 15 8) = 2 from by omega)] at h
    rw [if_pos c1] at h
    refine sp_X7_step  ?_
    exact h
  · skip
    rw [if_neg (show ¬ (G 15 8) = 1 from by omega)] at h
    rw [if_neg (show ¬ (G 15 8) = 2 from by omega)] at h
    rw [if_neg (show ¬ (G 15 8) = 3 from by omega)] at h
    rw [if_pos c1] at h
    refine sp_X7_step  ?_
    exact h
  · skip
    rw [if_neg (show ¬ (G 15 8) = 1 from by omega)] at h
    rw [if_neg (show ¬ (G 15 8) = 2 from by omega)] at h
    rw [if_neg (show ¬ (G 15 8) = 3 from by omega)] at h
    rw [if_neg (show ¬ (G 15 8) = 4 from by omega)] at h
    rw [if_pos c1] at h
    refine sp_X7_step  ?_
    exact h
  · skip
    rw [if_neg (show ¬ (G 15 8) = 1 from by omega)] at h
    rw [if_neg (show ¬ (G 15 8) = 2 from by omega)] at h
    rw [if_neg (show ¬ (G 15 8) = 3 from by omega)] at h
    rw [if_neg (show ¬ (G 15 8) = 4 from by omega)] at h
    rw [if_neg (show ¬ (G 15 8) = 5 from by omega)] at h
    rw [if_pos c1] at h
    refine sp_X7_step  ?_
    exact h
  · skip
    rw [if_neg (show ¬ (G 15 8) = 1 from by omega)] at h
    rw [if_neg (show ¬ (G 15 8) = 2 from by omega)] at h
    rw [if_neg (show ¬ (G 15 8) = 3 from by omega)] at h
    rw [if_neg (show ¬ (G 15 8) = 4 from by omega)] at h
    rw [if_neg (show ¬ (G 15 8) = 5 from by omega)] at h
    rw [if_neg (show ¬ (G 15 8) = 6 from by omega)] at h
    rw [if_pos c1] at h
    refine sp_X7_step  ?_
    exact h
  · skip
    rw [if_neg (show ¬ (G 15 8) = 1 from by omega)] at h
    rw [if_neg (show ¬ (G 15 8) = 2 from by omega)] at h
    rw [if_neg (show ¬ (G 15 8) = 3 from by omega)] at h
    rw [if_neg (show ¬ (G 15 8) = 4 from by omega)] at h
    rw [if_neg (show ¬ (G 15 8) = 5 from by omega)] at h
    rw [if_neg (show ¬ (G 15 8) = 6 from by omega)] at h
    rw [if_neg (show ¬ (G 15 8) = 7 from by omega)] at h
    rw [if_pos c1] at h
    refine sp_X7_followInCampaign  ?_
    exact h
  · skip
    rw [if_neg (show ¬ (G 15 8) = 1 from by omega)] at h
    rw [if_neg (show ¬ (G 15 8) = 2 from by omega)] at h
    rw [if_neg (show ¬ (G 15 8) = 3 from by omega)] at h
    rw [if_neg (show ¬ (G 15 8) = 4 from by omega)] at h
    rw [if_neg (show ¬ (G 15 8) = 5 from by omega)] at h
    rw [if_neg (show ¬ (G 15 8) = 6 from by omega)] at h
    rw [if_neg (show ¬ (G 15 8) = 7 from by omega)] at h
    rw [if_neg (show ¬ (G 15 8) = 8 from by omega)] at h
    rw [if_pos c1] at h
    refine sp_X7_step  ?_
    exact h
  · skip
    rw [if_neg (show ¬ (G 15 8) = 1 from by omega)] at h
    rw [if_neg (show ¬ (G 15 8) = 2 from by omega)] at h
    rw [if_neg (show ¬ (G 15 8) = 3 from by omega)] at h
    rw [if_neg (show ¬ (G 15 8) = 4 from by omega)] at h
    rw [if_neg (show ¬ (G 15 8) = 5 from by omega)] at h
    rw [if_neg (show ¬ (G 15 8) = 6 from by omega)] at h
    rw [if_neg (show ¬ (G 15 8) = 7 from by omega)] at h
    rw [if_neg (show ¬ (G 15 8) = 8 from by omega)] at h
    rw [if_neg (show ¬ (G 15 8) = 9 from by omega)] at h
    rw [if_pos c1] at h
    refine sp_X7_step  ?_
    exact h
  · skip
    rw [if_neg (show ¬ (G 15 8) = 1 from by omega)] at h
    rw [if_neg (show ¬ (G 15 8) = 2 from by omega)] at h
    rw [if_neg (show ¬ (G 15 8) = 3 from by omega)] at h
    rw [if_neg (show ¬ (G 15 8) = 4 from by omega)] at h
    rw [if_neg (show ¬ (G 15 8) = 5 from by omega)] at h
    rw [if_neg (show ¬ (G 15 8) = 6 from by omega)] at h
    rw [if_neg (show ¬ (G 15 8) = 7 from by omega)] at h
    rw [if_neg (show ¬ (G 15 8) = 8 from by omega)] at h
    rw [if_neg (show ¬ (G 15 8) = 9 from by omega)] at h
    rw [if_neg (show ¬ (G 15 8) = 10 from by omega)] at h
    rw [if_pos c1] at h
    refine sp_X7_step  ?_
    exact h
  · skip
    rw [if_neg (show ¬ (G 15 8) = 1 from by omega)] at h
    rw [if_neg (show ¬ (G 15 8) = 2 from by omega)] at h
    rw [if_neg (show ¬ (G 15 8) = 3 from by omega)] at h
    rw [if_neg (show ¬ (G 15 8) = 4 from by omega)] at h
    rw [if_neg (show ¬ (G 15 8) = 5 from by omega)] at h
    rw [if_neg (show ¬ (G 15 8) = 6 from by omega)] at h
    rw [if_neg (show ¬ (G 15 8) = 7 from by omega)] at h
    rw [if_neg (show ¬ (G 15 8) = 8 from by omega)] at h
    rw [if_neg (show ¬ (G 15 8) = 9 from by omega)] at h
    rw [if_neg (show ¬ (G 15 8) = 10 from by omega)] at h
    rw [if_neg (show ¬ (G 15 8) = 11 from by omega)] at h
    rw [if_pos c1] at h
    refine sp_X7_step  ?_
    exact h
  · skip
    rw [if_neg (show ¬ (G 15 8) = 1 from by omega)] at h
    rw [if_neg (show ¬ (G 15 8) = 2 from by omega)] at h
    rw [if_neg (show ¬ (G 15 8) = 3 from by omega)] at h
    rw [if_neg (show ¬ (G 15 8) = 4 from by omega)] at h
    rw [if_neg (show ¬ (G 15 8) = 5 from by omega)] at h
    rw [if_neg (show ¬ (G 15 8) = 6 from by omega)] at h
    rw [if_neg (show ¬ (G 15 8) = 7 from by omega)] at h
    rw [if_neg (show ¬ (G 15 8) = 8 from by omega)] at h
    rw [if_neg (show ¬ (G 15 8) = 9 from by omega)] at h
    rw [if_neg (show ¬ (G 15 8) = 10 from by omega)] at h
    rw [if_neg (show ¬ (G 15 8) = 11 from by omega)] at h
    rw [if_neg (show ¬ (G 15 8) = 12 from by omega)] at h
    rw [if_pos c1] at h
    refine sp_X7_step  ?_
    exact h
  · skip
    rw [if_neg (show ¬ (G 15 8) = 1 from by omega)] at h
    rw [if_neg (show ¬ (G 15 8) = 2 from by omega)] at h
    rw [if_neg (show ¬ (G 15 8) = 3 from by omega)] at h
    rw [if_neg (show ¬ (G 15 8) = 4 from by omega)] at h
    rw [if_neg (show ¬ (G 15 8) = 5 from by omega)] at h
    rw [if_neg (show ¬ (G 15 8) = 6 from by omega)] at h
    rw [if_neg (show ¬ (G 15 8) = 7 from by omega)] at h
    rw [if_neg (show ¬ (G 15 8) = 8 from by omega)] at h
    rw [if_neg (show ¬ (G 15 8) = 9 from by omega)] at h
    rw [if_neg (show ¬ (G 15 8) = 10 from by omega)] at h
    rw [if_neg (show ¬ (G 15 8) = 11 from by omega)] at h
    rw [if_neg (show ¬ (G 15 8) = 12 from by omega)] at h
    rw [if_neg (show ¬ (G 15 8) = 13 from by omega)] at h
    rw [if_pos c1] at h
    refine sp_X7_step  ?_
    exact h
  · skip
    rw [if_neg (show ¬ (G 15 8) = 1 from by omega)] at h
    rw [if_neg (show ¬ (G 15 8) = 2 from by omega)] at h
    rw [if_neg (show ¬ (G 15 8) = 3 from by omega)] at h
    rw [if_neg (show ¬ (G 15 8) = 4 from by omega)] at h
    rw [if_neg (show ¬ (G 15 8) = 5 from by omega)] at h
    rw [if_neg (show ¬ (G 15 8) = 6 from by omega)] at h
    rw [if_neg (show ¬ (G 15 8) = 7 from by omega)] at h
    rw [if_neg (show ¬ (G 15 8) = 8 from by omega)] at h
    rw [if_neg (show ¬ (G 15 8) = 9 from by omega)] at h
    rw [if_neg (show ¬ (G 15 8) = 10 from by omega)] at h
    rw [if_neg (show ¬ (G 15 8) = 11 from by omega)] at h
    rw [if_neg (show ¬ (G 15 8) = 12 from by omega)] at h
    rw [if_neg (show ¬ (G 15 8) = 13 from by omega)] at h
    rw [if_neg (show ¬ (G 15 8) = 14 from by omega)] at h
    rw [if_pos c1] at h
    refine sp_X7_step  ?_
    exact h
  · skip
    rw [if_neg (show ¬ (G 15 8) = 1 from by omega)] at h
    rw [if_neg (show ¬ (G 15 8) = 2 from by omega)] at h
    rw [if_neg (show ¬ (G 15 8) = 3 from by omega)] at h
    rw [if_neg (show ¬ (G 15 8) = 4 from by omega)] at h
    rw [if_neg (show ¬ (G 15 8) = 5 from by omega)] at h
    rw [if_neg (show ¬ (G 15 8) = 6 from by omega)] at h
    rw [if_neg (show ¬ (G 15 8) = 7 from by omega)] at h
    rw [if_neg (show ¬ (G 15 8) = 8 from by omega)] at h
    rw [if_neg (show ¬ (G 15 8) = 9 from by omega)] at h
    rw [if_neg (show ¬ (G 15 8) = 10 from by omega)] at h
    rw [if_neg (show ¬ (G 15 8) = 11 from by omega)] at h
    rw [if_neg (show ¬ (G 15 8) = 12 from by omega)] at h
    rw [if_neg (show ¬ (G 15 8) = 13 from by omega)] at h
    rw [if_neg (show ¬ (G 15 8) = 14 from by omega)] at h
    rw [if_neg (show ¬ (G 15 8) = 15 from by omega)] at h
    rw [if_pos c1] at h
    refine sp_X7_step  ?_
    exact h
def f_X7_lacksRoomFor (c : Nat) (G : mG) (x : Int) : Int := (if ¬ (G 15 8) = 1 then (if ¬ (G 15 8) = 8 then (if ¬ x = 5 then 0 else (if (G 15 6) < 6 then 0 else 1)) else (if x = 17 then 0 else (if (f_X1_clauses c G ) < 40 then 0 else 1))) else (if (f_X1_campaigns c G ) < 8 then 0 else 1))
theorem sp_X7_lacksRoomFor {D : Nat → Bool} {d : Nat} {c : Nat} {G : mG} {x : Int} {Q : Option mV → mG → Prop} (hc : c = 40 ∨ c = 52) (hp : G 15 9 = ((c + 5 : Nat) : Int)) (h : Q (some (mI (f_X7_lacksRoomFor c G x))) G) : P2 D (d + 2) M_X7_lacksRoomFor [mR 20, mI x] G Q := by
  rcases hc with rfl | rfl
  · skip
    unfold f_X7_lacksRoomFor at h
    try simp only [Nat.reduceAdd, Nat.reduceSub] at h
    have hp : G 15 9 = 45 := hp
    refine (show P2 D (d + 2) M_X7_lacksRoomFor [mR 20, mI x] G Q from ?_)
    refine p2_vc [12, 45] 400 oo_X7 q_X7_lacksRoomFor (by decide) rfl (Nat.le_of_ble_eq_true rfl) ?_
    refine ⟨fun (c1 : ¬ (G 15 8) = 1) => ?_, fun (c1 : (G 15 8) = 1) => ?_⟩
    · rw [if_pos c1] at h
      refine ⟨fun (c2 : ¬ (G 15 8) = 8) => ?_, fun (c2 : (G 15 8) = 8) => ?_⟩
      · rw [if_pos c2] at h
        refine ⟨fun (c3 : ¬ x = 5) => ?_, fun (c3 : x = 5) => ?_⟩
        · rw [if_pos c3] at h
          exact ⟨by omega, h⟩
        · rw [if_neg (fun q => q c3)] at h
          refine ⟨fun (c4 : (G 15 6) < 6) => ?_, fun (c4 : 6 ≤ (G 15 6)) => ?_⟩
          · rw [if_pos c4] at h
            exact ⟨by omega, h⟩
          · rw [if_neg (Int.not_lt.mpr c4)] at h
            exact ⟨by omega, h⟩
      · rw [if_neg (fun q => q c2)] at h
        refine ⟨fun (c5 : x = 17) => ?_, fun (c5 : ¬ x = 17) => ?_⟩
        · rw [if_pos c5] at h
          exact ⟨by omega, h⟩
        · rw [if_neg (c5)] at h
          refine (show W2 o_X7 M_X7_lacksRoomFor D (d + 2) Q 45 [some (mR 20), some (mI x)] [mR (Int.toNat (G 15 9))] G from ?_)
          rw [hp]
          refine (show W2 o_X7 M_X7_lacksRoomFor D (d + 2) Q 45 [some (mR 20), some (mI x)] [mR 45] G from ?_)
          refine w2_vc [12, 45] 400 oo_X7 q_X7_lacksRoomFor ?_
          refine sp_X1_clauses (by decide) ?_
          have c7 := (show f_X1_clauses 40 G = G 40 12 from rfl)
          refine ⟨fun (c8 : (f_X1_clauses 40 G ) < 40) => ?_, fun (c8 : 40 ≤ (f_X1_clauses 40 G )) => ?_⟩
          · rw [if_pos c8] at h
            exact ⟨by omega, h⟩
          · rw [if_neg (Int.not_lt.mpr c8)] at h
            exact ⟨by omega, h⟩
    · rw [if_neg (fun q => q c1)] at h
      refine (show W2 o_X7 M_X7_lacksRoomFor D (d + 2) Q 12 [some (mR 20), some (mI x)] [mR (Int.toNat (G 15 9))] G from ?_)
      rw [hp]
      refine (show W2 o_X7 M_X7_lacksRoomFor D (d + 2) Q 12 [some (mR 20), some (mI x)] [mR 45] G from ?_)
      refine w2_vc [12, 45] 400 oo_X7 q_X7_lacksRoomFor ?_
      refine sp_X1_campaigns (by decide) ?_
      have c10 := (show f_X1_campaigns 40 G = G 40 11 from rfl)
      refine ⟨fun (c11 : (f_X1_campaigns 40 G ) < 8) => ?_, fun (c11 : 8 ≤ (f_X1_campaigns 40 G )) => ?_⟩
      · rw [if_pos c11] at h
        exact ⟨by omega, h⟩
      · rw [if_neg (Int.not_lt.mpr c11)] at h
        exact ⟨by omega, h⟩
  · skip
    unfold f_X7_lacksRoomFor at h
    try simp only [Nat.reduceAdd, Nat.reduceSub] at h
    have hp : G 15 9 = 57 := hp
    refine (show P2 D (d + 2) M_X7_lacksRoomFor [mR 20, mI x] G Q from ?_)
    refine p2_vc [12, 45] 400 oo_X7 q_X7_lacksRoomFor (by decide) rfl (Nat.le_of_ble_eq_true rfl) ?_
    refine ⟨fun (c1 : ¬ (G 15 8) = 1) => ?_, fun (c1 : (G 15 8) = 1) => ?_⟩
    · rw [if_pos c1] at h
      refine ⟨fun (c2 : ¬ (G 15 8) = 8) => ?_, fun (c2 : (G 15 8) = 8) => ?_⟩
      · rw [if_pos c2] at h
        refine ⟨fun (c3 : ¬ x = 5) => ?_, fun (c3 : x = 5) => ?_⟩
        · rw [if_pos c3] at h
          exact ⟨by omega, h⟩
        · rw [if_neg (fun q => q c3)] at h
          refine ⟨fun (c4 : (G 15 6) < 6) => ?_, fun (c4 : 6 ≤ (G 15 6)) => ?_⟩
          · rw [if_pos c4] at h
            exact ⟨by omega, h⟩
          · rw [if_neg (Int.not_lt.mpr c4)] at h
            exact ⟨by omega, h⟩
      · rw [if_neg (fun q => q c2)] at h
        refine ⟨fun (c5 : x = 17) => ?_, fun (c5 : ¬ x = 17) => ?_⟩
        · rw [if_pos c5] at h
          exact ⟨by omega, h⟩
        · rw [if_neg (c5)] at h
          refine (show W2 o_X7 M_X7_lacksRoomFor D (d + 2) Q 45 [some (mR 20), some (mI x)] [mR (Int.toNat (G 15 9))] G from ?_)
          rw [hp]
          refine (show W2 o_X7 M_X7_lacksRoomFor D (d + 2) Q 45 [some (mR 20), some (mI x)] [mR 57] G from ?_)
          refine w2_vc [12, 45] 400 oo_X7 q_X7_lacksRoomFor ?_
          refine sp_X1_clauses (by decide) ?_
          have c7 := (show f_X1_clauses 52 G = G 52 12 from rfl)
          refine ⟨fun (c8 : (f_X1_clauses 52 G ) < 40) => ?_, fun (c8 : 40 ≤ (f_X1_clauses 52 G )) => ?_⟩
          · rw [if_pos c8] at h
            exact ⟨by omega, h⟩
          · rw [if_neg (Int.not_lt.mpr c8)] at h
            exact ⟨by omega, h⟩
    · rw [if_neg (fun q => q c1)] at h
      refine (show W2 o_X7 M_X7_lacksRoomFor D (d + 2) Q 12 [some (mR 20), some (mI x)] [mR (Int.toNat (G 15 9))] G from ?_)
      rw [hp]
      refine (show W2 o_X7 M_X7_lacksRoomFor D (d + 2) Q 12 [some (mR 20), some (mI x)] [mR 57] G from ?_)
      refine w2_vc [12, 45] 400 oo_X7 q_X7_lacksRoomFor ?_
      refine sp_X1_campaigns (by decide) ?_
      have c10 := (show f_X1_campaigns 52 G = G 52 11 from rfl)
      refine ⟨fun (c11 : (f_X1_campaigns 52 G ) < 8) => ?_, fun (c11 : 8 ≤ (f_X1_campaigns 52 G )) => ?_⟩
      · rw [if_pos c11] at h
        exact ⟨by omega, h⟩
      · rw [if_neg (Int.not_lt.mpr c11)] at h
        exact ⟨by omega, h⟩
theorem fa_X7_lacksRoomFor (c : Nat) (G : mG) (x : Int) : f_X7_lacksRoomFor c G x = 1 ∨ f_X7_lacksRoomFor c G x = 0 := by
  unfold f_X7_lacksRoomFor
  repeat' split
  all_goals omega
def e_X7_begin (c : Nat) (G : mG) : mG := (gs (gs (gs (gs (gs (gs (e_X10_rewind (e_X1_clear c (gs G 15 9 (((c + 5) : Nat) : Int)) ) ) 15 8 1) 15 5 0) 15 6 0) 15 7 0) 15 10 0) 15 11 (-1))
theorem frp_X7_begin_15 {c : Nat} {G : mG} (hc : c = 40 ∨ c = 52) {i : Nat} (hj : ∀ a ∈ ([5, 6, 7, 8, 9, 10, 11] : List Nat), i ≠ a) : (e_X7_begin c G ) 15 i = G 15 i := by
  unfold e_X7_begin
  repeat' with_reducible first | apply ite_f | apply ite_f2 | apply ite_p | apply ite_p2
  all_goals first | (simp only [gs_at_ne (hj 5 (by simp)), gs_at_ne (hj 6 (by simp)), gs_at_ne (hj 7 (by simp)), gs_at_ne (hj 8 (by simp)), gs_at_ne (hj 9 (by simp)), gs_at_ne (hj 10 (by simp)), gs_at_ne (hj 11 (by simp)), gs_ne (show (15) ≠ (20) from by omega), gs_ne (show (15) ≠ (c) from by omega), gs_ne (show (15) ≠ (c + 3) from by omega), fr_X10_rewind (k := 15) (fun a ha => by simp only [List.mem_cons, List.not_mem_nil, or_false] at ha; omega), fr_X1_clear (c := c) (k := 15) (fun a ha => by simp only [List.mem_cons, List.not_mem_nil, or_false] at ha; omega)]; done) | rfl
theorem frp_X7_begin_20 {c : Nat} {G : mG} (hc : c = 40 ∨ c = 52) {i : Nat} (hj : ∀ a ∈ ([1] : List Nat), i ≠ a) : (e_X7_begin c G ) 20 i = G 20 i := by
  unfold e_X7_begin
  repeat' with_reducible first | apply ite_f | apply ite_f2 | apply ite_p | apply ite_p2
  all_goals first | (simp only [gs_at_ne (hj 1 (by simp)), gs_ne (show (20) ≠ (15) from by omega), gs_ne (show (20) ≠ (c) from by omega), gs_ne (show (20) ≠ (c + 3) from by omega), frp_X10_rewind_20 (fun a ha => hj a (by simp only [List.mem_cons, List.not_mem_nil, or_false] at ha ⊢; omega)), fr_X1_clear (c := c) (k := 20) (fun a ha => by simp only [List.mem_cons, List.not_mem_nil, or_false] at ha; omega)]; done) | rfl
theorem frp_X7_begin_c {c : Nat} {G : mG} (hc : c = 40 ∨ c = 52) {i : Nat} (hj : ∀ a ∈ ([11, 12, 13] : List Nat), i ≠ a) : (e_X7_begin c G ) c i = G c i := by
  unfold e_X7_begin
  repeat' with_reducible first | apply ite_f | apply ite_f2 | apply ite_p | apply ite_p2
  all_goals first | (simp only [gs_at_ne (hj 11 (by simp)), gs_at_ne (hj 12 (by simp)), gs_at_ne (hj 13 (by simp)), gs_ne (show (c) ≠ (15) from by omega), gs_ne (show (c) ≠ (20) from by omega), gs_ne (show (c) ≠ (c + 3) from by omega), fr_X10_rewind (k := c) (fun a ha => by simp only [List.mem_cons, List.not_mem_nil, or_false] at ha; omega), frp_X1_clear_c (c := c) hc (fun a ha => hj a (by simp only [List.mem_cons, List.not_mem_nil, or_false] at ha ⊢; omega))]; done) | rfl
theorem fr_X7_begin {c : Nat} {G : mG} {k : Nat} (hk : ∀ a ∈ ([15, 20, c, c + 3] : List Nat), k ≠ a) : (e_X7_begin c G ) k = G k := by
  unfold e_X7_begin
  repeat' with_reducible first | apply ite_f | apply ite_f2 | apply ite_p | apply ite_p2
  all_goals first | (simp only [gs_ne (hk (15) (by simp)), gs_ne (hk (20) (by simp)), gs_ne (hk (c) (by simp)), gs_ne (hk (c + 3) (by simp)), fr_X10_rewind (fun a ha => hk a (by simp only [List.mem_cons, List.not_mem_nil, or_false] at ha ⊢; omega)), fr_X1_clear (c := c) (fun a ha => hk a (by simp only [List.mem_cons, List.not_mem_nil, or_false] at ha ⊢; omega))]; done) | rfl
theorem sp_X7_begin {D : Nat → Bool} {d : Nat} {c : Nat} {G : mG} {Q : Option mV → mG → Prop} (hc : c = 40 ∨ c = 52) (hD : ∀ k, D k = false → inN [15, 20, c, c + 3] k = false) (h : Q none (e_X7_begin c G )) : P2 D (d + 2) M_X7_begin [mR 20, mR (c + 5)] G Q := by
  rcases hc with rfl | rfl
  · skip
    unfold e_X7_begin at h
    try simp only [Nat.reduceAdd, Nat.reduceSub] at h
    refine MP.to (D2 := inN [15, 20, 40, 43]) (Q2 := Q) ?_ hD (fun v G' q _ => q)
    refine (show P2 (inN [15, 20, 40, 43]) (d + 2) M_X7_begin [mR 20, mR 45] G Q from ?_)
    refine p2_vc [5, 9, 24, 29, 34, 39, 44, 49] 400 oo_X7 q_X7_begin (by decide) rfl (Nat.le_of_ble_eq_true rfl) ?_
    refine (show W2 o_X7 M_X7_begin (inN [15, 20, 40, 43]) (d + 2) Q 5 [some (mR 20), some (mR 45)] [] (gs G 15 9 ((45 : Nat) : Int)) from ?_)
    refine w2_vc [5, 9, 24, 29, 34, 39, 44, 49] 400 oo_X7 q_X7_begin ?_
    refine (show W2 o_X7 M_X7_begin (inN [15, 20, 40, 43]) (d + 2) Q 9 [some (mR 20), some (mR 45)] [mR 45] (gs G 15 9 ((45 : Nat) : Int)) from ?_)
    refine w2_vc [5, 9, 24, 29, 34, 39, 44, 49] 400 oo_X7 q_X7_begin ?_
    refine sp_X1_clear (by decide) (insub (by decide)) ?_
    refine sp_X10_rewind  (insub (by decide)) ?_
    refine (show W2 o_X7 M_X7_begin (inN [15, 20, 40, 43]) (d + 2) Q 24 [some (mR 20), some (mR 45)] [] (gs (e_X10_rewind (e_X1_clear 40 (gs G 15 9 ((45 : Nat) : Int)) ) ) 15 8 1) from ?_)
    refine w2_vc [5, 9, 24, 29, 34, 39, 44, 49] 400 oo_X7 q_X7_begin ?_
    refine (show W2 o_X7 M_X7_begin (inN [15, 20, 40, 43]) (d + 2) Q 29 [some (mR 20), some (mR 45)] [] (gs (gs (e_X10_rewind (e_X1_clear 40 (gs G 15 9 ((45 : Nat) : Int)) ) ) 15 8 1) 15 5 0) from ?_)
    refine w2_vc [5, 9, 24, 29, 34, 39, 44, 49] 400 oo_X7 q_X7_begin ?_
    refine (show W2 o_X7 M_X7_begin (inN [15, 20, 40, 43]) (d + 2) Q 34 [some (mR 20), some (mR 45)] [] (gs (gs (gs (e_X10_rewind (e_X1_clear 40 (gs G 15 9 ((45 : Nat) : Int)) ) ) 15 8 1) 15 5 0) 15 6 0) from ?_)
    refine w2_vc [5, 9, 24, 29, 34, 39, 44, 49] 400 oo_X7 q_X7_begin ?_
    refine ⟨by omega, ?_⟩
    refine (show W2 o_X7 M_X7_begin (inN [15, 20, 40, 43]) (d + 2) Q 39 [some (mR 20), some (mR 45)] [] (gs (gs (gs (gs (e_X10_rewind (e_X1_clear 40 (gs G 15 9 ((45 : Nat) : Int)) ) ) 15 8 1) 15 5 0) 15 6 0) 15 7 0) from ?_)
    refine w2_vc [5, 9, 24, 29, 34, 39, 44, 49] 400 oo_X7 q_X7_begin ?_
    refine (show W2 o_X7 M_X7_begin (inN [15, 20, 40, 43]) (d + 2) Q 44 [some (mR 20), some (mR 45)] [] (gs (gs (gs (gs (gs (e_X10_rewind (e_X1_clear 40 (gs G 15 9 ((45 : Nat) : Int)) ) ) 15 8 1) 15 5 0) 15 6 0) 15 7 0) 15 10 0) from ?_)
    refine w2_vc [5, 9, 24, 29, 34, 39, 44, 49] 400 oo_X7 q_X7_begin ?_
    refine (show W2 o_X7 M_X7_begin (inN [15, 20, 40, 43]) (d + 2) Q 49 [some (mR 20), some (mR 45)] [] (gs (gs (gs (gs (gs (gs (e_X10_rewind (e_X1_clear 40 (gs G 15 9 ((45 : Nat) : Int)) ) ) 15 8 1) 15 5 0) 15 6 0) 15 7 0) 15 10 0) 15 11 (-1)) from ?_)
    refine w2_vc [5, 9, 24, 29, 34, 39, 44, 49] 400 oo_X7 q_X7_begin ?_
    exact h
  · skip
    unfold e_X7_begin at h
    try simp only [Nat.reduceAdd, Nat.reduceSub] at h
    refine MP.to (D2 := inN [15, 20, 52, 55]) (Q2 := Q) ?_ hD (fun v G' q _ => q)
    refine (show P2 (inN [15, 20, 52, 55]) (d + 2) M_X7_begin [mR 20, mR 57] G Q from ?_)
    refine p2_vc [5, 9, 24, 29, 34, 39, 44, 49] 400 oo_X7 q_X7_begin (by decide) rfl (Nat.le_of_ble_eq_true rfl) ?_
    refine (show W2 o_X7 M_X7_begin (inN [15, 20, 52, 55]) (d + 2) Q 5 [some (mR 20), some (mR 57)] [] (gs G 15 9 ((57 : Nat) : Int)) from ?_)
    refine w2_vc [5, 9, 24, 29, 34, 39, 44, 49] 400 oo_X7 q_X7_begin ?_
    refine (show W2 o_X7 M_X7_begin (inN [15, 20, 52, 55]) (d + 2) Q 9 [some (mR 20), some (mR 57)] [mR 57] (gs G 15 9 ((57 : Nat) : Int)) from ?_)
    refine w2_vc [5, 9, 24, 29, 34, 39, 44, 49] 400 oo_X7 q_X7_begin ?_
    refine sp_X1_clear (by decide) (insub (by decide)) ?_
    refine sp_X10_rewind  (insub (by decide)) ?_
    refine (show W2 o_X7 M_X7_begin (inN [15, 20, 52, 55]) (d + 2) Q 24 [some (mR 20), some (mR 57)] [] (gs (e_X10_rewind (e_X1_clear 52 (gs G 15 9 ((57 : Nat) : Int)) ) ) 15 8 1) from ?_)
    refine w2_vc [5, 9, 24, 29, 34, 39, 44, 49] 400 oo_X7 q_X7_begin ?_
    refine (show W2 o_X7 M_X7_begin (inN [15, 20, 52, 55]) (d + 2) Q 29 [some (mR 20), some (mR 57)] [] (gs (gs (e_X10_rewind (e_X1_clear 52 (gs G 15 9 ((57 : Nat) : Int)) ) ) 15 8 1) 15 5 0) from ?_)
    refine w2_vc [5, 9, 24, 29, 34, 39, 44, 49] 400 oo_X7 q_X7_begin ?_
    refine (show W2 o_X7 M_X7_begin (inN [15, 20, 52, 55]) (d + 2) Q 34 [some (mR 20), some (mR 57)] [] (gs (gs (gs (e_X10_rewind (e_X1_clear 52 (gs G 15 9 ((57 : Nat) : Int)) ) ) 15 8 1) 15 5 0) 15 6 0) from ?_)
    refine w2_vc [5, 9, 24, 29, 34, 39, 44, 49] 400 oo_X7 q_X7_begin ?_
    refine ⟨by omega, ?_⟩
    refine (show W2 o_X7 M_X7_begin (inN [15, 20, 52, 55]) (d + 2) Q 39 [some (mR 20), some (mR 57)] [] (gs (gs (gs (gs (e_X10_rewind (e_X1_clear 52 (gs G 15 9 ((57 : Nat) : Int)) ) ) 15 8 1) 15 5 0) 15 6 0) 15 7 0) from ?_)
    refine w2_vc [5, 9, 24, 29, 34, 39, 44, 49] 400 oo_X7 q_X7_begin ?_
    refine (show W2 o_X7 M_X7_begin (inN [15, 20, 52, 55]) (d + 2) Q 44 [some (mR 20), some (mR 57)] [] (gs (gs (gs (gs (gs (e_X10_rewind (e_X1_clear 52 (gs G 15 9 ((57 : Nat) : Int)) ) ) 15 8 1) 15 5 0) 15 6 0) 15 7 0) 15 10 0) from ?_)
    refine w2_vc [5, 9, 24, 29, 34, 39, 44, 49] 400 oo_X7 q_X7_begin ?_
    refine (show W2 o_X7 M_X7_begin (inN [15, 20, 52, 55]) (d + 2) Q 49 [some (mR 20), some (mR 57)] [] (gs (gs (gs (gs (gs (gs (e_X10_rewind (e_X1_clear 52 (gs G 15 9 ((57 : Nat) : Int)) ) ) 15 8 1) 15 5 0) 15 6 0) 15 7 0) 15 10 0) 15 11 (-1)) from ?_)
    refine w2_vc [5, 9, 24, 29, 34, 39, 44, 49] 400 oo_X7 q_X7_begin ?_
    exact h
def g_X7_campaignOf_2 (c : Nat) (G : mG) (x : Int) : Nat → Unit → (Unit ⊕ (Int)) := fun j1 s1 => (if ¬ (mLcmp (G 16 (Int.toNat ((j1 : Nat) : Int))) x) = 0 then (Sum.inl ()) else (Sum.inr ((j1 : Nat) : Int)))
def f_X7_campaignOf (c : Nat) (G : mG) (x : Int) : Int := (fnl (fe (g_X7_campaignOf_2 c G x) () (Int.toNat (G c 11))) (fun s1 => (if (f_X1_campaigns c G ) ≤ (((Int.toNat (G c 11)) : Nat) : Int) then (-1) else (-1))))
theorem sp_X7_campaignOf {D : Nat → Bool} {d : Nat} {c : Nat} {G : mG} {x : Int} {Q : Option mV → mG → Prop} (hc : c = 40 ∨ c = 52) (hp : G 15 9 = ((c + 5 : Nat) : Int)) (h11 : 0 ≤ G c 11 ∧ G c 11 ≤ 8) (h : Q (some (mI (f_X7_campaignOf c G x))) G) : P2 D (d + 2) M_X7_campaignOf [mR 20, mJ x] G Q := by
  rcases hc with rfl | rfl
  · skip
    unfold f_X7_campaignOf at h
    try simp only [Nat.reduceAdd, Nat.reduceSub] at h
    have hp : G 15 9 = 45 := hp
    refine (show P2 D (d + 2) M_X7_campaignOf [mR 20, mJ x] G Q from ?_)
    refine p2_vc [2, 7] 400 oo_X7 q_X7_campaignOf (by decide) rfl (Nat.le_of_ble_eq_true rfl) ?_
    refine (show W2 o_X7 M_X7_campaignOf D (d + 2) Q 2 [some (mR 20), some (mJ x), none, some (mI ((0 : Nat) : Int))] [] G from ?_)
    refine lupF (g_X7_campaignOf_2 40 G x) () (fun j1 s1 => W2 o_X7 M_X7_campaignOf D (d + 2) Q 2 [some (mR 20), some (mJ x), none, some (mI ((j1 : Nat) : Int))] [] G) (fun r => Q (some (mI r)) G) (fun _ _ => True) (Int.toNat (G 40 11)) ⟨trivial, fun _ _ _ _ _ _ => trivial⟩ (fun j1 s1 hj1 hI1 ih1 => ?_) ?_
    · have ih1 : sk (fun z => W2 o_X7 M_X7_campaignOf D (d + 2) Q 2 [some (mR 20), some (mJ x), none, some (mI ((j1 + 1 : Nat) : Int))] [] G) (fun r => Q (some (mI r)) G) (g_X7_campaignOf_2 40 G x j1 s1) := ih1
      unfold g_X7_campaignOf_2 at ih1
      try simp only [Nat.reduceAdd, Nat.reduceSub] at ih1
      refine w2_vc [2, 7] 400 oo_X7 q_X7_campaignOf ?_
      refine (show W2 o_X7 M_X7_campaignOf D (d + 2) Q 7 [some (mR 20), some (mJ x), none, some (mI ((j1 : Nat) : Int))] [mR (Int.toNat (G 15 9)), mI ((j1 : Nat) : Int)] G from ?_)
      rw [hp]
      refine (show W2 o_X7 M_X7_campaignOf D (d + 2) Q 7 [some (mR 20), some (mJ x), none, some (mI ((j1 : Nat) : Int))] [mR 45, mI ((j1 : Nat) : Int)] G from ?_)
      refine w2_vc [2, 7] 400 oo_X7 q_X7_campaignOf ?_
      refine sp_X1_campaigns (by decide) ?_
      have c2 := (show f_X1_campaigns 40 G = G 40 11 from rfl)
      refine ⟨fun (c3 : (f_X1_campaigns 40 G ) ≤ ((j1 : Nat) : Int)) => ?_, fun (c3 : ((j1 : Nat) : Int) < (f_X1_campaigns 40 G )) => ?_⟩
      · skip
        exfalso; first | omega | (rw [w32_i (by omega) (by omega)] at c3; omega) | (simp (disch := omega) only [w32_i] at *; omega)
      · skip
        refine ⟨fun (c4 : ((8 : Nat) : Int) ≤ ((j1 : Nat) : Int)) => ?_, fun (c4 : ((j1 : Nat) : Int) < ((8 : Nat) : Int)) => ?_⟩
        · skip
          exfalso; first | omega | (rw [w32_i (by omega) (by omega)] at c4; omega) | (simp (disch := omega) only [w32_i] at *; omega)
        · skip
          refine ⟨(show 0 ≤ ((j1 : Nat) : Int) ∧ ((j1 : Nat) : Int) < ((8 : Nat) : Int) from by first | omega | (simp (disch := omega) only [w32_i]; omega)), ?_⟩
          refine ⟨fun (c5 : ¬ (mLcmp (G 16 (Int.toNat ((j1 : Nat) : Int))) x) = 0) => ?_, fun (c5 : (mLcmp (G 16 (Int.toNat ((j1 : Nat) : Int))) x) = 0) => ?_⟩
          · rw [if_pos c5] at ih1
            refine (show W2 o_X7 M_X7_campaignOf D (d + 2) Q 2 [some (mR 20), some (mJ x), none, some (mI (w32 (((j1 : Nat) : Int) + 1)))] [] G from ?_)
            rw [w32_nat (by omega)]
            exact ih1
          · rw [if_neg (fun q => q c5)] at ih1
            exact ih1
    · intro hI1
      generalize (fe (g_X7_campaignOf_2 40 G x) () (Int.toNat (G 40 11))) = z at h hI1 ⊢
      cases z with
      | inr r => exact h
      | inl s1 =>
        have h : Q (some (mI (if (f_X1_campaigns 40 G ) ≤ (((Int.toNat (G 40 11)) : Nat) : Int) then (-1) else (-1)))) G := h
        refine (show W2 o_X7 M_X7_campaignOf D (d + 2) Q 2 [some (mR 20), some (mJ x), none, some (mI (((Int.toNat (G 40 11)) : Nat) : Int))] [] G from ?_)
        refine w2_vc [2, 7] 400 oo_X7 q_X7_campaignOf ?_
        refine (show W2 o_X7 M_X7_campaignOf D (d + 2) Q 7 [some (mR 20), some (mJ x), none, some (mI (((Int.toNat (G 40 11)) : Nat) : Int))] [mR (Int.toNat (G 15 9)), mI (((Int.toNat (G 40 11)) : Nat) : Int)] G from ?_)
        rw [hp]
        refine (show W2 o_X7 M_X7_campaignOf D (d + 2) Q 7 [some (mR 20), some (mJ x), none, some (mI (((Int.toNat (G 40 11)) : Nat) : Int))] [mR 45, mI (((Int.toNat (G 40 11)) : Nat) : Int)] G from ?_)
        refine w2_vc [2, 7] 400 oo_X7 q_X7_campaignOf ?_
        refine sp_X1_campaigns (by decide) ?_
        have c7 := (show f_X1_campaigns 40 G = G 40 11 from rfl)
        refine ⟨fun (c8 : (f_X1_campaigns 40 G ) ≤ (((Int.toNat (G 40 11)) : Nat) : Int)) => ?_, fun (c8 : (((Int.toNat (G 40 11)) : Nat) : Int) < (f_X1_campaigns 40 G )) => ?_⟩
        · rw [if_pos c8] at h
          exact h
        · rw [if_neg (Int.not_le.mpr c8)] at h
          refine ⟨fun (c9 : ((8 : Nat) : Int) ≤ (((Int.toNat (G 40 11)) : Nat) : Int)) => ?_, fun (c9 : (((Int.toNat (G 40 11)) : Nat) : Int) < ((8 : Nat) : Int)) => ?_⟩
          · skip
            exact h
          · skip
            exfalso; first | omega | (rw [w32_i (by omega) (by omega)] at c9; omega) | (simp (disch := omega) only [w32_i] at *; omega)
  · skip
    unfold f_X7_campaignOf at h
    try simp only [Nat.reduceAdd, Nat.reduceSub] at h
    have hp : G 15 9 = 57 := hp
    refine (show P2 D (d + 2) M_X7_campaignOf [mR 20, mJ x] G Q from ?_)
    refine p2_vc [2, 7] 400 oo_X7 q_X7_campaignOf (by decide) rfl (Nat.le_of_ble_eq_true rfl) ?_
    refine (show W2 o_X7 M_X7_campaignOf D (d + 2) Q 2 [some (mR 20), some (mJ x), none, some (mI ((0 : Nat) : Int))] [] G from ?_)
    refine lupF (g_X7_campaignOf_2 52 G x) () (fun j1 s1 => W2 o_X7 M_X7_campaignOf D (d + 2) Q 2 [some (mR 20), some (mJ x), none, some (mI ((j1 : Nat) : Int))] [] G) (fun r => Q (some (mI r)) G) (fun _ _ => True) (Int.toNat (G 52 11)) ⟨trivial, fun _ _ _ _ _ _ => trivial⟩ (fun j1 s1 hj1 hI1 ih1 => ?_) ?_
    · have ih1 : sk (fun z => W2 o_X7 M_X7_campaignOf D (d + 2) Q 2 [some (mR 20), some (mJ x), none, some (mI ((j1 + 1 : Nat) : Int))] [] G) (fun r => Q (some (mI r)) G) (g_X7_campaignOf_2 52 G x j1 s1) := ih1
      unfold g_X7_campaignOf_2 at ih1
      try simp only [Nat.reduceAdd, Nat.reduceSub] at ih1
      refine w2_vc [2, 7] 400 oo_X7 q_X7_campaignOf ?_
      refine (show W2 o_X7 M_X7_campaignOf D (d + 2) Q 7 [some (mR 20), some (mJ x), none, some (mI ((j1 : Nat) : Int))] [mR (Int.toNat (G 15 9)), mI ((j1 : Nat) : Int)] G from ?_)
      rw [hp]
      refine (show W2 o_X7 M_X7_campaignOf D (d + 2) Q 7 [some (mR 20), some (mJ x), none, some (mI ((j1 : Nat) : Int))] [mR 57, mI ((j1 : Nat) : Int)] G from ?_)
      refine w2_vc [2, 7] 400 oo_X7 q_X7_campaignOf ?_
      refine sp_X1_campaigns (by decide) ?_
      have c2 := (show f_X1_campaigns 52 G = G 52 11 from rfl)
      refine ⟨fun (c3 : (f_X1_campaigns 52 G ) ≤ ((j1 : Nat) : Int)) => ?_, fun (c3 : ((j1 : Nat) : Int) < (f_X1_campaigns 52 G )) => ?_⟩
      · skip
        exfalso; first | omega | (rw [w32_i (by omega) (by omega)] at c3; omega) | (simp (disch := omega) only [w32_i] at *; omega)
      · skip
        refine ⟨fun (c4 : ((8 : Nat) : Int) ≤ ((j1 : Nat) : Int)) => ?_, fun (c4 : ((j1 : Nat) : Int) < ((8 : Nat) : Int)) => ?_⟩
        · skip
          exfalso; first | omega | (rw [w32_i (by omega) (by omega)] at c4; omega) | (simp (disch := omega) only [w32_i] at *; omega)
        · skip
          refine ⟨(show 0 ≤ ((j1 : Nat) : Int) ∧ ((j1 : Nat) : Int) < ((8 : Nat) : Int) from by first | omega | (simp (disch := omega) only [w32_i]; omega)), ?_⟩
          refine ⟨fun (c5 : ¬ (mLcmp (G 16 (Int.toNat ((j1 : Nat) : Int))) x) = 0) => ?_, fun (c5 : (mLcmp (G 16 (Int.toNat ((j1 : Nat) : Int))) x) = 0) => ?_⟩
          · rw [if_pos c5] at ih1
            refine (show W2 o_X7 M_X7_campaignOf D (d + 2) Q 2 [some (mR 20), some (mJ x), none, some (mI (w32 (((j1 : Nat) : Int) + 1)))] [] G from ?_)
            rw [w32_nat (by omega)]
            exact ih1
          · rw [if_neg (fun q => q c5)] at ih1
            exact ih1
    · intro hI1
      generalize (fe (g_X7_campaignOf_2 52 G x) () (Int.toNat (G 52 11))) = z at h hI1 ⊢
      cases z with
      | inr r => exact h
      | inl s1 =>
        have h : Q (some (mI (if (f_X1_campaigns 52 G ) ≤ (((Int.toNat (G 52 11)) : Nat) : Int) then (-1) else (-1)))) G := h
        refine (show W2 o_X7 M_X7_campaignOf D (d + 2) Q 2 [some (mR 20), some (mJ x), none, some (mI (((Int.toNat (G 52 11)) : Nat) : Int))] [] G from ?_)
        refine w2_vc [2, 7] 400 oo_X7 q_X7_campaignOf ?_
        refine (show W2 o_X7 M_X7_campaignOf D (d + 2) Q 7 [some (mR 20), some (mJ x), none, some (mI (((Int.toNat (G 52 11)) : Nat) : Int))] [mR (Int.toNat (G 15 9)), mI (((Int.toNat (G 52 11)) : Nat) : Int)] G from ?_)
        rw [hp]
        refine (show W2 o_X7 M_X7_campaignOf D (d + 2) Q 7 [some (mR 20), some (mJ x), none, some (mI (((Int.toNat (G 52 11)) : Nat) : Int))] [mR 57, mI (((Int.toNat (G 52 11)) : Nat) : Int)] G from ?_)
        refine w2_vc [2, 7] 400 oo_X7 q_X7_campaignOf ?_
        refine sp_X1_campaigns (by decide) ?_
        have c7 := (show f_X1_campaigns 52 G = G 52 11 from rfl)
        refine ⟨fun (c8 : (f_X1_campaigns 52 G ) ≤ (((Int.toNat (G 52 11)) : Nat) : Int)) => ?_, fun (c8 : (((Int.toNat (G 52 11)) : Nat) : Int) < (f_X1_campaigns 52 G )) => ?_⟩
        · rw [if_pos c8] at h
          exact h
        · rw [if_neg (Int.not_le.mpr c8)] at h
          refine ⟨fun (c9 : ((8 : Nat) : Int) ≤ (((Int.toNat (G 52 11)) : Nat) : Int)) => ?_, fun (c9 : (((Int.toNat (G 52 11)) : Nat) : Int) < ((8 : Nat) : Int)) => ?_⟩
          · skip
            exact h
          · skip
            exfalso; first | omega | (rw [w32_i (by omega) (by omega)] at c9; omega) | (simp (disch := omega) only [w32_i] at *; omega)
def e_X7_noteCampaign (c : Nat) (G : mG) : mG := (if (f_X7_campaignOf c G (f_X10_name G )) = (-1) then (if (r_X1_addCampaign c (e_X7_blameIf G 0 3) ).1 = 0 then (r_X1_addCampaign c (e_X7_blameIf G 0 3) ).2 else (if ((8 : Nat) : Int) ≤ (f_X1_campaigns c (e_X7_blameIf G 0 3) ) then (r_X1_addCampaign c (e_X7_blameIf G 0 3) ).2 else (gs (r_X1_addCampaign c (e_X7_blameIf G 0 3) ).2 16 (Int.toNat (f_X1_campaigns c (e_X7_blameIf G 0 3) )) (f_X10_name G )))) else (if (r_X1_addCampaign c (e_X7_blameIf G 1 3) ).1 = 0 then (r_X1_addCampaign c (e_X7_blameIf G 1 3) ).2 else (if ((8 : Nat) : Int) ≤ (f_X1_campaigns c (e_X7_blameIf G 1 3) ) then (r_X1_addCampaign c (e_X7_blameIf G 1 3) ).2 else (gs (r_X1_addCampaign c (e_X7_blameIf G 1 3) ).2 16 (Int.toNat (f_X1_campaigns c (e_X7_blameIf G 1 3) )) (f_X10_name G )))))
theorem frp_X7_noteCampaign_15 {c : Nat} {G : mG} (hc : c = 40 ∨ c = 52) {i : Nat} (hj : ∀ a ∈ ([10, 11] : List Nat), i ≠ a) : (e_X7_noteCampaign c G ) 15 i = G 15 i := by
  unfold e_X7_noteCampaign
  repeat' with_reducible first | apply ite_f | apply ite_f2 | apply ite_p | apply ite_p2
  all_goals first | (simp only [gs_at_ne (hj 10 (by simp)), gs_at_ne (hj 11 (by simp)), gs_ne (show (15) ≠ (16) from by omega), gs_ne (show (15) ≠ (c) from by omega), gs_ne (show (15) ≠ (c + 1) from by omega), gs_ne (show (15) ≠ (c + 2) from by omega), fr_X1_addCampaign (c := c) (k := 15) (fun a ha => by simp only [List.mem_cons, List.not_mem_nil, or_false] at ha; omega), frp_X7_blameIf_15 (fun a ha => hj a (by simp only [List.mem_cons, List.not_mem_nil, or_false] at ha ⊢; omega))]; done) | rfl
theorem frp_X7_noteCampaign_c {c : Nat} {G : mG} (hc : c = 40 ∨ c = 52) {i : Nat} (hj : ∀ a ∈ ([11] : List Nat), i ≠ a) : (e_X7_noteCampaign c G ) c i = G c i := by
  unfold e_X7_noteCampaign
  repeat' with_reducible first | apply ite_f | apply ite_f2 | apply ite_p | apply ite_p2
  all_goals first | (simp only [gs_at_ne (hj 11 (by simp)), gs_ne (show (c) ≠ (15) from by omega), gs_ne (show (c) ≠ (16) from by omega), gs_ne (show (c) ≠ (c + 1) from by omega), gs_ne (show (c) ≠ (c + 2) from by omega), frp_X1_addCampaign_c (c := c) hc (fun a ha => hj a (by simp only [List.mem_cons, List.not_mem_nil, or_false] at ha ⊢; omega)), fr_X7_blameIf (k := c) (fun a ha => by simp only [List.mem_cons, List.not_mem_nil, or_false] at ha; omega)]; done) | rfl
theorem fr_X7_noteCampaign {c : Nat} {G : mG} {k : Nat} (hk : ∀ a ∈ ([15, 16, c, c + 1, c + 2] : List Nat), k ≠ a) : (e_X7_noteCampaign c G ) k = G k := by
  unfold e_X7_noteCampaign
  repeat' with_reducible first | apply ite_f | apply ite_f2 | apply ite_p | apply ite_p2
  all_goals first | (simp only [gs_ne (hk (15) (by simp)), gs_ne (hk (16) (by simp)), gs_ne (hk (c) (by simp)), gs_ne (hk (c + 1) (by simp)), gs_ne (hk (c + 2) (by simp)), fr_X1_addCampaign (c := c) (fun a ha => hk a (by simp only [List.mem_cons, List.not_mem_nil, or_false] at ha ⊢; omega)), fr_X7_blameIf (fun a ha => hk a (by simp only [List.mem_cons, List.not_mem_nil, or_false] at ha ⊢; omega))]; done) | rfl
theorem sp_X7_noteCampaign {D : Nat → Bool} {d : Nat} {c : Nat} {G : mG} {Q : Option mV → mG → Prop} (hc : c = 40 ∨ c = 52) (hp : G 15 9 = ((c + 5 : Nat) : Int)) (h11 : 0 ≤ G c 11 ∧ G c 11 ≤ 8) (hD : ∀ k, D k = false → inN [15, 16, c, c + 1, c + 2] k = false) (h : Q none (e_X7_noteCampaign c G )) : P2 D (d + 3) M_X7_noteCampaign [mR 20] G Q := by
  rcases hc with rfl | rfl
  · skip
    unfold e_X7_noteCampaign at h
    try simp only [Nat.reduceAdd, Nat.reduceSub] at h
    have hp : G 15 9 = 45 := hp
    refine MP.to (D2 := inN [15, 16, 40, 41, 42]) (Q2 := Q) ?_ hD (fun v G' q _ => q)
    refine (show P2 (inN [15, 16, 40, 41, 42]) (d + 3) M_X7_noteCampaign [mR 20] G Q from ?_)
    refine p2_vc [31, 39, 61] 400 oo_X7 q_X7_noteCampaign (by decide) rfl (Nat.le_of_ble_eq_true rfl) ?_
    refine sp_X10_name  ?_
    refine sp_X7_campaignOf (by decide) (hp) (h11) ?_
    refine ⟨fun (c3 : (f_X7_campaignOf 40 G (f_X10_name G )) = (-1)) => ?_, fun (c3 : ¬ (f_X7_campaignOf 40 G (f_X10_name G )) = (-1)) => ?_⟩
    · rw [if_pos c3] at h
      refine sp_X7_blameIf  (insub (by decide)) ?_
      refine (show W2 o_X7 M_X7_noteCampaign (inN [15, 16, 40, 41, 42]) (d + 3) Q 31 [some (mR 20), some (mJ (f_X10_name G )), none, none] [mR (Int.toNat ((e_X7_blameIf G 0 3) 15 9))] (e_X7_blameIf G 0 3) from ?_)
      rw [show ((e_X7_blameIf G 0 3) 15 9) = 45 from by (try simp (disch := decide) only [gs_ne, gs_at_ne, fr_X7_blameIf, frp_X7_blameIf_15]); exact hp]
      refine (show W2 o_X7 M_X7_noteCampaign (inN [15, 16, 40, 41, 42]) (d + 3) Q 31 [some (mR 20), some (mJ (f_X10_name G )), none, none] [mR 45] (e_X7_blameIf G 0 3) from ?_)
      refine w2_vc [31, 39, 61] 400 oo_X7 q_X7_noteCampaign ?_
      refine sp_X1_campaigns (by decide) ?_
      have c6 := (show f_X1_campaigns 40 (e_X7_blameIf G 0 3) = (e_X7_blameIf G 0 3) 40 11 from rfl)
      have c7 := (show f_X1_campaigns 40 (e_X7_blameIf G 0 3) = G 40 11 from by simp (disch := decide) only [f_X1_campaigns, fr_X7_blameIf])
      refine (show W2 o_X7 M_X7_noteCampaign (inN [15, 16, 40, 41, 42]) (d + 3) Q 39 [some (mR 20), some (mJ (f_X10_name G )), none, some (mI (f_X1_campaigns 40 (e_X7_blameIf G 0 3) ))] [mR (Int.toNat ((e_X7_blameIf G 0 3) 15 9))] (e_X7_blameIf G 0 3) from ?_)
      rw [show ((e_X7_blameIf G 0 3) 15 9) = 45 from by (try simp (disch := decide) only [gs_ne, gs_at_ne, fr_X7_blameIf, frp_X7_blameIf_15]); exact hp]
      refine (show W2 o_X7 M_X7_noteCampaign (inN [15, 16, 40, 41, 42]) (d + 3) Q 39 [some (mR 20), some (mJ (f_X10_name G )), none, some (mI (f_X1_campaigns 40 (e_X7_blameIf G 0 3) ))] [mR 45] (e_X7_blameIf G 0 3) from ?_)
      refine w2_vc [31, 39, 61] 400 oo_X7 q_X7_noteCampaign ?_
      refine sp_X1_addCampaign (by decide) (insub (by decide)) ?_
      refine ⟨fun (c9 : (r_X1_addCampaign 40 (e_X7_blameIf G 0 3) ).1 = 0) => ?_, fun (c9 : ¬ (r_X1_addCampaign 40 (e_X7_blameIf G 0 3) ).1 = 0) => ?_⟩
      · rw [if_pos c9] at h
        refine (show W2 o_X7 M_X7_noteCampaign (inN [15, 16, 40, 41, 42]) (d + 3) Q 61 [some (mR 20), some (mJ (f_X10_name G )), none, some (mI (f_X1_campaigns 40 (e_X7_blameIf G 0 3) ))] [] (r_X1_addCampaign 40 (e_X7_blameIf G 0 3) ).2 from ?_)
        refine w2_vc [31, 39, 61] 400 oo_X7 q_X7_noteCampaign ?_
        exact h
      · rw [if_neg (c9)] at h
        refine ⟨fun (c10 : ((8 : Nat) : Int) ≤ (f_X1_campaigns 40 (e_X7_blameIf G 0 3) )) => ?_, fun (c10 : (f_X1_campaigns 40 (e_X7_blameIf G 0 3) ) < ((8 : Nat) : Int)) => ?_⟩
        · rw [if_pos c10] at h
          refine (show W2 o_X7 M_X7_noteCampaign (inN [15, 16, 40, 41, 42]) (d + 3) Q 61 [some (mR 20), some (mJ (f_X10_name G )), none, some (mI (f_X1_campaigns 40 (e_X7_blameIf G 0 3) ))] [] (r_X1_addCampaign 40 (e_X7_blameIf G 0 3) ).2 from ?_)
          refine w2_vc [31, 39, 61] 400 oo_X7 q_X7_noteCampaign ?_
          exact h
        · rw [if_neg (Int.not_le.mpr c10)] at h
          refine ⟨(show 0 ≤ (f_X1_campaigns 40 (e_X7_blameIf G 0 3) ) ∧ (f_X1_campaigns 40 (e_X7_blameIf G 0 3) ) < ((8 : Nat) : Int) from by first | omega | (simp (disch := omega) only [w32_i]; omega)), ?_⟩
          refine (show W2 o_X7 M_X7_noteCampaign (inN [15, 16, 40, 41, 42]) (d + 3) Q 61 [some (mR 20), some (mJ (f_X10_name G )), none, some (mI (f_X1_campaigns 40 (e_X7_blameIf G 0 3) ))] [] (gs (r_X1_addCampaign 40 (e_X7_blameIf G 0 3) ).2 16 (Int.toNat (f_X1_campaigns 40 (e_X7_blameIf G 0 3) )) (f_X10_name G )) from ?_)
          refine w2_vc [31, 39, 61] 400 oo_X7 q_X7_noteCampaign ?_
          exact h
    · rw [if_neg (c3)] at h
      refine sp_X7_blameIf  (insub (by decide)) ?_
      refine (show W2 o_X7 M_X7_noteCampaign (inN [15, 16, 40, 41, 42]) (d + 3) Q 31 [some (mR 20), some (mJ (f_X10_name G )), none, none] [mR (Int.toNat ((e_X7_blameIf G 1 3) 15 9))] (e_X7_blameIf G 1 3) from ?_)
      rw [show ((e_X7_blameIf G 1 3) 15 9) = 45 from by (try simp (disch := decide) only [gs_ne, gs_at_ne, fr_X1_addCampaign, frp_X1_addCampaign_c, fr_X7_blameIf, frp_X7_blameIf_15]); exact hp]
      refine (show W2 o_X7 M_X7_noteCampaign (inN [15, 16, 40, 41, 42]) (d + 3) Q 31 [some (mR 20), some (mJ (f_X10_name G )), none, none] [mR 45] (e_X7_blameIf G 1 3) from ?_)
      refine w2_vc [31, 39, 61] 400 oo_X7 q_X7_noteCampaign ?_
      refine sp_X1_campaigns (by decide) ?_
      have c13 := (show f_X1_campaigns 40 (e_X7_blameIf G 1 3) = (e_X7_blameIf G 1 3) 40 11 from rfl)
      have c14 := (show f_X1_campaigns 40 (e_X7_blameIf G 1 3) = G 40 11 from by simp (disch := decide) only [f_X1_campaigns, fr_X7_blameIf])
      refine (show W2 o_X7 M_X7_noteCampaign (inN [15, 16, 40, 41, 42]) (d + 3) Q 39 [some (mR 20), some (mJ (f_X10_name G )), none, some (mI (f_X1_campaigns 40 (e_X7_blameIf G 1 3) ))] [mR (Int.toNat ((e_X7_blameIf G 1 3) 15 9))] (e_X7_blameIf G 1 3) from ?_)
      rw [show ((e_X7_blameIf G 1 3) 15 9) = 45 from by (try simp (disch := decide) only [gs_ne, gs_at_ne, fr_X1_addCampaign, frp_X1_addCampaign_c, fr_X7_blameIf, frp_X7_blameIf_15]); exact hp]
      refine (show W2 o_X7 M_X7_noteCampaign (inN [15, 16, 40, 41, 42]) (d + 3) Q 39 [some (mR 20), some (mJ (f_X10_name G )), none, some (mI (f_X1_campaigns 40 (e_X7_blameIf G 1 3) ))] [mR 45] (e_X7_blameIf G 1 3) from ?_)
      refine w2_vc [31, 39, 61] 400 oo_X7 q_X7_noteCampaign ?_
      refine sp_X1_addCampaign (by decide) (insub (by decide)) ?_
      refine ⟨fun (c16 : (r_X1_addCampaign 40 (e_X7_blameIf G 1 3) ).1 = 0) => ?_, fun (c16 : ¬ (r_X1_addCampaign 40 (e_X7_blameIf G 1 3) ).1 = 0) => ?_⟩
      · rw [if_pos c16] at h
        refine (show W2 o_X7 M_X7_noteCampaign (inN [15, 16, 40, 41, 42]) (d + 3) Q 61 [some (mR 20), some (mJ (f_X10_name G )), none, some (mI (f_X1_campaigns 40 (e_X7_blameIf G 1 3) ))] [] (r_X1_addCampaign 40 (e_X7_blameIf G 1 3) ).2 from ?_)
        refine w2_vc [31, 39, 61] 400 oo_X7 q_X7_noteCampaign ?_
        exact h
      · rw [if_neg (c16)] at h
        refine ⟨fun (c17 : ((8 : Nat) : Int) ≤ (f_X1_campaigns 40 (e_X7_blameIf G 1 3) )) => ?_, fun (c17 : (f_X1_campaigns 40 (e_X7_blameIf G 1 3) ) < ((8 : Nat) : Int)) => ?_⟩
        · rw [if_pos c17] at h
          refine (show W2 o_X7 M_X7_noteCampaign (inN [15, 16, 40, 41, 42]) (d + 3) Q 61 [some (mR 20), some (mJ (f_X10_name G )), none, some (mI (f_X1_campaigns 40 (e_X7_blameIf G 1 3) ))] [] (r_X1_addCampaign 40 (e_X7_blameIf G 1 3) ).2 from ?_)
          refine w2_vc [31, 39, 61] 400 oo_X7 q_X7_noteCampaign ?_
          exact h
        · rw [if_neg (Int.not_le.mpr c17)] at h
          refine ⟨(show 0 ≤ (f_X1_campaigns 40 (e_X7_blameIf G 1 3) ) ∧ (f_X1_campaigns 40 (e_X7_blameIf G 1 3) ) < ((8 : Nat) : Int) from by first | omega | (simp (disch := omega) only [w32_i]; omega)), ?_⟩
          refine (show W2 o_X7 M_X7_noteCampaign (inN [15, 16, 40, 41, 42]) (d + 3) Q 61 [some (mR 20), some (mJ (f_X10_name G )), none, some (mI (f_X1_campaigns 40 (e_X7_blameIf G 1 3) ))] [] (gs (r_X1_addCampaign 40 (e_X7_blameIf G 1 3) ).2 16 (Int.toNat (f_X1_campaigns 40 (e_X7_blameIf G 1 3) )) (f_X10_name G )) from ?_)
          refine w2_vc [31, 39, 61] 400 oo_X7 q_X7_noteCampaign ?_
          exact h
  · skip
    unfold e_X7_noteCampaign at h
    try simp only [Nat.reduceAdd, Nat.reduceSub] at h
    have hp : G 15 9 = 57 := hp
    refine MP.to (D2 := inN [15, 16, 52, 53, 54]) (Q2 := Q) ?_ hD (fun v G' q _ => q)
    refine (show P2 (inN [15, 16, 52, 53, 54]) (d + 3) M_X7_noteCampaign [mR 20] G Q from ?_)
    refine p2_vc [31, 39, 61] 400 oo_X7 q_X7_noteCampaign (by decide) rfl (Nat.le_of_ble_eq_true rfl) ?_
    refine sp_X10_name  ?_
    refine sp_X7_campaignOf (by decide) (hp) (h11) ?_
    refine ⟨fun (c3 : (f_X7_campaignOf 52 G (f_X10_name G )) = (-1)) => ?_, fun (c3 : ¬ (f_X7_campaignOf 52 G (f_X10_name G )) = (-1)) => ?_⟩
    · rw [if_pos c3] at h
      refine sp_X7_blameIf  (insub (by decide)) ?_
      refine (show W2 o_X7 M_X7_noteCampaign (inN [15, 16, 52, 53, 54]) (d + 3) Q 31 [some (mR 20), some (mJ (f_X10_name G )), none, none] [mR (Int.toNat ((e_X7_blameIf G 0 3) 15 9))] (e_X7_blameIf G 0 3) from ?_)
      rw [show ((e_X7_blameIf G 0 3) 15 9) = 57 from by (try simp (disch := decide) only [gs_ne, gs_at_ne, fr_X7_blameIf, frp_X7_blameIf_15]); exact hp]
      refine (show W2 o_X7 M_X7_noteCampaign (inN [15, 16, 52, 53, 54]) (d + 3) Q 31 [some (mR 20), some (mJ (f_X10_name G )), none, none] [mR 57] (e_X7_blameIf G 0 3) from ?_)
      refine w2_vc [31, 39, 61] 400 oo_X7 q_X7_noteCampaign ?_
      refine sp_X1_campaigns (by decide) ?_
      have c6 := (show f_X1_campaigns 52 (e_X7_blameIf G 0 3) = (e_X7_blameIf G 0 3) 52 11 from rfl)
      have c7 := (show f_X1_campaigns 52 (e_X7_blameIf G 0 3) = G 52 11 from by simp (disch := decide) only [f_X1_campaigns, fr_X7_blameIf])
      refine (show W2 o_X7 M_X7_noteCampaign (inN [15, 16, 52, 53, 54]) (d + 3) Q 39 [some (mR 20), some (mJ (f_X10_name G )), none, some (mI (f_X1_campaigns 52 (e_X7_blameIf G 0 3) ))] [mR (Int.toNat ((e_X7_blameIf G 0 3) 15 9))] (e_X7_blameIf G 0 3) from ?_)
      rw [show ((e_X7_blameIf G 0 3) 15 9) = 57 from by (try simp (disch := decide) only [gs_ne, gs_at_ne, fr_X7_blameIf, frp_X7_blameIf_15]); exact hp]
      refine (show W2 o_X7 M_X7_noteCampaign (inN [15, 16, 52, 53, 54]) (d + 3) Q 39 [some (mR 20), some (mJ (f_X10_name G )), none, some (mI (f_X1_campaigns 52 (e_X7_blameIf G 0 3) ))] [mR 57] (e_X7_blameIf G 0 3) from ?_)
      refine w2_vc [31, 39, 61] 400 oo_X7 q_X7_noteCampaign ?_
      refine sp_X1_addCampaign (by decide) (insub (by decide)) ?_
      refine ⟨fun (c9 : (r_X1_addCampaign 52 (e_X7_blameIf G 0 3) ).1 = 0) => ?_, fun (c9 : ¬ (r_X1_addCampaign 52 (e_X7_blameIf G 0 3) ).1 = 0) => ?_⟩
      · rw [if_pos c9] at h
        refine (show W2 o_X7 M_X7_noteCampaign (inN [15, 16, 52, 53, 54]) (d + 3) Q 61 [some (mR 20), some (mJ (f_X10_name G )), none, some (mI (f_X1_campaigns 52 (e_X7_blameIf G 0 3) ))] [] (r_X1_addCampaign 52 (e_X7_blameIf G 0 3) ).2 from ?_)
        refine w2_vc [31, 39, 61] 400 oo_X7 q_X7_noteCampaign ?_
        exact h
      · rw [if_neg (c9)] at h
        refine ⟨fun (c10 : ((8 : Nat) : Int) ≤ (f_X1_campaigns 52 (e_X7_blameIf G 0 3) )) => ?_, fun (c10 : (f_X1_campaigns 52 (e_X7_blameIf G 0 3) ) < ((8 : Nat) : Int)) => ?_⟩
        · rw [if_pos c10] at h
          refine (show W2 o_X7 M_X7_noteCampaign (inN [15, 16, 52, 53, 54]) (d + 3) Q 61 [some (mR 20), some (mJ (f_X10_name G )), none, some (mI (f_X1_campaigns 52 (e_X7_blameIf G 0 3) ))] [] (r_X1_addCampaign 52 (e_X7_blameIf G 0 3) ).2 from ?_)
          refine w2_vc [31, 39, 61] 400 oo_X7 q_X7_noteCampaign ?_
          exact h
        · rw [if_neg (Int.not_le.mpr c10)] at h
          refine ⟨(show 0 ≤ (f_X1_campaigns 52 (e_X7_blameIf G 0 3) ) ∧ (f_X1_campaigns 52 (e_X7_blameIf G 0 3) ) < ((8 : Nat) : Int) from by first | omega | (simp (disch := omega) only [w32_i]; omega)), ?_⟩
          refine (show W2 o_X7 M_X7_noteCampaign (inN [15, 16, 52, 53, 54]) (d + 3) Q 61 [some (mR 20), some (mJ (f_X10_name G )), none, some (mI (f_X1_campaigns 52 (e_X7_blameIf G 0 3) ))] [] (gs (r_X1_addCampaign 52 (e_X7_blameIf G 0 3) ).2 16 (Int.toNat (f_X1_campaigns 52 (e_X7_blameIf G 0 3) )) (f_X10_name G )) from ?_)
          refine w2_vc [31, 39, 61] 400 oo_X7 q_X7_noteCampaign ?_
          exact h
    · rw [if_neg (c3)] at h
      refine sp_X7_blameIf  (insub (by decide)) ?_
      refine (show W2 o_X7 M_X7_noteCampaign (inN [15, 16, 52, 53, 54]) (d + 3) Q 31 [some (mR 20), some (mJ (f_X10_name G )), none, none] [mR (Int.toNat ((e_X7_blameIf G 1 3) 15 9))] (e_X7_blameIf G 1 3) from ?_)
      rw [show ((e_X7_blameIf G 1 3) 15 9) = 57 from by (try simp (disch := decide) only [gs_ne, gs_at_ne, fr_X1_addCampaign, frp_X1_addCampaign_c, fr_X7_blameIf, frp_X7_blameIf_15]); exact hp]
      refine (show W2 o_X7 M_X7_noteCampaign (inN [15, 16, 52, 53, 54]) (d + 3) Q 31 [some (mR 20), some (mJ (f_X10_name G )), none, none] [mR 57] (e_X7_blameIf G 1 3) from ?_)
      refine w2_vc [31, 39, 61] 400 oo_X7 q_X7_noteCampaign ?_
      refine sp_X1_campaigns (by decide) ?_
      have c13 := (show f_X1_campaigns 52 (e_X7_blameIf G 1 3) = (e_X7_blameIf G 1 3) 52 11 from rfl)
      have c14 := (show f_X1_campaigns 52 (e_X7_blameIf G 1 3) = G 52 11 from by simp (disch := decide) only [f_X1_campaigns, fr_X7_blameIf])
      refine (show W2 o_X7 M_X7_noteCampaign (inN [15, 16, 52, 53, 54]) (d + 3) Q 39 [some (mR 20), some (mJ (f_X10_name G )), none, some (mI (f_X1_campaigns 52 (e_X7_blameIf G 1 3) ))] [mR (Int.toNat ((e_X7_blameIf G 1 3) 15 9))] (e_X7_blameIf G 1 3) from ?_)
      rw [show ((e_X7_blameIf G 1 3) 15 9) = 57 from by (try simp (disch := decide) only [gs_ne, gs_at_ne, fr_X1_addCampaign, frp_X1_addCampaign_c, fr_X7_blameIf, frp_X7_blameIf_15]); exact hp]
      refine (show W2 o_X7 M_X7_noteCampaign (inN [15, 16, 52, 53, 54]) (d + 3) Q 39 [some (mR 20), some (mJ (f_X10_name G )), none, some (mI (f_X1_campaigns 52 (e_X7_blameIf G 1 3) ))] [mR 57] (e_X7_blameIf G 1 3) from ?_)
      refine w2_vc [31, 39, 61] 400 oo_X7 q_X7_noteCampaign ?_
      refine sp_X1_addCampaign (by decide) (insub (by decide)) ?_
      refine ⟨fun (c16 : (r_X1_addCampaign 52 (e_X7_blameIf G 1 3) ).1 = 0) => ?_, fun (c16 : ¬ (r_X1_addCampaign 52 (e_X7_blameIf G 1 3) ).1 = 0) => ?_⟩
      · rw [if_pos c16] at h
        refine (show W2 o_X7 M_X7_noteCampaign (inN [15, 16, 52, 53, 54]) (d + 3) Q 61 [some (mR 20), some (mJ (f_X10_name G )), none, some (mI (f_X1_campaigns 52 (e_X7_blameIf G 1 3) ))] [] (r_X1_addCampaign 52 (e_X7_blameIf G 1 3) ).2 from ?_)
        refine w2_vc [31, 39, 61] 400 oo_X7 q_X7_noteCampaign ?_
        exact h
      · rw [if_neg (c16)] at h
        refine ⟨fun (c17 : ((8 : Nat) : Int) ≤ (f_X1_campaigns 52 (e_X7_blameIf G 1 3) )) => ?_, fun (c17 : (f_X1_campaigns 52 (e_X7_blameIf G 1 3) ) < ((8 : Nat) : Int)) => ?_⟩
        · rw [if_pos c17] at h
          refine (show W2 o_X7 M_X7_noteCampaign (inN [15, 16, 52, 53, 54]) (d + 3) Q 61 [some (mR 20), some (mJ (f_X10_name G )), none, some (mI (f_X1_campaigns 52 (e_X7_blameIf G 1 3) ))] [] (r_X1_addCampaign 52 (e_X7_blameIf G 1 3) ).2 from ?_)
          refine w2_vc [31, 39, 61] 400 oo_X7 q_X7_noteCampaign ?_
          exact h
        · rw [if_neg (Int.not_le.mpr c17)] at h
          refine ⟨(show 0 ≤ (f_X1_campaigns 52 (e_X7_blameIf G 1 3) ) ∧ (f_X1_campaigns 52 (e_X7_blameIf G 1 3) ) < ((8 : Nat) : Int) from by first | omega | (simp (disch := omega) only [w32_i]; omega)), ?_⟩
          refine (show W2 o_X7 M_X7_noteCampaign (inN [15, 16, 52, 53, 54]) (d + 3) Q 61 [some (mR 20), some (mJ (f_X10_name G )), none, some (mI (f_X1_campaigns 52 (e_X7_blameIf G 1 3) ))] [] (gs (r_X1_addCampaign 52 (e_X7_blameIf G 1 3) ).2 16 (Int.toNat (f_X1_campaigns 52 (e_X7_blameIf G 1 3) )) (f_X10_name G )) from ?_)
          refine w2_vc [31, 39, 61] 400 oo_X7 q_X7_noteCampaign ?_
          exact h
def e_X7_noteLast (c : Nat) (G : mG) (x : Int) : mG := (if x ≤ (f_X1_firstOf c G (w32 ((f_X1_campaigns c G ) - 1))) then (e_X1_setUntil c (e_X7_blameIf G 1 5) x) else (if x ≤ 26 then (e_X1_setUntil c (e_X7_blameIf G 0 5) x) else (e_X1_setUntil c (e_X7_blameIf G 1 5) x)))
theorem frp_X7_noteLast_15 {c : Nat} {G : mG} {x : Int} (hc : c = 40 ∨ c = 52) {i : Nat} (hj : ∀ a ∈ ([10, 11] : List Nat), i ≠ a) : (e_X7_noteLast c G x) 15 i = G 15 i := by
  unfold e_X7_noteLast
  repeat' with_reducible first | apply ite_f | apply ite_f2 | apply ite_p | apply ite_p2
  all_goals first | (simp only [gs_at_ne (hj 10 (by simp)), gs_at_ne (hj 11 (by simp)), gs_ne (show (15) ≠ (c + 2) from by omega), fr_X1_setUntil (c := c) (k := 15) (fun a ha => by simp only [List.mem_cons, List.not_mem_nil, or_false] at ha; omega), frp_X7_blameIf_15 (fun a ha => hj a (by simp only [List.mem_cons, List.not_mem_nil, or_false] at ha ⊢; omega))]; done) | rfl
theorem fr_X7_noteLast {c : Nat} {G : mG} {x : Int} {k : Nat} (hk : ∀ a ∈ ([15, c + 2] : List Nat), k ≠ a) : (e_X7_noteLast c G x) k = G k := by
  unfold e_X7_noteLast
  repeat' with_reducible first | apply ite_f | apply ite_f2 | apply ite_p | apply ite_p2
  all_goals first | (simp only [gs_ne (hk (15) (by simp)), gs_ne (hk (c + 2) (by simp)), fr_X1_setUntil (c := c) (fun a ha => hk a (by simp only [List.mem_cons, List.not_mem_nil, or_false] at ha ⊢; omega)), fr_X7_blameIf (fun a ha => hk a (by simp only [List.mem_cons, List.not_mem_nil, or_false] at ha ⊢; omega))]; done) | rfl
theorem sp_X7_noteLast {D : Nat → Bool} {d : Nat} {c : Nat} {G : mG} {x : Int} {Q : Option mV → mG → Prop} (hc : c = 40 ∨ c = 52) (hp : G 15 9 = ((c + 5 : Nat) : Int)) (hD : ∀ k, D k = false → inN [15, c + 2] k = false) (h : Q none (e_X7_noteLast c G x)) : P2 D (d + 3) M_X7_noteLast [mR 20, mI x] G Q := by
  rcases hc with rfl | rfl
  · skip
    unfold e_X7_noteLast at h
    try simp only [Nat.reduceAdd, Nat.reduceSub] at h
    have hp : G 15 9 = 45 := hp
    refine MP.to (D2 := inN [15, 42]) (Q2 := Q) ?_ hD (fun v G' q _ => q)
    refine (show P2 (inN [15, 42]) (d + 3) M_X7_noteLast [mR 20, mI x] G Q from ?_)
    refine p2_vc [4, 8, 42] 400 oo_X7 q_X7_noteLast (by decide) rfl (Nat.le_of_ble_eq_true rfl) ?_
    refine (show W2 o_X7 M_X7_noteLast (inN [15, 42]) (d + 3) Q 4 [some (mR 20), some (mI x), none] [mR (Int.toNat (G 15 9))] G from ?_)
    rw [hp]
    refine (show W2 o_X7 M_X7_noteLast (inN [15, 42]) (d + 3) Q 4 [some (mR 20), some (mI x), none] [mR 45] G from ?_)
    refine w2_vc [4, 8, 42] 400 oo_X7 q_X7_noteLast ?_
    refine (show W2 o_X7 M_X7_noteLast (inN [15, 42]) (d + 3) Q 8 [some (mR 20), some (mI x), none] [mR (Int.toNat (G 15 9)), mR 45] G from ?_)
    rw [hp]
    refine (show W2 o_X7 M_X7_noteLast (inN [15, 42]) (d + 3) Q 8 [some (mR 20), some (mI x), none] [mR 45, mR 45] G from ?_)
    refine w2_vc [4, 8, 42] 400 oo_X7 q_X7_noteLast ?_
    refine sp_X1_campaigns (by decide) ?_
    have c2 := (show f_X1_campaigns 40 G = G 40 11 from rfl)
    refine sp_X1_firstOf (by decide) ?_
    refine ⟨fun (c4 : x ≤ (f_X1_firstOf 40 G (w32 ((f_X1_campaigns 40 G ) - 1)))) => ?_, fun (c4 : (f_X1_firstOf 40 G (w32 ((f_X1_campaigns 40 G ) - 1))) < x) => ?_⟩
    · rw [if_pos c4] at h
      refine sp_X7_blameIf  (insub (by decide)) ?_
      refine (show W2 o_X7 M_X7_noteLast (inN [15, 42]) (d + 3) Q 42 [some (mR 20), some (mI x), some (mI (f_X1_firstOf 40 G (w32 ((f_X1_campaigns 40 G ) - 1))))] [mR (Int.toNat ((e_X7_blameIf G 1 5) 15 9))] (e_X7_blameIf G 1 5) from ?_)
      rw [show ((e_X7_blameIf G 1 5) 15 9) = 45 from by (try simp (disch := decide) only [gs_ne, gs_at_ne, fr_X7_blameIf, frp_X7_blameIf_15]); exact hp]
      refine (show W2 o_X7 M_X7_noteLast (inN [15, 42]) (d + 3) Q 42 [some (mR 20), some (mI x), some (mI (f_X1_firstOf 40 G (w32 ((f_X1_campaigns 40 G ) - 1))))] [mR 45] (e_X7_blameIf G 1 5) from ?_)
      refine w2_vc [4, 8, 42] 400 oo_X7 q_X7_noteLast ?_
      refine sp_X1_setUntil (by decide) (insub (by decide)) ?_
      exact h
    · rw [if_neg (Int.not_le.mpr c4)] at h
      refine ⟨fun (c7 : x ≤ 26) => ?_, fun (c7 : 26 < x) => ?_⟩
      · rw [if_pos c7] at h
        refine sp_X7_blameIf  (insub (by decide)) ?_
        refine (show W2 o_X7 M_X7_noteLast (inN [15, 42]) (d + 3) Q 42 [some (mR 20), some (mI x), some (mI (f_X1_firstOf 40 G (w32 ((f_X1_campaigns 40 G ) - 1))))] [mR (Int.toNat ((e_X7_blameIf G 0 5) 15 9))] (e_X7_blameIf G 0 5) from ?_)
        rw [show ((e_X7_blameIf G 0 5) 15 9) = 45 from by (try simp (disch := decide) only [gs_ne, gs_at_ne, fr_X1_setUntil, fr_X7_blameIf, frp_X7_blameIf_15]); exact hp]
        refine (show W2 o_X7 M_X7_noteLast (inN [15, 42]) (d + 3) Q 42 [some (mR 20), some (mI x), some (mI (f_X1_firstOf 40 G (w32 ((f_X1_campaigns 40 G ) - 1))))] [mR 45] (e_X7_blameIf G 0 5) from ?_)
        refine w2_vc [4, 8, 42] 400 oo_X7 q_X7_noteLast ?_
        refine sp_X1_setUntil (by decide) (insub (by decide)) ?_
        exact h
      · rw [if_neg (Int.not_le.mpr c7)] at h
        refine sp_X7_blameIf  (insub (by decide)) ?_
        refine (show W2 o_X7 M_X7_noteLast (inN [15, 42]) (d + 3) Q 42 [some (mR 20), some (mI x), some (mI (f_X1_firstOf 40 G (w32 ((f_X1_campaigns 40 G ) - 1))))] [mR (Int.toNat ((e_X7_blameIf G 1 5) 15 9))] (e_X7_blameIf G 1 5) from ?_)
        rw [show ((e_X7_blameIf G 1 5) 15 9) = 45 from by (try simp (disch := decide) only [gs_ne, gs_at_ne, fr_X1_setUntil, fr_X7_blameIf, frp_X7_blameIf_15]); exact hp]
        refine (show W2 o_X7 M_X7_noteLast (inN [15, 42]) (d + 3) Q 42 [some (mR 20), some (mI x), some (mI (f_X1_firstOf 40 G (w32 ((f_X1_campaigns 40 G ) - 1))))] [mR 45] (e_X7_blameIf G 1 5) from ?_)
        refine w2_vc [4, 8, 42] 400 oo_X7 q_X7_noteLast ?_
        refine sp_X1_setUntil (by decide) (insub (by decide)) ?_
        exact h
  · skip
    unfold e_X7_noteLast at h
    try simp only [Nat.reduceAdd, Nat.reduceSub] at h
    have hp : G 15 9 = 57 := hp
    refine MP.to (D2 := inN [15, 54]) (Q2 := Q) ?_ hD (fun v G' q _ => q)
    refine (show P2 (inN [15, 54]) (d + 3) M_X7_noteLast [mR 20, mI x] G Q from ?_)
    refine p2_vc [4, 8, 42] 400 oo_X7 q_X7_noteLast (by decide) rfl (Nat.le_of_ble_eq_true rfl) ?_
    refine (show W2 o_X7 M_X7_noteLast (inN [15, 54]) (d + 3) Q 4 [some (mR 20), some (mI x), none] [mR (Int.toNat (G 15 9))] G from ?_)
    rw [hp]
    refine (show W2 o_X7 M_X7_noteLast (inN [15, 54]) (d + 3) Q 4 [some (mR 20), some (mI x), none] [mR 57] G from ?_)
    refine w2_vc [4, 8, 42] 400 oo_X7 q_X7_noteLast ?_
    refine (show W2 o_X7 M_X7_noteLast (inN [15, 54]) (d + 3) Q 8 [some (mR 20), some (mI x), none] [mR (Int.toNat (G 15 9)), mR 57] G from ?_)
    rw [hp]
    refine (show W2 o_X7 M_X7_noteLast (inN [15, 54]) (d + 3) Q 8 [some (mR 20), some (mI x), none] [mR 57, mR 57] G from ?_)
    refine w2_vc [4, 8, 42] 400 oo_X7 q_X7_noteLast ?_
    refine sp_X1_campaigns (by decide) ?_
    have c2 := (show f_X1_campaigns 52 G = G 52 11 from rfl)
    refine sp_X1_firstOf (by decide) ?_
    refine ⟨fun (c4 : x ≤ (f_X1_firstOf 52 G (w32 ((f_X1_campaigns 52 G ) - 1)))) => ?_, fun (c4 : (f_X1_firstOf 52 G (w32 ((f_X1_campaigns 52 G ) - 1))) < x) => ?_⟩
    · rw [if_pos c4] at h
      refine sp_X7_blameIf  (insub (by decide)) ?_
      refine (show W2 o_X7 M_X7_noteLast (inN [15, 54]) (d + 3) Q 42 [some (mR 20), some (mI x), some (mI (f_X1_firstOf 52 G (w32 ((f_X1_campaigns 52 G ) - 1))))] [mR (Int.toNat ((e_X7_blameIf G 1 5) 15 9))] (e_X7_blameIf G 1 5) from ?_)
      rw [show ((e_X7_blameIf G 1 5) 15 9) = 57 from by (try simp (disch := decide) only [gs_ne, gs_at_ne, fr_X7_blameIf, frp_X7_blameIf_15]); exact hp]
      refine (show W2 o_X7 M_X7_noteLast (inN [15, 54]) (d + 3) Q 42 [some (mR 20), some (mI x), some (mI (f_X1_firstOf 52 G (w32 ((f_X1_campaigns 52 G ) - 1))))] [mR 57] (e_X7_blameIf G 1 5) from ?_)
      refine w2_vc [4, 8, 42] 400 oo_X7 q_X7_noteLast ?_
      refine sp_X1_setUntil (by decide) (insub (by decide)) ?_
      exact h
    · rw [if_neg (Int.not_le.mpr c4)] at h
      refine ⟨fun (c7 : x ≤ 26) => ?_, fun (c7 : 26 < x) => ?_⟩
      · rw [if_pos c7] at h
        refine sp_X7_blameIf  (insub (by decide)) ?_
        refine (show W2 o_X7 M_X7_noteLast (inN [15, 54]) (d + 3) Q 42 [some (mR 20), some (mI x), some (mI (f_X1_firstOf 52 G (w32 ((f_X1_campaigns 52 G ) - 1))))] [mR (Int.toNat ((e_X7_blameIf G 0 5) 15 9))] (e_X7_blameIf G 0 5) from ?_)
        rw [show ((e_X7_blameIf G 0 5) 15 9) = 57 from by (try simp (disch := decide) only [gs_ne, gs_at_ne, fr_X1_setUntil, fr_X7_blameIf, frp_X7_blameIf_15]); exact hp]
        refine (show W2 o_X7 M_X7_noteLast (inN [15, 54]) (d + 3) Q 42 [some (mR 20), some (mI x), some (mI (f_X1_firstOf 52 G (w32 ((f_X1_campaigns 52 G ) - 1))))] [mR 57] (e_X7_blameIf G 0 5) from ?_)
        refine w2_vc [4, 8, 42] 400 oo_X7 q_X7_noteLast ?_
        refine sp_X1_setUntil (by decide) (insub (by decide)) ?_
        exact h
      · rw [if_neg (Int.not_le.mpr c7)] at h
        refine sp_X7_blameIf  (insub (by decide)) ?_
        refine (show W2 o_X7 M_X7_noteLast (inN [15, 54]) (d + 3) Q 42 [some (mR 20), some (mI x), some (mI (f_X1_firstOf 52 G (w32 ((f_X1_campaigns 52 G ) - 1))))] [mR (Int.toNat ((e_X7_blameIf G 1 5) 15 9))] (e_X7_blameIf G 1 5) from ?_)
        rw [show ((e_X7_blameIf G 1 5) 15 9) = 57 from by (try simp (disch := decide) only [gs_ne, gs_at_ne, fr_X1_setUntil, fr_X7_blameIf, frp_X7_blameIf_15]); exact hp]
        refine (show W2 o_X7 M_X7_noteLast (inN [15, 54]) (d + 3) Q 42 [some (mR 20), some (mI x), some (mI (f_X1_firstOf 52 G (w32 ((f_X1_campaigns 52 G ) - 1))))] [mR 57] (e_X7_blameIf G 1 5) from ?_)
        refine w2_vc [4, 8, 42] 400 oo_X7 q_X7_noteLast ?_
        refine sp_X1_setUntil (by decide) (insub (by decide)) ?_
        exact h
def e_X7_noteClause (c : Nat) (G : mG) (x : Int) : mG := (if x = 17 then G else (gs (r_X1_addClause c G x).2 15 7 0))
theorem frp_X7_noteClause_15 {c : Nat} {G : mG} {x : Int} (hc : c = 40 ∨ c = 52) {i : Nat} (hj : ∀ a ∈ ([7] : List Nat), i ≠ a) : (e_X7_noteClause c G x) 15 i = G 15 i := by
  unfold e_X7_noteClause
  repeat' with_reducible first | apply ite_f | apply ite_f2 | apply ite_p | apply ite_p2
  all_goals first | (simp only [gs_at_ne (hj 7 (by simp)), gs_ne (show (15) ≠ (c) from by omega), gs_ne (show (15) ≠ (c + 4) from by omega), gs_ne (show (15) ≠ (c + 5) from by omega), gs_ne (show (15) ≠ (c + 6) from by omega), gs_ne (show (15) ≠ (c + 7) from by omega), gs_ne (show (15) ≠ (c + 8) from by omega), gs_ne (show (15) ≠ (c + 9) from by omega), gs_ne (show (15) ≠ (c + 10) from by omega), fr_X1_addClause (c := c) (k := 15) (fun a ha => by simp only [List.mem_cons, List.not_mem_nil, or_false] at ha; omega)]; done) | rfl
theorem frp_X7_noteClause_c {c : Nat} {G : mG} {x : Int} (hc : c = 40 ∨ c = 52) {i : Nat} (hj : ∀ a ∈ ([12] : List Nat), i ≠ a) : (e_X7_noteClause c G x) c i = G c i := by
  unfold e_X7_noteClause
  repeat' with_reducible first | apply ite_f | apply ite_f2 | apply ite_p | apply ite_p2
  all_goals first | (simp only [gs_at_ne (hj 12 (by simp)), gs_ne (show (c) ≠ (15) from by omega), gs_ne (show (c) ≠ (c + 4) from by omega), gs_ne (show (c) ≠ (c + 5) from by omega), gs_ne (show (c) ≠ (c + 6) from by omega), gs_ne (show (c) ≠ (c + 7) from by omega), gs_ne (show (c) ≠ (c + 8) from by omega), gs_ne (show (c) ≠ (c + 9) from by omega), gs_ne (show (c) ≠ (c + 10) from by omega), frp_X1_addClause_c (c := c) hc (fun a ha => hj a (by simp only [List.mem_cons, List.not_mem_nil, or_false] at ha ⊢; omega))]; done) | rfl
theorem fr_X7_noteClause {c : Nat} {G : mG} {x : Int} {k : Nat} (hk : ∀ a ∈ ([15, c, c + 4, c + 5, c + 6, c + 7, c + 8, c + 9, c + 10] : List Nat), k ≠ a) : (e_X7_noteClause c G x) k = G k := by
  unfold e_X7_noteClause
  repeat' with_reducible first | apply ite_f | apply ite_f2 | apply ite_p | apply ite_p2
  all_goals first | (simp only [gs_ne (hk (15) (by simp)), gs_ne (hk (c) (by simp)), gs_ne (hk (c + 4) (by simp)), gs_ne (hk (c + 5) (by simp)), gs_ne (hk (c + 6) (by simp)), gs_ne (hk (c + 7) (by simp)), gs_ne (hk (c + 8) (by simp)), gs_ne (hk (c + 9) (by simp)), gs_ne (hk (c + 10) (by simp)), fr_X1_addClause (c := c) (fun a ha => hk a (by simp only [List.mem_cons, List.not_mem_nil, or_false] at ha ⊢; omega))]; done) | rfl
theorem sp_X7_noteClause {D : Nat → Bool} {d : Nat} {c : Nat} {G : mG} {x : Int} {Q : Option mV → mG → Prop} (hc : c = 40 ∨ c = 52) (hp : G 15 9 = ((c + 5 : Nat) : Int)) (hD : ∀ k, D k = false → inN [15, c, c + 4, c + 5, c + 6, c + 7, c + 8, c + 9, c + 10] k = false) (h : Q none (e_X7_noteClause c G x)) : P2 D (d + 2) M_X7_noteClause [mR 20, mI x] G Q := by
  rcases hc with rfl | rfl
  · skip
    unfold e_X7_noteClause at h
    try simp only [Nat.reduceAdd, Nat.reduceSub] at h
    have hp : G 15 9 = 45 := hp
    refine MP.to (D2 := inN [15, 40, 44, 45, 46, 47, 48, 49, 50]) (Q2 := Q) ?_ hD (fun v G' q _ => q)
    refine (show P2 (inN [15, 40, 44, 45, 46, 47, 48, 49, 50]) (d + 2) M_X7_noteClause [mR 20, mI x] G Q from ?_)
    refine p2_vc [10, 20] 400 oo_X7 q_X7_noteClause (by decide) rfl (Nat.le_of_ble_eq_true rfl) ?_
    refine ⟨fun (c1 : x = 17) => ?_, fun (c1 : ¬ x = 17) => ?_⟩
    · rw [if_pos c1] at h
      refine (show W2 o_X7 M_X7_noteClause (inN [15, 40, 44, 45, 46, 47, 48, 49, 50]) (d + 2) Q 20 [some (mR 20), some (mI x)] [] G from ?_)
      refine w2_vc [10, 20] 400 oo_X7 q_X7_noteClause ?_
      exact h
    · rw [if_neg (c1)] at h
      refine (show W2 o_X7 M_X7_noteClause (inN [15, 40, 44, 45, 46, 47, 48, 49, 50]) (d + 2) Q 10 [some (mR 20), some (mI x)] [mR (Int.toNat (G 15 9))] G from ?_)
      rw [hp]
      refine (show W2 o_X7 M_X7_noteClause (inN [15, 40, 44, 45, 46, 47, 48, 49, 50]) (d + 2) Q 10 [some (mR 20), some (mI x)] [mR 45] G from ?_)
      refine w2_vc [10, 20] 400 oo_X7 q_X7_noteClause ?_
      refine sp_X1_addClause (by decide) (insub (by decide)) ?_
      refine ⟨by omega, ?_⟩
      refine (show W2 o_X7 M_X7_noteClause (inN [15, 40, 44, 45, 46, 47, 48, 49, 50]) (d + 2) Q 20 [some (mR 20), some (mI x)] [] (gs (r_X1_addClause 40 G x).2 15 7 0) from ?_)
      refine w2_vc [10, 20] 400 oo_X7 q_X7_noteClause ?_
      exact h
  · skip
    unfold e_X7_noteClause at h
    try simp only [Nat.reduceAdd, Nat.reduceSub] at h
    have hp : G 15 9 = 57 := hp
    refine MP.to (D2 := inN [15, 52, 56, 57, 58, 59, 60, 61, 62]) (Q2 := Q) ?_ hD (fun v G' q _ => q)
    refine (show P2 (inN [15, 52, 56, 57, 58, 59, 60, 61, 62]) (d + 2) M_X7_noteClause [mR 20, mI x] G Q from ?_)
    refine p2_vc [10, 20] 400 oo_X7 q_X7_noteClause (by decide) rfl (Nat.le_of_ble_eq_true rfl) ?_
    refine ⟨fun (c1 : x = 17) => ?_, fun (c1 : ¬ x = 17) => ?_⟩
    · rw [if_pos c1] at h
      refine (show W2 o_X7 M_X7_noteClause (inN [15, 52, 56, 57, 58, 59, 60, 61, 62]) (d + 2) Q 20 [some (mR 20), some (mI x)] [] G from ?_)
      refine w2_vc [10, 20] 400 oo_X7 q_X7_noteClause ?_
      exact h
    · rw [if_neg (c1)] at h
      refine (show W2 o_X7 M_X7_noteClause (inN [15, 52, 56, 57, 58, 59, 60, 61, 62]) (d + 2) Q 10 [some (mR 20), some (mI x)] [mR (Int.toNat (G 15 9))] G from ?_)
      rw [hp]
      refine (show W2 o_X7 M_X7_noteClause (inN [15, 52, 56, 57, 58, 59, 60, 61, 62]) (d + 2) Q 10 [some (mR 20), some (mI x)] [mR 57] G from ?_)
      refine w2_vc [10, 20] 400 oo_X7 q_X7_noteClause ?_
      refine sp_X1_addClause (by decide) (insub (by decide)) ?_
      refine ⟨by omega, ?_⟩
      refine (show W2 o_X7 M_X7_noteClause (inN [15, 52, 56, 57, 58, 59, 60, 61, 62]) (d + 2) Q 20 [some (mR 20), some (mI x)] [] (gs (r_X1_addClause 52 G x).2 15 7 0) from ?_)
      refine w2_vc [10, 20] 400 oo_X7 q_X7_noteClause ?_
      exact h
def e_X7_noteDistrict (c : Nat) (G : mG) (x : Int) : mG := (if (f_X1_wantOf c G (w32 ((f_X1_campaigns c G ) - 1)) x) = (-1) then (if ¬ (f_X0_isDistrict (e_X7_blameIf G 0 3) x) = 0 then (e_X1_setDistrict c (e_X7_blameIf (e_X7_blameIf G 0 3) 0 5) x) else (e_X1_setDistrict c (e_X7_blameIf (e_X7_blameIf G 0 3) 1 5) x)) else (if ¬ (f_X0_isDistrict (e_X7_blameIf G 1 3) x) = 0 then (e_X1_setDistrict c (e_X7_blameIf (e_X7_blameIf G 1 3) 0 5) x) else (e_X1_setDistrict c (e_X7_blameIf (e_X7_blameIf G 1 3) 1 5) x)))
theorem frp_X7_noteDistrict_15 {c : Nat} {G : mG} {x : Int} (hc : c = 40 ∨ c = 52) {i : Nat} (hj : ∀ a ∈ ([10, 11] : List Nat), i ≠ a) : (e_X7_noteDistrict c G x) 15 i = G 15 i := by
  unfold e_X7_noteDistrict
  repeat' with_reducible first | apply ite_f | apply ite_f2 | apply ite_p | apply ite_p2
  all_goals first | (simp only [gs_at_ne (hj 10 (by simp)), gs_at_ne (hj 11 (by simp)), gs_ne (show (15) ≠ (c + 7) from by omega), fr_X1_setDistrict (c := c) (k := 15) (fun a ha => by simp only [List.mem_cons, List.not_mem_nil, or_false] at ha; omega), frp_X7_blameIf_15 (fun a ha => hj a (by simp only [List.mem_cons, List.not_mem_nil, or_false] at ha ⊢; omega))]; done) | rfl
theorem fr_X7_noteDistrict {c : Nat} {G : mG} {x : Int} {k : Nat} (hk : ∀ a ∈ ([15, c + 7] : List Nat), k ≠ a) : (e_X7_noteDistrict c G x) k = G k := by
  unfold e_X7_noteDistrict
  repeat' with_reducible first | apply ite_f | apply ite_f2 | apply ite_p | apply ite_p2
  all_goals first | (simp only [gs_ne (hk (15) (by simp)), gs_ne (hk (c + 7) (by simp)), fr_X1_setDistrict (c := c) (fun a ha => hk a (by simp only [List.mem_cons, List.not_mem_nil, or_false] at ha ⊢; omega)), fr_X7_blameIf (fun a ha => hk a (by simp only [List.mem_cons, List.not_mem_nil, or_false] at ha ⊢; omega))]; done) | rfl
theorem sp_X7_noteDistrict {D : Nat → Bool} {d : Nat} {c : Nat} {G : mG} {x : Int} {Q : Option mV → mG → Prop} (hc : c = 40 ∨ c = 52) (hp : G 15 9 = ((c + 5 : Nat) : Int)) (h12 : G c 12 ≤ 40) (hD : ∀ k, D k = false → inN [15, c + 7] k = false) (h : Q none (e_X7_noteDistrict c G x)) : P2 D (d + 4) M_X7_noteDistrict [mR 20, mI x] G Q := by
  rcases hc with rfl | rfl
  · skip
    unfold e_X7_noteDistrict at h
    try simp only [Nat.reduceAdd, Nat.reduceSub] at h
    have hp : G 15 9 = 45 := hp
    refine MP.to (D2 := inN [15, 47]) (Q2 := Q) ?_ hD (fun v G' q _ => q)
    refine (show P2 (inN [15, 47]) (d + 4) M_X7_noteDistrict [mR 20, mI x] G Q from ?_)
    refine p2_vc [4, 15, 54] 400 oo_X7 q_X7_noteDistrict (by decide) rfl (Nat.le_of_ble_eq_true rfl) ?_
    refine (show W2 o_X7 M_X7_noteDistrict (inN [15, 47]) (d + 4) Q 4 [some (mR 20), some (mI x), none] [mR (Int.toNat (G 15 9))] G from ?_)
    rw [hp]
    refine (show W2 o_X7 M_X7_noteDistrict (inN [15, 47]) (d + 4) Q 4 [some (mR 20), some (mI x), none] [mR 45] G from ?_)
    refine w2_vc [4, 15, 54] 400 oo_X7 q_X7_noteDistrict ?_
    refine sp_X1_campaigns (by decide) ?_
    have c2 := (show f_X1_campaigns 40 G = G 40 11 from rfl)
    refine (show W2 o_X7 M_X7_noteDistrict (inN [15, 47]) (d + 4) Q 15 [some (mR 20), some (mI x), some (mI (w32 ((f_X1_campaigns 40 G ) - 1)))] [mR (Int.toNat (G 15 9)), mR 20] G from ?_)
    rw [hp]
    refine (show W2 o_X7 M_X7_noteDistrict (inN [15, 47]) (d + 4) Q 15 [some (mR 20), some (mI x), some (mI (w32 ((f_X1_campaigns 40 G ) - 1)))] [mR 45, mR 20] G from ?_)
    refine w2_vc [4, 15, 54] 400 oo_X7 q_X7_noteDistrict ?_
    refine sp_X1_wantOf (by decide) (by omega) ?_
    refine ⟨fun (c4 : (f_X1_wantOf 40 G (w32 ((f_X1_campaigns 40 G ) - 1)) x) = (-1)) => ?_, fun (c4 : ¬ (f_X1_wantOf 40 G (w32 ((f_X1_campaigns 40 G ) - 1)) x) = (-1)) => ?_⟩
    · rw [if_pos c4] at h
      refine sp_X7_blameIf  (insub (by decide)) ?_
      refine sp_X0_isDistrict  ?_
      have c7 := fa_X0_isDistrict (e_X7_blameIf G 0 3) x
      refine ⟨fun (c8 : ¬ (f_X0_isDistrict (e_X7_blameIf G 0 3) x) = 0) => ?_, fun (c8 : (f_X0_isDistrict (e_X7_blameIf G 0 3) x) = 0) => ?_⟩
      · rw [if_pos c8] at h
        refine sp_X7_blameIf  (insub (by decide)) ?_
        refine (show W2 o_X7 M_X7_noteDistrict (inN [15, 47]) (d + 4) Q 54 [some (mR 20), some (mI x), some (mI (w32 ((f_X1_campaigns 40 G ) - 1)))] [mR (Int.toNat ((e_X7_blameIf (e_X7_blameIf G 0 3) 0 5) 15 9))] (e_X7_blameIf (e_X7_blameIf G 0 3) 0 5) from ?_)
        rw [show ((e_X7_blameIf (e_X7_blameIf G 0 3) 0 5) 15 9) = 45 from by (try simp (disch := decide) only [gs_ne, gs_at_ne, fr_X7_blameIf, frp_X7_blameIf_15]); exact hp]
        refine (show W2 o_X7 M_X7_noteDistrict (inN [15, 47]) (d + 4) Q 54 [some (mR 20), some (mI x), some (mI (w32 ((f_X1_campaigns 40 G ) - 1)))] [mR 45] (e_X7_blameIf (e_X7_blameIf G 0 3) 0 5) from ?_)
        refine w2_vc [4, 15, 54] 400 oo_X7 q_X7_noteDistrict ?_
        refine sp_X1_setDistrict (by decide) (insub (by decide)) ?_
        exact h
      · rw [if_neg (fun q => q c8)] at h
        refine sp_X7_blameIf  (insub (by decide)) ?_
        refine (show W2 o_X7 M_X7_noteDistrict (inN [15, 47]) (d + 4) Q 54 [some (mR 20), some (mI x), some (mI (w32 ((f_X1_campaigns 40 G ) - 1)))] [mR (Int.toNat ((e_X7_blameIf (e_X7_blameIf G 0 3) 1 5) 15 9))] (e_X7_blameIf (e_X7_blameIf G 0 3) 1 5) from ?_)
        rw [show ((e_X7_blameIf (e_X7_blameIf G 0 3) 1 5) 15 9) = 45 from by (try simp (disch := decide) only [gs_ne, gs_at_ne, fr_X1_setDistrict, fr_X7_blameIf, frp_X7_blameIf_15]); exact hp]
        refine (show W2 o_X7 M_X7_noteDistrict (inN [15, 47]) (d + 4) Q 54 [some (mR 20), some (mI x), some (mI (w32 ((f_X1_campaigns 40 G ) - 1)))] [mR 45] (e_X7_blameIf (e_X7_blameIf G 0 3) 1 5) from ?_)
        refine w2_vc [4, 15, 54] 400 oo_X7 q_X7_noteDistrict ?_
        refine sp_X1_setDistrict (by decide) (insub (by decide)) ?_
        exact h
    · rw [if_neg (c4)] at h
      refine sp_X7_blameIf  (insub (by decide)) ?_
      refine sp_X0_isDistrict  ?_
      have c15 := fa_X0_isDistrict (e_X7_blameIf G 1 3) x
      refine ⟨fun (c16 : ¬ (f_X0_isDistrict (e_X7_blameIf G 1 3) x) = 0) => ?_, fun (c16 : (f_X0_isDistrict (e_X7_blameIf G 1 3) x) = 0) => ?_⟩
      · rw [if_pos c16] at h
        refine sp_X7_blameIf  (insub (by decide)) ?_
        refine (show W2 o_X7 M_X7_noteDistrict (inN [15, 47]) (d + 4) Q 54 [some (mR 20), some (mI x), some (mI (w32 ((f_X1_campaigns 40 G ) - 1)))] [mR (Int.toNat ((e_X7_blameIf (e_X7_blameIf G 1 3) 0 5) 15 9))] (e_X7_blameIf (e_X7_blameIf G 1 3) 0 5) from ?_)
        rw [show ((e_X7_blameIf (e_X7_blameIf G 1 3) 0 5) 15 9) = 45 from by (try simp (disch := decide) only [gs_ne, gs_at_ne, fr_X1_setDistrict, fr_X7_blameIf, frp_X7_blameIf_15]); exact hp]
        refine (show W2 o_X7 M_X7_noteDistrict (inN [15, 47]) (d + 4) Q 54 [some (mR 20), some (mI x), some (mI (w32 ((f_X1_campaigns 40 G ) - 1)))] [mR 45] (e_X7_blameIf (e_X7_blameIf G 1 3) 0 5) from ?_)
        refine w2_vc [4, 15, 54] 400 oo_X7 q_X7_noteDistrict ?_
        refine sp_X1_setDistrict (by decide) (insub (by decide)) ?_
        exact h
      · rw [if_neg (fun q => q c16)] at h
        refine sp_X7_blameIf  (insub (by decide)) ?_
        refine (show W2 o_X7 M_X7_noteDistrict (inN [15, 47]) (d + 4) Q 54 [some (mR 20), some (mI x), some (mI (w32 ((f_X1_campaigns 40 G ) - 1)))] [mR (Int.toNat ((e_X7_blameIf (e_X7_blameIf G 1 3) 1 5) 15 9))] (e_X7_blameIf (e_X7_blameIf G 1 3) 1 5) from ?_)
        rw [show ((e_X7_blameIf (e_X7_blameIf G 1 3) 1 5) 15 9) = 45 from by (try simp (disch := decide) only [gs_ne, gs_at_ne, fr_X1_setDistrict, fr_X7_blameIf, frp_X7_blameIf_15]); exact hp]
        refine (show W2 o_X7 M_X7_noteDistrict (inN [15, 47]) (d + 4) Q 54 [some (mR 20), some (mI x), some (mI (w32 ((f_X1_campaigns 40 G ) - 1)))] [mR 45] (e_X7_blameIf (e_X7_blameIf G 1 3) 1 5) from ?_)
        refine w2_vc [4, 15, 54] 400 oo_X7 q_X7_noteDistrict ?_
        refine sp_X1_setDistrict (by decide) (insub (by decide)) ?_
        exact h
  · skip
    unfold e_X7_noteDistrict at h
    try simp only [Nat.reduceAdd, Nat.reduceSub] at h
    have hp : G 15 9 = 57 := hp
    refine MP.to (D2 := inN [15, 59]) (Q2 := Q) ?_ hD (fun v G' q _ => q)
    refine (show P2 (inN [15, 59]) (d + 4) M_X7_noteDistrict [mR 20, mI x] G Q from ?_)
    refine p2_vc [4, 15, 54] 400 oo_X7 q_X7_noteDistrict (by decide) rfl (Nat.le_of_ble_eq_true rfl) ?_
    refine (show W2 o_X7 M_X7_noteDistrict (inN [15, 59]) (d + 4) Q 4 [some (mR 20), some (mI x), none] [mR (Int.toNat (G 15 9))] G from ?_)
    rw [hp]
    refine (show W2 o_X7 M_X7_noteDistrict (inN [15, 59]) (d + 4) Q 4 [some (mR 20), some (mI x), none] [mR 57] G from ?_)
    refine w2_vc [4, 15, 54] 400 oo_X7 q_X7_noteDistrict ?_
    refine sp_X1_campaigns (by decide) ?_
    have c2 := (show f_X1_campaigns 52 G = G 52 11 from rfl)
    refine (show W2 o_X7 M_X7_noteDistrict (inN [15, 59]) (d + 4) Q 15 [some (mR 20), some (mI x), some (mI (w32 ((f_X1_campaigns 52 G ) - 1)))] [mR (Int.toNat (G 15 9)), mR 20] G from ?_)
    rw [hp]
    refine (show W2 o_X7 M_X7_noteDistrict (inN [15, 59]) (d + 4) Q 15 [some (mR 20), some (mI x), some (mI (w32 ((f_X1_campaigns 52 G ) - 1)))] [mR 57, mR 20] G from ?_)
    refine w2_vc [4, 15, 54] 400 oo_X7 q_X7_noteDistrict ?_
    refine sp_X1_wantOf (by decide) (by omega) ?_
    refine ⟨fun (c4 : (f_X1_wantOf 52 G (w32 ((f_X1_campaigns 52 G ) - 1)) x) = (-1)) => ?_, fun (c4 : ¬ (f_X1_wantOf 52 G (w32 ((f_X1_campaigns 52 G ) - 1)) x) = (-1)) => ?_⟩
    · rw [if_pos c4] at h
      refine sp_X7_blameIf  (insub (by decide)) ?_
      refine sp_X0_isDistrict  ?_
      have c7 := fa_X0_isDistrict (e_X7_blameIf G 0 3) x
      refine ⟨fun (c8 : ¬ (f_X0_isDistrict (e_X7_blameIf G 0 3) x) = 0) => ?_, fun (c8 : (f_X0_isDistrict (e_X7_blameIf G 0 3) x) = 0) => ?_⟩
      · rw [if_pos c8] at h
        refine sp_X7_blameIf  (insub (by decide)) ?_
        refine (show W2 o_X7 M_X7_noteDistrict (inN [15, 59]) (d + 4) Q 54 [some (mR 20), some (mI x), some (mI (w32 ((f_X1_campaigns 52 G ) - 1)))] [mR (Int.toNat ((e_X7_blameIf (e_X7_blameIf G 0 3) 0 5) 15 9))] (e_X7_blameIf (e_X7_blameIf G 0 3) 0 5) from ?_)
        rw [show ((e_X7_blameIf (e_X7_blameIf G 0 3) 0 5) 15 9) = 57 from by (try simp (disch := decide) only [gs_ne, gs_at_ne, fr_X7_blameIf, frp_X7_blameIf_15]); exact hp]
        refine (show W2 o_X7 M_X7_noteDistrict (inN [15, 59]) (d + 4) Q 54 [some (mR 20), some (mI x), some (mI (w32 ((f_X1_campaigns 52 G ) - 1)))] [mR 57] (e_X7_blameIf (e_X7_blameIf G 0 3) 0 5) from ?_)
        refine w2_vc [4, 15, 54] 400 oo_X7 q_X7_noteDistrict ?_
        refine sp_X1_setDistrict (by decide) (insub (by decide)) ?_
        exact h
      · rw [if_neg (fun q => q c8)] at h
        refine sp_X7_blameIf  (insub (by decide)) ?_
        refine (show W2 o_X7 M_X7_noteDistrict (inN [15, 59]) (d + 4) Q 54 [some (mR 20), some (mI x), some (mI (w32 ((f_X1_campaigns 52 G ) - 1)))] [mR (Int.toNat ((e_X7_blameIf (e_X7_blameIf G 0 3) 1 5) 15 9))] (e_X7_blameIf (e_X7_blameIf G 0 3) 1 5) from ?_)
        rw [show ((e_X7_blameIf (e_X7_blameIf G 0 3) 1 5) 15 9) = 57 from by (try simp (disch := decide) only [gs_ne, gs_at_ne, fr_X1_setDistrict, fr_X7_blameIf, frp_X7_blameIf_15]); exact hp]
        refine (show W2 o_X7 M_X7_noteDistrict (inN [15, 59]) (d + 4) Q 54 [some (mR 20), some (mI x), some (mI (w32 ((f_X1_campaigns 52 G ) - 1)))] [mR 57] (e_X7_blameIf (e_X7_blameIf G 0 3) 1 5) from ?_)
        refine w2_vc [4, 15, 54] 400 oo_X7 q_X7_noteDistrict ?_
        refine sp_X1_setDistrict (by decide) (insub (by decide)) ?_
        exact h
    · rw [if_neg (c4)] at h
      refine sp_X7_blameIf  (insub (by decide)) ?_
      refine sp_X0_isDistrict  ?_
      have c15 := fa_X0_isDistrict (e_X7_blameIf G 1 3) x
      refine ⟨fun (c16 : ¬ (f_X0_isDistrict (e_X7_blameIf G 1 3) x) = 0) => ?_, fun (c16 : (f_X0_isDistrict (e_X7_blameIf G 1 3) x) = 0) => ?_⟩
      · rw [if_pos c16] at h
        refine sp_X7_blameIf  (insub (by decide)) ?_
        refine (show W2 o_X7 M_X7_noteDistrict (inN [15, 59]) (d + 4) Q 54 [some (mR 20), some (mI x), some (mI (w32 ((f_X1_campaigns 52 G ) - 1)))] [mR (Int.toNat ((e_X7_blameIf (e_X7_blameIf G 1 3) 0 5) 15 9))] (e_X7_blameIf (e_X7_blameIf G 1 3) 0 5) from ?_)
        rw [show ((e_X7_blameIf (e_X7_blameIf G 1 3) 0 5) 15 9) = 57 from by (try simp (disch := decide) only [gs_ne, gs_at_ne, fr_X1_setDistrict, fr_X7_blameIf, frp_X7_blameIf_15]); exact hp]
        refine (show W2 o_X7 M_X7_noteDistrict (inN [15, 59]) (d + 4) Q 54 [some (mR 20), some (mI x), some (mI (w32 ((f_X1_campaigns 52 G ) - 1)))] [mR 57] (e_X7_blameIf (e_X7_blameIf G 1 3) 0 5) from ?_)
        refine w2_vc [4, 15, 54] 400 oo_X7 q_X7_noteDistrict ?_
        refine sp_X1_setDistrict (by decide) (insub (by decide)) ?_
        exact h
      · rw [if_neg (fun q => q c16)] at h
        refine sp_X7_blameIf  (insub (by decide)) ?_
        refine (show W2 o_X7 M_X7_noteDistrict (inN [15, 59]) (d + 4) Q 54 [some (mR 20), some (mI x), some (mI (w32 ((f_X1_campaigns 52 G ) - 1)))] [mR (Int.toNat ((e_X7_blameIf (e_X7_blameIf G 1 3) 1 5) 15 9))] (e_X7_blameIf (e_X7_blameIf G 1 3) 1 5) from ?_)
        rw [show ((e_X7_blameIf (e_X7_blameIf G 1 3) 1 5) 15 9) = 57 from by (try simp (disch := decide) only [gs_ne, gs_at_ne, fr_X1_setDistrict, fr_X7_blameIf, frp_X7_blameIf_15]); exact hp]
        refine (show W2 o_X7 M_X7_noteDistrict (inN [15, 59]) (d + 4) Q 54 [some (mR 20), some (mI x), some (mI (w32 ((f_X1_campaigns 52 G ) - 1)))] [mR 57] (e_X7_blameIf (e_X7_blameIf G 1 3) 1 5) from ?_)
        refine w2_vc [4, 15, 54] 400 oo_X7 q_X7_noteDistrict ?_
        refine sp_X1_setDistrict (by decide) (insub (by decide)) ?_
        exact h
def e_X7_noteRival (c : Nat) (G : mG) : mG := (if (w32 ((f_X1_clauses c G ) - 1)) < 0 then G else (if 40 ≤ (w32 ((f_X1_clauses c G ) - 1)) then G else (gs (gs G 17 (Int.toNat (w32 ((f_X1_clauses c G ) - 1))) (f_X10_name G )) 18 (Int.toNat (w32 ((f_X1_clauses c G ) - 1))) (f_X10_start (gs G 17 (Int.toNat (w32 ((f_X1_clauses c G ) - 1))) (f_X10_name G )) ))))
theorem fr_X7_noteRival {c : Nat} {G : mG} {k : Nat} (hk : ∀ a ∈ ([17, 18] : List Nat), k ≠ a) : (e_X7_noteRival c G ) k = G k := by
  unfold e_X7_noteRival
  repeat' with_reducible first | apply ite_f | apply ite_f2 | apply ite_p | apply ite_p2
  all_goals first | (simp only [gs_ne (hk (17) (by simp)), gs_ne (hk (18) (by simp))]; done) | rfl
theorem sp_X7_noteRival {D : Nat → Bool} {d : Nat} {c : Nat} {G : mG} {Q : Option mV → mG → Prop} (hc : c = 40 ∨ c = 52) (hp : G 15 9 = ((c + 5 : Nat) : Int)) (hD : ∀ k, D k = false → inN [17, 18] k = false) (h : Q none (e_X7_noteRival c G )) : P2 D (d + 2) M_X7_noteRival [mR 20] G Q := by
  rcases hc with rfl | rfl
  · skip
    unfold e_X7_noteRival at h
    try simp only [Nat.reduceAdd, Nat.reduceSub] at h
    have hp : G 15 9 = 45 := hp
    refine MP.to (D2 := inN [17, 18]) (Q2 := Q) ?_ hD (fun v G' q _ => q)
    refine (show P2 (inN [17, 18]) (d + 2) M_X7_noteRival [mR 20] G Q from ?_)
    refine p2_vc [4, 33, 45, 46] 400 oo_X7 q_X7_noteRival (by decide) rfl (Nat.le_of_ble_eq_true rfl) ?_
    refine (show W2 o_X7 M_X7_noteRival (inN [17, 18]) (d + 2) Q 4 [some (mR 20), none] [mR (Int.toNat (G 15 9))] G from ?_)
    rw [hp]
    refine (show W2 o_X7 M_X7_noteRival (inN [17, 18]) (d + 2) Q 4 [some (mR 20), none] [mR 45] G from ?_)
    refine w2_vc [4, 33, 45, 46] 400 oo_X7 q_X7_noteRival ?_
    refine sp_X1_clauses (by decide) ?_
    have c2 := (show f_X1_clauses 40 G = G 40 12 from rfl)
    refine ⟨fun (c3 : (w32 ((f_X1_clauses 40 G ) - 1)) < 0) => ?_, fun (c3 : 0 ≤ (w32 ((f_X1_clauses 40 G ) - 1))) => ?_⟩
    · rw [if_pos c3] at h
      refine (show W2 o_X7 M_X7_noteRival (inN [17, 18]) (d + 2) Q 46 [some (mR 20), some (mI (w32 ((f_X1_clauses 40 G ) - 1)))] [] G from ?_)
      refine w2_vc [4, 33, 45, 46] 400 oo_X7 q_X7_noteRival ?_
      exact h
    · rw [if_neg (Int.not_lt.mpr c3)] at h
      refine ⟨fun (c4 : 40 ≤ (w32 ((f_X1_clauses 40 G ) - 1))) => ?_, fun (c4 : (w32 ((f_X1_clauses 40 G ) - 1)) < 40) => ?_⟩
      · rw [if_pos c4] at h
        refine (show W2 o_X7 M_X7_noteRival (inN [17, 18]) (d + 2) Q 46 [some (mR 20), some (mI (w32 ((f_X1_clauses 40 G ) - 1)))] [] G from ?_)
        refine w2_vc [4, 33, 45, 46] 400 oo_X7 q_X7_noteRival ?_
        exact h
      · rw [if_neg (Int.not_le.mpr c4)] at h
        refine sp_X10_name  ?_
        refine ⟨(show 0 ≤ (w32 ((f_X1_clauses 40 G ) - 1)) ∧ (w32 ((f_X1_clauses 40 G ) - 1)) < ((40 : Nat) : Int) from by first | omega | (simp (disch := omega) only [w32_i]; omega)), ?_⟩
        refine (show W2 o_X7 M_X7_noteRival (inN [17, 18]) (d + 2) Q 33 [some (mR 20), some (mI (w32 ((f_X1_clauses 40 G ) - 1)))] [] (gs G 17 (Int.toNat (w32 ((f_X1_clauses 40 G ) - 1))) (f_X10_name G )) from ?_)
        refine w2_vc [4, 33, 45, 46] 400 oo_X7 q_X7_noteRival ?_
        refine sp_X10_start  ?_
        refine (show W2 o_X7 M_X7_noteRival (inN [17, 18]) (d + 2) Q 45 [some (mR 20), some (mI (w32 ((f_X1_clauses 40 G ) - 1)))] [mI (f_X10_start (gs G 17 (Int.toNat (w32 ((f_X1_clauses 40 G ) - 1))) (f_X10_name G )) ), mI (w32 ((f_X1_clauses 40 G ) - 1)), mR 23] (gs G 17 (Int.toNat (w32 ((f_X1_clauses 40 G ) - 1))) (f_X10_name G )) from ?_)
        refine w2_vc [4, 33, 45, 46] 400 oo_X7 q_X7_noteRival ?_
        refine ⟨(show 0 ≤ (w32 ((f_X1_clauses 40 G ) - 1)) ∧ (w32 ((f_X1_clauses 40 G ) - 1)) < ((40 : Nat) : Int) from by first | omega | (simp (disch := omega) only [w32_i]; omega)), ?_⟩
        refine (show W2 o_X7 M_X7_noteRival (inN [17, 18]) (d + 2) Q 46 [some (mR 20), some (mI (w32 ((f_X1_clauses 40 G ) - 1)))] [] (gs (gs G 17 (Int.toNat (w32 ((f_X1_clauses 40 G ) - 1))) (f_X10_name G )) 18 (Int.toNat (w32 ((f_X1_clauses 40 G ) - 1))) (f_X10_start (gs G 17 (Int.toNat (w32 ((f_X1_clauses 40 G ) - 1))) (f_X10_name G )) )) from ?_)
        refine w2_vc [4, 33, 45, 46] 400 oo_X7 q_X7_noteRival ?_
        exact h
  · skip
    unfold e_X7_noteRival at h
    try simp only [Nat.reduceAdd, Nat.reduceSub] at h
    have hp : G 15 9 = 57 := hp
    refine MP.to (D2 := inN [17, 18]) (Q2 := Q) ?_ hD (fun v G' q _ => q)
    refine (show P2 (inN [17, 18]) (d + 2) M_X7_noteRival [mR 20] G Q from ?_)
    refine p2_vc [4, 33, 45, 46] 400 oo_X7 q_X7_noteRival (by decide) rfl (Nat.le_of_ble_eq_true rfl) ?_
    refine (show W2 o_X7 M_X7_noteRival (inN [17, 18]) (d + 2) Q 4 [some (mR 20), none] [mR (Int.toNat (G 15 9))] G from ?_)
    rw [hp]
    refine (show W2 o_X7 M_X7_noteRival (inN [17, 18]) (d + 2) Q 4 [some (mR 20), none] [mR 57] G from ?_)
    refine w2_vc [4, 33, 45, 46] 400 oo_X7 q_X7_noteRival ?_
    refine sp_X1_clauses (by decide) ?_
    have c2 := (show f_X1_clauses 52 G = G 52 12 from rfl)
    refine ⟨fun (c3 : (w32 ((f_X1_clauses 52 G ) - 1)) < 0) => ?_, fun (c3 : 0 ≤ (w32 ((f_X1_clauses 52 G ) - 1))) => ?_⟩
    · rw [if_pos c3] at h
      refine (show W2 o_X7 M_X7_noteRival (inN [17, 18]) (d + 2) Q 46 [some (mR 20), some (mI (w32 ((f_X1_clauses 52 G ) - 1)))] [] G from ?_)
      refine w2_vc [4, 33, 45, 46] 400 oo_X7 q_X7_noteRival ?_
      exact h
    · rw [if_neg (Int.not_lt.mpr c3)] at h
      refine ⟨fun (c4 : 40 ≤ (w32 ((f_X1_clauses 52 G ) - 1))) => ?_, fun (c4 : (w32 ((f_X1_clauses 52 G ) - 1)) < 40) => ?_⟩
      · rw [if_pos c4] at h
        refine (show W2 o_X7 M_X7_noteRival (inN [17, 18]) (d + 2) Q 46 [some (mR 20), some (mI (w32 ((f_X1_clauses 52 G ) - 1)))] [] G from ?_)
        refine w2_vc [4, 33, 45, 46] 400 oo_X7 q_X7_noteRival ?_
        exact h
      · rw [if_neg (Int.not_le.mpr c4)] at h
        refine sp_X10_name  ?_
        refine ⟨(show 0 ≤ (w32 ((f_X1_clauses 52 G ) - 1)) ∧ (w32 ((f_X1_clauses 52 G ) - 1)) < ((40 : Nat) : Int) from by first | omega | (simp (disch := omega) only [w32_i]; omega)), ?_⟩
        refine (show W2 o_X7 M_X7_noteRival (inN [17, 18]) (d + 2) Q 33 [some (mR 20), some (mI (w32 ((f_X1_clauses 52 G ) - 1)))] [] (gs G 17 (Int.toNat (w32 ((f_X1_clauses 52 G ) - 1))) (f_X10_name G )) from ?_)
        refine w2_vc [4, 33, 45, 46] 400 oo_X7 q_X7_noteRival ?_
        refine sp_X10_start  ?_
        refine (show W2 o_X7 M_X7_noteRival (inN [17, 18]) (d + 2) Q 45 [some (mR 20), some (mI (w32 ((f_X1_clauses 52 G ) - 1)))] [mI (f_X10_start (gs G 17 (Int.toNat (w32 ((f_X1_clauses 52 G ) - 1))) (f_X10_name G )) ), mI (w32 ((f_X1_clauses 52 G ) - 1)), mR 23] (gs G 17 (Int.toNat (w32 ((f_X1_clauses 52 G ) - 1))) (f_X10_name G )) from ?_)
        refine w2_vc [4, 33, 45, 46] 400 oo_X7 q_X7_noteRival ?_
        refine ⟨(show 0 ≤ (w32 ((f_X1_clauses 52 G ) - 1)) ∧ (w32 ((f_X1_clauses 52 G ) - 1)) < ((40 : Nat) : Int) from by first | omega | (simp (disch := omega) only [w32_i]; omega)), ?_⟩
        refine (show W2 o_X7 M_X7_noteRival (inN [17, 18]) (d + 2) Q 46 [some (mR 20), some (mI (w32 ((f_X1_clauses 52 G ) - 1)))] [] (gs (gs G 17 (Int.toNat (w32 ((f_X1_clauses 52 G ) - 1))) (f_X10_name G )) 18 (Int.toNat (w32 ((f_X1_clauses 52 G ) - 1))) (f_X10_start (gs G 17 (Int.toNat (w32 ((f_X1_clauses 52 G ) - 1))) (f_X10_name G )) )) from ?_)
        refine w2_vc [4, 33, 45, 46] 400 oo_X7 q_X7_noteRival ?_
        exact h
def e_X7_noteUnit (c : Nat) (G : mG) (x : Int) (y : Int) : mG := (if ¬ x = 5 then (if ¬ x = 3 then (if x = 27 then G else (e_X1_addCode c G x 0)) else (e_X1_addCode c G x y)) else (gs (e_X7_hold G x) 15 6 (w32 (((e_X7_hold G x) 15 6) + 1))))
theorem frp_X7_noteUnit_15 {c : Nat} {G : mG} {x : Int} {y : Int} (hc : c = 40 ∨ c = 52) {i : Nat} (hj : ∀ a ∈ ([5, 6] : List Nat), i ≠ a) : (e_X7_noteUnit c G x y) 15 i = G 15 i := by
  unfold e_X7_noteUnit
  repeat' with_reducible first | apply ite_f | apply ite_f2 | apply ite_p | apply ite_p2
  all_goals first | (simp only [gs_at_ne (hj 5 (by simp)), gs_at_ne (hj 6 (by simp)), gs_ne (show (15) ≠ (19) from by omega), gs_ne (show (15) ≠ (c) from by omega), gs_ne (show (15) ≠ (c + 10) from by omega), gs_ne (show (15) ≠ (c + 11) from by omega), fr_X1_addCode (c := c) (k := 15) (fun a ha => by simp only [List.mem_cons, List.not_mem_nil, or_false] at ha; omega), frp_X7_hold_15 (fun a ha => hj a (by simp only [List.mem_cons, List.not_mem_nil, or_false] at ha ⊢; omega))]; done) | rfl
theorem frp_X7_noteUnit_c {c : Nat} {G : mG} {x : Int} {y : Int} (hc : c = 40 ∨ c = 52) {i : Nat} (hj : ∀ a ∈ ([13] : List Nat), i ≠ a) : (e_X7_noteUnit c G x y) c i = G c i := by
  unfold e_X7_noteUnit
  repeat' with_reducible first | apply ite_f | apply ite_f2 | apply ite_p | apply ite_p2
  all_goals first | (simp only [gs_at_ne (hj 13 (by simp)), gs_ne (show (c) ≠ (15) from by omega), gs_ne (show (c) ≠ (19) from by omega), gs_ne (show (c) ≠ (c + 10) from by omega), gs_ne (show (c) ≠ (c + 11) from by omega), frp_X1_addCode_c (c := c) hc (fun a ha => hj a (by simp only [List.mem_cons, List.not_mem_nil, or_false] at ha ⊢; omega)), fr_X7_hold (k := c) (fun a ha => by simp only [List.mem_cons, List.not_mem_nil, or_false] at ha; omega)]; done) | rfl
theorem fr_X7_noteUnit {c : Nat} {G : mG} {x : Int} {y : Int} {k : Nat} (hk : ∀ a ∈ ([15, 19, c, c + 10, c + 11] : List Nat), k ≠ a) : (e_X7_noteUnit c G x y) k = G k := by
  unfold e_X7_noteUnit
  repeat' with_reducible first | apply ite_f | apply ite_f2 | apply ite_p | apply ite_p2
  all_goals first | (simp only [gs_ne (hk (15) (by simp)), gs_ne (hk (19) (by simp)), gs_ne (hk (c) (by simp)), gs_ne (hk (c + 10) (by simp)), gs_ne (hk (c + 11) (by simp)), fr_X1_addCode (c := c) (fun a ha => hk a (by simp only [List.mem_cons, List.not_mem_nil, or_false] at ha ⊢; omega)), fr_X7_hold (fun a ha => hk a (by simp only [List.mem_cons, List.not_mem_nil, or_false] at ha ⊢; omega))]; done) | rfl
theorem sp_X7_noteUnit {D : Nat → Bool} {d : Nat} {c : Nat} {G : mG} {x : Int} {y : Int} {Q : Option mV → mG → Prop} (hc : c = 40 ∨ c = 52) (hp : G 15 9 = ((c + 5 : Nat) : Int)) (hD : ∀ k, D k = false → inN [15, 19, c, c + 10, c + 11] k = false) (h : Q none (e_X7_noteUnit c G x y)) : P2 D (d + 3) M_X7_noteUnit [mR 20, mI x, mI y] G Q := by
  rcases hc with rfl | rfl
  · skip
    unfold e_X7_noteUnit at h
    try simp only [Nat.reduceAdd, Nat.reduceSub] at h
    have hp : G 15 9 = 45 := hp
    refine MP.to (D2 := inN [15, 19, 40, 50, 51]) (Q2 := Q) ?_ hD (fun v G' q _ => q)
    refine (show P2 (inN [15, 19, 40, 50, 51]) (d + 3) M_X7_noteUnit [mR 20, mI x, mI y] G Q from ?_)
    refine p2_vc [20, 32, 50] 400 oo_X7 q_X7_noteUnit (by decide) rfl (Nat.le_of_ble_eq_true rfl) ?_
    refine ⟨fun (c1 : ¬ x = 5) => ?_, fun (c1 : x = 5) => ?_⟩
    · rw [if_pos c1] at h
      refine ⟨fun (c2 : ¬ x = 3) => ?_, fun (c2 : x = 3) => ?_⟩
      · rw [if_pos c2] at h
        refine ⟨fun (c3 : x = 27) => ?_, fun (c3 : ¬ x = 27) => ?_⟩
        · rw [if_pos c3] at h
          exact h
        · rw [if_neg (c3)] at h
          refine (show W2 o_X7 M_X7_noteUnit (inN [15, 19, 40, 50, 51]) (d + 3) Q 50 [some (mR 20), some (mI x), some (mI y)] [mR (Int.toNat (G 15 9))] G from ?_)
          rw [hp]
          refine (show W2 o_X7 M_X7_noteUnit (inN [15, 19, 40, 50, 51]) (d + 3) Q 50 [some (mR 20), some (mI x), some (mI y)] [mR 45] G from ?_)
          refine w2_vc [20, 32, 50] 400 oo_X7 q_X7_noteUnit ?_
          refine sp_X1_addCode (by decide) (insub (by decide)) ?_
          exact h
      · rw [if_neg (fun q => q c2)] at h
        refine (show W2 o_X7 M_X7_noteUnit (inN [15, 19, 40, 50, 51]) (d + 3) Q 32 [some (mR 20), some (mI x), some (mI y)] [mR (Int.toNat (G 15 9))] G from ?_)
        rw [hp]
        refine (show W2 o_X7 M_X7_noteUnit (inN [15, 19, 40, 50, 51]) (d + 3) Q 32 [some (mR 20), some (mI x), some (mI y)] [mR 45] G from ?_)
        refine w2_vc [20, 32, 50] 400 oo_X7 q_X7_noteUnit ?_
        refine sp_X1_addCode (by decide) (insub (by decide)) ?_
        exact h
    · rw [if_neg (fun q => q c1)] at h
      refine sp_X7_hold  (insub (by decide)) ?_
      refine (show W2 o_X7 M_X7_noteUnit (inN [15, 19, 40, 50, 51]) (d + 3) Q 20 [some (mR 20), some (mI x), some (mI y)] [] (gs (e_X7_hold G x) 15 6 (w32 (((e_X7_hold G x) 15 6) + 1))) from ?_)
      refine w2_vc [20, 32, 50] 400 oo_X7 q_X7_noteUnit ?_
      exact h
  · skip
    unfold e_X7_noteUnit at h
    try simp only [Nat.reduceAdd, Nat.reduceSub] at h
    have hp : G 15 9 = 57 := hp
    refine MP.to (D2 := inN [15, 19, 52, 62, 63]) (Q2 := Q) ?_ hD (fun v G' q _ => q)
    refine (show P2 (inN [15, 19, 52, 62, 63]) (d + 3) M_X7_noteUnit [mR 20, mI x, mI y] G Q from ?_)
    refine p2_vc [20, 32, 50] 400 oo_X7 q_X7_noteUnit (by decide) rfl (Nat.le_of_ble_eq_true rfl) ?_
    refine ⟨fun (c1 : ¬ x = 5) => ?_, fun (c1 : x = 5) => ?_⟩
    · rw [if_pos c1] at h
      refine ⟨fun (c2 : ¬ x = 3) => ?_, fun (c2 : x = 3) => ?_⟩
      · rw [if_pos c2] at h
        refine ⟨fun (c3 : x = 27) => ?_, fun (c3 : ¬ x = 27) => ?_⟩
        · rw [if_pos c3] at h
          exact h
        · rw [if_neg (c3)] at h
          refine (show W2 o_X7 M_X7_noteUnit (inN [15, 19, 52, 62, 63]) (d + 3) Q 50 [some (mR 20), some (mI x), some (mI y)] [mR (Int.toNat (G 15 9))] G from ?_)
          rw [hp]
          refine (show W2 o_X7 M_X7_noteUnit (inN [15, 19, 52, 62, 63]) (d + 3) Q 50 [some (mR 20), some (mI x), some (mI y)] [mR 57] G from ?_)
          refine w2_vc [20, 32, 50] 400 oo_X7 q_X7_noteUnit ?_
          refine sp_X1_addCode (by decide) (insub (by decide)) ?_
          exact h
      · rw [if_neg (fun q => q c2)] at h
        refine (show W2 o_X7 M_X7_noteUnit (inN [15, 19, 52, 62, 63]) (d + 3) Q 32 [some (mR 20), some (mI x), some (mI y)] [mR (Int.toNat (G 15 9))] G from ?_)
        rw [hp]
        refine (show W2 o_X7 M_X7_noteUnit (inN [15, 19, 52, 62, 63]) (d + 3) Q 32 [some (mR 20), some (mI x), some (mI y)] [mR 57] G from ?_)
        refine w2_vc [20, 32, 50] 400 oo_X7 q_X7_noteUnit ?_
        refine sp_X1_addCode (by decide) (insub (by decide)) ?_
        exact h
    · rw [if_neg (fun q => q c1)] at h
      refine sp_X7_hold  (insub (by decide)) ?_
      refine (show W2 o_X7 M_X7_noteUnit (inN [15, 19, 52, 62, 63]) (d + 3) Q 20 [some (mR 20), some (mI x), some (mI y)] [] (gs (e_X7_hold G x) 15 6 (w32 (((e_X7_hold G x) 15 6) + 1))) from ?_)
      refine w2_vc [20, 32, 50] 400 oo_X7 q_X7_noteUnit ?_
      exact h
def g_X7_release_7 (c : Nat) (G : mG) (x : Int) : Nat → mG → (mG ⊕ mG) := fun j1 s1 => (if ((w32 ((G 15 5) - 1)) - ((j1 : Nat) : Int)) < 0 then (Sum.inr s1) else (if ((35 : Nat) : Int) ≤ ((w32 ((G 15 5) - 1)) - ((j1 : Nat) : Int)) then (Sum.inr s1) else (if x ≤ (f_X6_rankOf s1 (s1 19 (Int.toNat ((w32 ((G 15 5) - 1)) - ((j1 : Nat) : Int))))) then (Sum.inl (gs (e_X1_addCode c s1 (s1 19 (Int.toNat ((w32 ((G 15 5) - 1)) - ((j1 : Nat) : Int)))) 0) 15 5 ((w32 ((G 15 5) - 1)) - ((j1 : Nat) : Int)))) else (Sum.inr s1))))
def e_X7_release (c : Nat) (G : mG) (x : Int) : mG := (brk (fe (g_X7_release_7 c G x) G (Int.toNat (G 15 5))))
theorem fr_g_X7_release_7 (c : Nat) (G : mG) (x : Int) {k : Nat} (hk : ∀ a ∈ ([15, c, c + 10, c + 11] : List Nat), k ≠ a) (j : Nat) (s z : mG) (h : g_X7_release_7 c G x j s = Sum.inl z) : z k = s k := by
  unfold g_X7_release_7 at h
  revert h
  repeat' with_reducible apply ite_s
  all_goals intro h
  all_goals first | (cases h; done) | (injection h with h; subst h; first | (simp only [gs_ne (hk (15) (by simp)), gs_ne (hk (c) (by simp)), gs_ne (hk (c + 10) (by simp)), gs_ne (hk (c + 11) (by simp)), fr_X1_addCode (c := c) (fun a ha => hk a (by simp only [List.mem_cons, List.not_mem_nil, or_false] at ha ⊢; omega))]; done) | rfl)
theorem fr2_g_X7_release_7 (c : Nat) (G : mG) (x : Int) {k : Nat} (hk : ∀ a ∈ ([15, c, c + 10, c + 11] : List Nat), k ≠ a) (j : Nat) (s : mG) (z : mG) (h : g_X7_release_7 c G x j s = Sum.inr z) : z k = s k := by
  unfold g_X7_release_7 at h
  revert h
  repeat' with_reducible apply ite_s
  all_goals intro h
  all_goals first | (cases h; done) | (injection h with h; subst h; first | (simp only [gs_ne (hk (15) (by simp)), gs_ne (hk (c) (by simp)), gs_ne (hk (c + 10) (by simp)), gs_ne (hk (c + 11) (by simp)), fr_X1_addCode (c := c) (fun a ha => hk a (by simp only [List.mem_cons, List.not_mem_nil, or_false] at ha ⊢; omega))]; done) | rfl)
theorem frp_g_X7_release_7_15 (c : Nat) (G : mG) (x : Int) (hc : c = 40 ∨ c = 52) {i : Nat} (hj : ∀ a ∈ ([5] : List Nat), i ≠ a) (j : Nat) (s z : mG) (h : g_X7_release_7 c G x j s = Sum.inl z) : z 15 i = s 15 i := by
  unfold g_X7_release_7 at h
  revert h
  repeat' with_reducible apply ite_s
  all_goals intro h
  all_goals first | (cases h; done) | (injection h with h; subst h; first | (simp only [gs_at_ne (hj 5 (by simp)), gs_ne (show (15) ≠ (c) from by omega), gs_ne (show (15) ≠ (c + 10) from by omega), gs_ne (show (15) ≠ (c + 11) from by omega), fr_X1_addCode (c := c) (k := 15) (fun a ha => by simp only [List.mem_cons, List.not_mem_nil, or_false] at ha; omega)]; done) | rfl)
theorem frp2_g_X7_release_7_15 (c : Nat) (G : mG) (x : Int) (hc : c = 40 ∨ c = 52) {i : Nat} (hj : ∀ a ∈ ([5] : List Nat), i ≠ a) (j : Nat) (s : mG) (z : mG) (h : g_X7_release_7 c G x j s = Sum.inr z) : z 15 i = s 15 i := by
  unfold g_X7_release_7 at h
  revert h
  repeat' with_reducible apply ite_s
  all_goals intro h
  all_goals first | (cases h; done) | (injection h with h; subst h; first | (simp only [gs_at_ne (hj 5 (by simp)), gs_ne (show (15) ≠ (c) from by omega), gs_ne (show (15) ≠ (c + 10) from by omega), gs_ne (show (15) ≠ (c + 11) from by omega), fr_X1_addCode (c := c) (k := 15) (fun a ha => by simp only [List.mem_cons, List.not_mem_nil, or_false] at ha; omega)]; done) | rfl)
theorem frp_X7_release_15 {c : Nat} {G : mG} {x : Int} (hc : c = 40 ∨ c = 52) {i : Nat} (hj : ∀ a ∈ ([5] : List Nat), i ≠ a) : (e_X7_release c G x) 15 i = G 15 i := by
  unfold e_X7_release
  repeat' with_reducible first | apply ite_f | apply ite_f2 | apply ite_p | apply ite_p2
  all_goals first | (simp only [gs_at_ne (hj 5 (by simp)), gs_ne (show (15) ≠ (c) from by omega), gs_ne (show (15) ≠ (c + 10) from by omega), gs_ne (show (15) ≠ (c + 11) from by omega), fr_X1_addCode (c := c) (k := 15) (fun a ha => by simp only [List.mem_cons, List.not_mem_nil, or_false] at ha; omega), brk_frp (frp_g_X7_release_7_15 _ _ _ hc hj) (frp2_g_X7_release_7_15 _ _ _ hc hj)]; done) | rfl
theorem frp_g_X7_release_7_c (c : Nat) (G : mG) (x : Int) (hc : c = 40 ∨ c = 52) {i : Nat} (hj : ∀ a ∈ ([13] : List Nat), i ≠ a) (j : Nat) (s z : mG) (h : g_X7_release_7 c G x j s = Sum.inl z) : z c i = s c i := by
  unfold g_X7_release_7 at h
  revert h
  repeat' with_reducible apply ite_s
  all_goals intro h
  all_goals first | (cases h; done) | (injection h with h; subst h; first | (simp only [gs_at_ne (hj 13 (by simp)), gs_ne (show (c) ≠ (15) from by omega), gs_ne (show (c) ≠ (c + 10) from by omega), gs_ne (show (c) ≠ (c + 11) from by omega), frp_X1_addCode_c (c := c) hc (fun a ha => hj a (by simp only [List.mem_cons, List.not_mem_nil, or_false] at ha ⊢; omega))]; done) | rfl)
theorem frp2_g_X7_release_7_c (c : Nat) (G : mG) (x : Int) (hc : c = 40 ∨ c = 52) {i : Nat} (hj : ∀ a ∈ ([13] : List Nat), i ≠ a) (j : Nat) (s : mG) (z : mG) (h : g_X7_release_7 c G x j s = Sum.inr z) : z c i = s c i := by
  unfold g_X7_release_7 at h
  revert h
  repeat' with_reducible apply ite_s
  all_goals intro h
  all_goals first | (cases h; done) | (injection h with h; subst h; first | (simp only [gs_at_ne (hj 13 (by simp)), gs_ne (show (c) ≠ (15) from by omega), gs_ne (show (c) ≠ (c + 10) from by omega), gs_ne (show (c) ≠ (c + 11) from by omega), frp_X1_addCode_c (c := c) hc (fun a ha => hj a (by simp only [List.mem_cons, List.not_mem_nil, or_false] at ha ⊢; omega))]; done) | rfl)
theorem frp_X7_release_c {c : Nat} {G : mG} {x : Int} (hc : c = 40 ∨ c = 52) {i : Nat} (hj : ∀ a ∈ ([13] : List Nat), i ≠ a) : (e_X7_release c G x) c i = G c i := by
  unfold e_X7_release
  repeat' with_reducible first | apply ite_f | apply ite_f2 | apply ite_p | apply ite_p2
  all_goals first | (simp only [gs_at_ne (hj 13 (by simp)), gs_ne (show (c) ≠ (15) from by omega), gs_ne (show (c) ≠ (c + 10) from by omega), gs_ne (show (c) ≠ (c + 11) from by omega), frp_X1_addCode_c (c := c) hc (fun a ha => hj a (by simp only [List.mem_cons, List.not_mem_nil, or_false] at ha ⊢; omega)), brk_frp (frp_g_X7_release_7_c _ _ _ hc hj) (frp2_g_X7_release_7_c _ _ _ hc hj)]; done) | rfl
theorem fr_X7_release {c : Nat} {G : mG} {x : Int} {k : Nat} (hk : ∀ a ∈ ([15, c, c + 10, c + 11] : List Nat), k ≠ a) : (e_X7_release c G x) k = G k := by
  unfold e_X7_release
  repeat' with_reducible first | apply ite_f | apply ite_f2 | apply ite_p | apply ite_p2
  all_goals first | (simp only [gs_ne (hk (15) (by simp)), gs_ne (hk (c) (by simp)), gs_ne (hk (c + 10) (by simp)), gs_ne (hk (c + 11) (by simp)), fr_X1_addCode (c := c) (fun a ha => hk a (by simp only [List.mem_cons, List.not_mem_nil, or_false] at ha ⊢; omega)), brk_fr (fr_g_X7_release_7 _ _ _ hk) (fr2_g_X7_release_7 _ _ _ hk)]; done) | rfl
theorem sp_X7_release {D : Nat → Bool} {d : Nat} {c : Nat} {G : mG} {x : Int} {Q : Option mV → mG → Prop} (hc : c = 40 ∨ c = 52) (hp : G 15 9 = ((c + 5 : Nat) : Int)) (hw : 0 ≤ G 15 5 ∧ G 15 5 ≤ 35) (hD : ∀ k, D k = false → inN [15, c, c + 10, c + 11] k = false) (h : Q none (e_X7_release c G x)) : P2 D (d + 3) M_X7_release [mR 20, mI x] G Q := by
  rcases hc with rfl | rfl
  · skip
    unfold e_X7_release at h
    try simp only [Nat.reduceAdd, Nat.reduceSub] at h
    have hp : G 15 9 = 45 := hp
    refine MP.to (D2 := inN [15, 40, 50, 51]) (Q2 := Q) ?_ hD (fun v G' q _ => q)
    refine (show P2 (inN [15, 40, 50, 51]) (d + 3) M_X7_release [mR 20, mI x] G Q from ?_)
    refine p2_vc [7, 40, 55, 61] 400 oo_X7 q_X7_release (by decide) rfl (Nat.le_of_ble_eq_true rfl) ?_
    refine (show W2 o_X7 M_X7_release (inN [15, 40, 50, 51]) (d + 3) Q 7 [some (mR 20), some (mI x), some (mI (w32 ((G 15 5) - 1)))] [] G from ?_)
    rw [← Int.sub_zero (w32 ((G 15 5) - 1))]
    refine (show W2 o_X7 M_X7_release (inN [15, 40, 50, 51]) (d + 3) Q 7 [some (mR 20), some (mI x), some (mI ((w32 ((G 15 5) - 1)) - ((0 : Nat) : Int)))] [] G from ?_)
    refine lupB (g_X7_release_7 40 G x) G (fun j1 s1 => W2 o_X7 M_X7_release (inN [15, 40, 50, 51]) (d + 3) Q 7 [some (mR 20), some (mI x), some (mI ((w32 ((G 15 5) - 1)) - ((j1 : Nat) : Int)))] [] s1) (fun s1 => W2 o_X7 M_X7_release (inN [15, 40, 50, 51]) (d + 3) Q 61 [some (mR 20), some (mI x), none] [] s1) (fun (_ : Nat) s => (∀ k, (∀ a ∈ ([15, 40, 50, 51] : List Nat), k ≠ a) → s k = G k) ∧ (∀ i, (∀ a ∈ ([5] : List Nat), i ≠ a) → s 15 i = G 15 i) ∧ (∀ i, (∀ a ∈ ([13] : List Nat), i ≠ a) → s 40 i = G 40 i)) (Int.toNat (G 15 5)) ⟨⟨fun _ _ => rfl, fun _ _ => rfl, fun _ _ => rfl⟩, fun j s z _ hI he => ⟨fun k hk => by rw [← hI.1 k hk]; exact fr_g_X7_release_7 40 G x hk j s z he, fun i hi => by rw [← hI.2.1 i hi]; exact frp_g_X7_release_7_15 40 G x (by decide) hi j s z he, fun i hi => by rw [← hI.2.2 i hi]; exact frp_g_X7_release_7_c 40 G x (by decide) hi j s z he⟩⟩ (fun j1 s1 hj1 hI1 ih1 => ?_) (fun s1 hI1 ih1 => ?_) ?_
    · have ih1 : sk (fun z => W2 o_X7 M_X7_release (inN [15, 40, 50, 51]) (d + 3) Q 7 [some (mR 20), some (mI x), some (mI ((w32 ((G 15 5) - 1)) - ((j1 + 1 : Nat) : Int)))] [] z) (fun r => W2 o_X7 M_X7_release (inN [15, 40, 50, 51]) (d + 3) Q 61 [some (mR 20), some (mI x), none] [] r) (g_X7_release_7 40 G x j1 s1) := ih1
      unfold g_X7_release_7 at ih1
      try simp only [Nat.reduceAdd, Nat.reduceSub] at ih1
      have hF1 := hI1.1
      have hP1_15 := hI1.2.1
      have hP1_40 := hI1.2.2
      have hw1 : w32 ((G 15 5) - 1) = (G 15 5) - 1 := w32_i (by omega) (by omega)
      refine w2_vc [7, 40, 55, 61] 400 oo_X7 q_X7_release ?_
      refine ⟨fun (c1 : ((w32 ((G 15 5) - 1)) - ((j1 : Nat) : Int)) < 0) => ?_, fun (c1 : 0 ≤ ((w32 ((G 15 5) - 1)) - ((j1 : Nat) : Int))) => ?_⟩
      · rw [if_pos c1] at ih1
        refine (show W2 o_X7 M_X7_release (inN [15, 40, 50, 51]) (d + 3) Q 61 [some (mR 20), some (mI x), some (mI ((w32 ((G 15 5) - 1)) - ((j1 : Nat) : Int)))] [] s1 from ?_)
        refine WP.fg (L' := [some (mR 20), some (mI x), none]) ⟨rfl, rfl, trivial⟩ ?_
        exact ih1
      · rw [if_neg (Int.not_lt.mpr c1)] at ih1
        refine ⟨fun (c2 : ((35 : Nat) : Int) ≤ ((w32 ((G 15 5) - 1)) - ((j1 : Nat) : Int))) => ?_, fun (c2 : ((w32 ((G 15 5) - 1)) - ((j1 : Nat) : Int)) < ((35 : Nat) : Int)) => ?_⟩
        · rw [if_pos c2] at ih1
          refine (show W2 o_X7 M_X7_release (inN [15, 40, 50, 51]) (d + 3) Q 61 [some (mR 20), some (mI x), some (mI ((w32 ((G 15 5) - 1)) - ((j1 : Nat) : Int)))] [] s1 from ?_)
          refine WP.fg (L' := [some (mR 20), some (mI x), none]) ⟨rfl, rfl, trivial⟩ ?_
          exact ih1
        · rw [if_neg (Int.not_le.mpr c2)] at ih1
          refine ⟨(show 0 ≤ ((w32 ((G 15 5) - 1)) - ((j1 : Nat) : Int)) ∧ ((w32 ((G 15 5) - 1)) - ((j1 : Nat) : Int)) < ((35 : Nat) : Int) from by first | omega | (simp (disch := omega) only [w32_i]; omega)), ?_⟩
          refine sp_X6_rankOf  ?_
          refine ⟨fun (c4 : x ≤ (f_X6_rankOf s1 (s1 19 (Int.toNat ((w32 ((G 15 5) - 1)) - ((j1 : Nat) : Int)))))) => ?_, fun (c4 : (f_X6_rankOf s1 (s1 19 (Int.toNat ((w32 ((G 15 5) - 1)) - ((j1 : Nat) : Int))))) < x) => ?_⟩
          · rw [if_pos c4] at ih1
            refine (show W2 o_X7 M_X7_release (inN [15, 40, 50, 51]) (d + 3) Q 40 [some (mR 20), some (mI x), some (mI ((w32 ((G 15 5) - 1)) - ((j1 : Nat) : Int)))] [mR (Int.toNat (s1 15 9))] s1 from ?_)
            rw [show (s1 15 9) = 45 from by (try simp (disch := decide) only [gs_ne, gs_at_ne, hF1, hP1_15, hP1_40]); exact hp]
            refine (show W2 o_X7 M_X7_release (inN [15, 40, 50, 51]) (d + 3) Q 40 [some (mR 20), some (mI x), some (mI ((w32 ((G 15 5) - 1)) - ((j1 : Nat) : Int)))] [mR 45] s1 from ?_)
            refine w2_vc [7, 40, 55, 61] 400 oo_X7 q_X7_release ?_
            refine ⟨(show 0 ≤ ((w32 ((G 15 5) - 1)) - ((j1 : Nat) : Int)) ∧ ((w32 ((G 15 5) - 1)) - ((j1 : Nat) : Int)) < ((35 : Nat) : Int) from by first | omega | (simp (disch := omega) only [w32_i]; omega)), ?_⟩
            refine sp_X1_addCode (by decide) (insub (by decide)) ?_
            refine (show W2 o_X7 M_X7_release (inN [15, 40, 50, 51]) (d + 3) Q 55 [some (mR 20), some (mI x), some (mI ((w32 ((G 15 5) - 1)) - ((j1 : Nat) : Int)))] [] (gs (e_X1_addCode 40 s1 (s1 19 (Int.toNat ((w32 ((G 15 5) - 1)) - ((j1 : Nat) : Int)))) 0) 15 5 ((w32 ((G 15 5) - 1)) - ((j1 : Nat) : Int))) from ?_)
            refine w2_vc [7, 40, 55, 61] 400 oo_X7 q_X7_release ?_
            refine (show W2 o_X7 M_X7_release (inN [15, 40, 50, 51]) (d + 3) Q 7 [some (mR 20), some (mI x), some (mI (w32 (((w32 ((G 15 5) - 1)) - ((j1 : Nat) : Int)) + (-1))))] [] (gs (e_X1_addCode 40 s1 (s1 19 (Int.toNat ((w32 ((G 15 5) - 1)) - ((j1 : Nat) : Int)))) 0) 15 5 ((w32 ((G 15 5) - 1)) - ((j1 : Nat) : Int))) from ?_)
            rw [w32_dn (by rw [w32_i (by omega) (by omega)]; omega) (by rw [w32_i (by omega) (by omega)]; omega)]
            exact ih1
          · rw [if_neg (Int.not_le.mpr c4)] at ih1
            refine (show W2 o_X7 M_X7_release (inN [15, 40, 50, 51]) (d + 3) Q 61 [some (mR 20), some (mI x), some (mI ((w32 ((G 15 5) - 1)) - ((j1 : Nat) : Int)))] [] s1 from ?_)
            refine WP.fg (L' := [some (mR 20), some (mI x), none]) ⟨rfl, rfl, trivial⟩ ?_
            exact ih1
    · skip
      have ih1 : W2 o_X7 M_X7_release (inN [15, 40, 50, 51]) (d + 3) Q 61 [some (mR 20), some (mI x), none] [] s1 := ih1
      refine (show W2 o_X7 M_X7_release (inN [15, 40, 50, 51]) (d + 3) Q 7 [some (mR 20), some (mI x), some (mI ((w32 ((G 15 5) - 1)) - (((Int.toNat (G 15 5)) : Nat) : Int)))] [] s1 from ?_)
      have hF1 := hI1.1
      have hP1_15 := hI1.2.1
      have hP1_40 := hI1.2.2
      have hw1 : w32 ((G 15 5) - 1) = (G 15 5) - 1 := w32_i (by omega) (by omega)
      refine w2_vc [7, 40, 55, 61] 400 oo_X7 q_X7_release ?_
      refine ⟨fun (c6 : ((w32 ((G 15 5) - 1)) - (((Int.toNat (G 15 5)) : Nat) : Int)) < 0) => ?_, fun (c6 : 0 ≤ ((w32 ((G 15 5) - 1)) - (((Int.toNat (G 15 5)) : Nat) : Int))) => ?_⟩
      · skip
        refine (show W2 o_X7 M_X7_release (inN [15, 40, 50, 51]) (d + 3) Q 61 [some (mR 20), some (mI x), some (mI ((w32 ((G 15 5) - 1)) - (((Int.toNat (G 15 5)) : Nat) : Int)))] [] s1 from ?_)
        refine WP.fg (L' := [some (mR 20), some (mI x), none]) ⟨rfl, rfl, trivial⟩ ?_
        exact ih1
      · skip
        refine ⟨fun (c7 : ((35 : Nat) : Int) ≤ ((w32 ((G 15 5) - 1)) - (((Int.toNat (G 15 5)) : Nat) : Int))) => ?_, fun (c7 : ((w32 ((G 15 5) - 1)) - (((Int.toNat (G 15 5)) : Nat) : Int)) < ((35 : Nat) : Int)) => ?_⟩
        · skip
          refine (show W2 o_X7 M_X7_release (inN [15, 40, 50, 51]) (d + 3) Q 61 [some (mR 20), some (mI x), some (mI ((w32 ((G 15 5) - 1)) - (((Int.toNat (G 15 5)) : Nat) : Int)))] [] s1 from ?_)
          refine WP.fg (L' := [some (mR 20), some (mI x), none]) ⟨rfl, rfl, trivial⟩ ?_
          exact ih1
        · skip
          exfalso; first | omega | (rw [w32_i (by omega) (by omega)] at c7; omega) | (simp (disch := omega) only [w32_i] at *; omega)
    · skip
      refine (show W2 o_X7 M_X7_release (inN [15, 40, 50, 51]) (d + 3) Q 61 [some (mR 20), some (mI x), none] [] (brk (fe (g_X7_release_7 40 G x) G (Int.toNat (G 15 5)))) from ?_)
      refine w2_vc [7, 40, 55, 61] 400 oo_X7 q_X7_release ?_
      exact h
  · skip
    unfold e_X7_release at h
    try simp only [Nat.reduceAdd, Nat.reduceSub] at h
    have hp : G 15 9 = 57 := hp
    refine MP.to (D2 := inN [15, 52, 62, 63]) (Q2 := Q) ?_ hD (fun v G' q _ => q)
    refine (show P2 (inN [15, 52, 62, 63]) (d + 3) M_X7_release [mR 20, mI x] G Q from ?_)
    refine p2_vc [7, 40, 55, 61] 400 oo_X7 q_X7_release (by decide) rfl (Nat.le_of_ble_eq_true rfl) ?_
    refine (show W2 o_X7 M_X7_release (inN [15, 52, 62, 63]) (d + 3) Q 7 [some (mR 20), some (mI x), some (mI (w32 ((G 15 5) - 1)))] [] G from ?_)
    rw [← Int.sub_zero (w32 ((G 15 5) - 1))]
    refine (show W2 o_X7 M_X7_release (inN [15, 52, 62, 63]) (d + 3) Q 7 [some (mR 20), some (mI x), some (mI ((w32 ((G 15 5) - 1)) - ((0 : Nat) : Int)))] [] G from ?_)
    refine lupB (g_X7_release_7 52 G x) G (fun j1 s1 => W2 o_X7 M_X7_release (inN [15, 52, 62, 63]) (d + 3) Q 7 [some (mR 20), some (mI x), some (mI ((w32 ((G 15 5) - 1)) - ((j1 : Nat) : Int)))] [] s1) (fun s1 => W2 o_X7 M_X7_release (inN [15, 52, 62, 63]) (d + 3) Q 61 [some (mR 20), some (mI x), none] [] s1) (fun (_ : Nat) s => (∀ k, (∀ a ∈ ([15, 52, 62, 63] : List Nat), k ≠ a) → s k = G k) ∧ (∀ i, (∀ a ∈ ([5] : List Nat), i ≠ a) → s 15 i = G 15 i) ∧ (∀ i, (∀ a ∈ ([13] : List Nat), i ≠ a) → s 52 i = G 52 i)) (Int.toNat (G 15 5)) ⟨⟨fun _ _ => rfl, fun _ _ => rfl, fun _ _ => rfl⟩, fun j s z _ hI he => ⟨fun k hk => by rw [← hI.1 k hk]; exact fr_g_X7_release_7 52 G x hk j s z he, fun i hi => by rw [← hI.2.1 i hi]; exact frp_g_X7_release_7_15 52 G x (by decide) hi j s z he, fun i hi => by rw [← hI.2.2 i hi]; exact frp_g_X7_release_7_c 52 G x (by decide) hi j s z he⟩⟩ (fun j1 s1 hj1 hI1 ih1 => ?_) (fun s1 hI1 ih1 => ?_) ?_
    · have ih1 : sk (fun z => W2 o_X7 M_X7_release (inN [15, 52, 62, 63]) (d + 3) Q 7 [some (mR 20), some (mI x), some (mI ((w32 ((G 15 5) - 1)) - ((j1 + 1 : Nat) : Int)))] [] z) (fun r => W2 o_X7 M_X7_release (inN [15, 52, 62, 63]) (d + 3) Q 61 [some (mR 20), some (mI x), none] [] r) (g_X7_release_7 52 G x j1 s1) := ih1
      unfold g_X7_release_7 at ih1
      try simp only [Nat.reduceAdd, Nat.reduceSub] at ih1
      have hF1 := hI1.1
      have hP1_15 := hI1.2.1
      have hP1_40 := hI1.2.2
      have hw1 : w32 ((G 15 5) - 1) = (G 15 5) - 1 := w32_i (by omega) (by omega)
      refine w2_vc [7, 40, 55, 61] 400 oo_X7 q_X7_release ?_
      refine ⟨fun (c1 : ((w32 ((G 15 5) - 1)) - ((j1 : Nat) : Int)) < 0) => ?_, fun (c1 : 0 ≤ ((w32 ((G 15 5) - 1)) - ((j1 : Nat) : Int))) => ?_⟩
      · rw [if_pos c1] at ih1
        refine (show W2 o_X7 M_X7_release (inN [15, 52, 62, 63]) (d + 3) Q 61 [some (mR 20), some (mI x), some (mI ((w32 ((G 15 5) - 1)) - ((j1 : Nat) : Int)))] [] s1 from ?_)
        refine WP.fg (L' := [some (mR 20), some (mI x), none]) ⟨rfl, rfl, trivial⟩ ?_
        exact ih1
      · rw [if_neg (Int.not_lt.mpr c1)] at ih1
        refine ⟨fun (c2 : ((35 : Nat) : Int) ≤ ((w32 ((G 15 5) - 1)) - ((j1 : Nat) : Int))) => ?_, fun (c2 : ((w32 ((G 15 5) - 1)) - ((j1 : Nat) : Int)) < ((35 : Nat) : Int)) => ?_⟩
        · rw [if_pos c2] at ih1
          refine (show W2 o_X7 M_X7_release (inN [15, 52, 62, 63]) (d + 3) Q 61 [some (mR 20), some (mI x), some (mI ((w32 ((G 15 5) - 1)) - ((j1 : Nat) : Int)))] [] s1 from ?_)
          refine WP.fg (L' := [some (mR 20), some (mI x), none]) ⟨rfl, rfl, trivial⟩ ?_
          exact ih1
        · rw [if_neg (Int.not_le.mpr c2)] at ih1
          refine ⟨(show 0 ≤ ((w32 ((G 15 5) - 1)) - ((j1 : Nat) : Int)) ∧ ((w32 ((G 15 5) - 1)) - ((j1 : Nat) : Int)) < ((35 : Nat) : Int) from by first | omega | (simp (disch := omega) only [w32_i]; omega)), ?_⟩
          refine sp_X6_rankOf  ?_
          refine ⟨fun (c4 : x ≤ (f_X6_rankOf s1 (s1 19 (Int.toNat ((w32 ((G 15 5) - 1)) - ((j1 : Nat) : Int)))))) => ?_, fun (c4 : (f_X6_rankOf s1 (s1 19 (Int.toNat ((w32 ((G 15 5) - 1)) - ((j1 : Nat) : Int))))) < x) => ?_⟩
          · rw [if_pos c4] at ih1
            refine (show W2 o_X7 M_X7_release (inN [15, 52, 62, 63]) (d + 3) Q 40 [some (mR 20), some (mI x), some (mI ((w32 ((G 15 5) - 1)) - ((j1 : Nat) : Int)))] [mR (Int.toNat (s1 15 9))] s1 from ?_)
            rw [show (s1 15 9) = 57 from by (try simp (disch := decide) only [gs_ne, gs_at_ne, hF1, hP1_15, hP1_40]); exact hp]
            refine (show W2 o_X7 M_X7_release (inN [15, 52, 62, 63]) (d + 3) Q 40 [some (mR 20), some (mI x), some (mI ((w32 ((G 15 5) - 1)) - ((j1 : Nat) : Int)))] [mR 57] s1 from ?_)
            refine w2_vc [7, 40, 55, 61] 400 oo_X7 q_X7_release ?_
            refine ⟨(show 0 ≤ ((w32 ((G 15 5) - 1)) - ((j1 : Nat) : Int)) ∧ ((w32 ((G 15 5) - 1)) - ((j1 : Nat) : Int)) < ((35 : Nat) : Int) from by first | omega | (simp (disch := omega) only [w32_i]; omega)), ?_⟩
            refine sp_X1_addCode (by decide) (insub (by decide)) ?_
            refine (show W2 o_X7 M_X7_release (inN [15, 52, 62, 63]) (d + 3) Q 55 [some (mR 20), some (mI x), some (mI ((w32 ((G 15 5) - 1)) - ((j1 : Nat) : Int)))] [] (gs (e_X1_addCode 52 s1 (s1 19 (Int.toNat ((w32 ((G 15 5) - 1)) - ((j1 : Nat) : Int)))) 0) 15 5 ((w32 ((G 15 5) - 1)) - ((j1 : Nat) : Int))) from ?_)
            refine w2_vc [7, 40, 55, 61] 400 oo_X7 q_X7_release ?_
            refine (show W2 o_X7 M_X7_release (inN [15, 52, 62, 63]) (d + 3) Q 7 [some (mR 20), some (mI x), some (mI (w32 (((w32 ((G 15 5) - 1)) - ((j1 : Nat) : Int)) + (-1))))] [] (gs (e_X1_addCode 52 s1 (s1 19 (Int.toNat ((w32 ((G 15 5) - 1)) - ((j1 : Nat) : Int)))) 0) 15 5 ((w32 ((G 15 5) - 1)) - ((j1 : Nat) : Int))) from ?_)
            rw [w32_dn (by rw [w32_i (by omega) (by omega)]; omega) (by rw [w32_i (by omega) (by omega)]; omega)]
            exact ih1
          · rw [if_neg (Int.not_le.mpr c4)] at ih1
            refine (show W2 o_X7 M_X7_release (inN [15, 52, 62, 63]) (d + 3) Q 61 [some (mR 20), some (mI x), some (mI ((w32 ((G 15 5) - 1)) - ((j1 : Nat) : Int)))] [] s1 from ?_)
            refine WP.fg (L' := [some (mR 20), some (mI x), none]) ⟨rfl, rfl, trivial⟩ ?_
            exact ih1
    · skip
      have ih1 : W2 o_X7 M_X7_release (inN [15, 52, 62, 63]) (d + 3) Q 61 [some (mR 20), some (mI x), none] [] s1 := ih1
      refine (show W2 o_X7 M_X7_release (inN [15, 52, 62, 63]) (d + 3) Q 7 [some (mR 20), some (mI x), some (mI ((w32 ((G 15 5) - 1)) - (((Int.toNat (G 15 5)) : Nat) : Int)))] [] s1 from ?_)
      have hF1 := hI1.1
      have hP1_15 := hI1.2.1
      have hP1_40 := hI1.2.2
      have hw1 : w32 ((G 15 5) - 1) = (G 15 5) - 1 := w32_i (by omega) (by omega)
      refine w2_vc [7, 40, 55, 61] 400 oo_X7 q_X7_release ?_
      refine ⟨fun (c6 : ((w32 ((G 15 5) - 1)) - (((Int.toNat (G 15 5)) : Nat) : Int)) < 0) => ?_, fun (c6 : 0 ≤ ((w32 ((G 15 5) - 1)) - (((Int.toNat (G 15 5)) : Nat) : Int))) => ?_⟩
      · skip
        refine (show W2 o_X7 M_X7_release (inN [15, 52, 62, 63]) (d + 3) Q 61 [some (mR 20), some (mI x), some (mI ((w32 ((G 15 5) - 1)) - (((Int.toNat (G 15 5)) : Nat) : Int)))] [] s1 from ?_)
        refine WP.fg (L' := [some (mR 20), some (mI x), none]) ⟨rfl, rfl, trivial⟩ ?_
        exact ih1
      · skip
        refine ⟨fun (c7 : ((35 : Nat) : Int) ≤ ((w32 ((G 15 5) - 1)) - (((Int.toNat (G 15 5)) : Nat) : Int))) => ?_, fun (c7 : ((w32 ((G 15 5) - 1)) - (((Int.toNat (G 15 5)) : Nat) : Int)) < ((35 : Nat) : Int)) => ?_⟩
        · skip
          refine (show W2 o_X7 M_X7_release (inN [15, 52, 62, 63]) (d + 3) Q 61 [some (mR 20), some (mI x), some (mI ((w32 ((G 15 5) - 1)) - (((Int.toNat (G 15 5)) : Nat) : Int)))] [] s1 from ?_)
          refine WP.fg (L' := [some (mR 20), some (mI x), none]) ⟨rfl, rfl, trivial⟩ ?_
          exact ih1
        · skip
          exfalso; first | omega | (rw [w32_i (by omega) (by omega)] at c7; omega) | (simp (disch := omega) only [w32_i] at *; omega)
    · skip
      refine (show W2 o_X7 M_X7_release (inN [15, 52, 62, 63]) (d + 3) Q 61 [some (mR 20), some (mI x), none] [] (brk (fe (g_X7_release_7 52 G x) G (Int.toNat (G 15 5)))) from ?_)
      refine w2_vc [7, 40, 55, 61] 400 oo_X7 q_X7_release ?_
      exact h
def g_X7_settleRivals_2 (c : Nat) (G : mG) : Nat → mG → mG := fun j1 s1 => (if ¬ (f_X1_kindOf c s1 ((j1 : Nat) : Int)) = 22 then s1 else (if ¬ (f_X7_campaignOf c s1 (s1 17 (Int.toNat ((j1 : Nat) : Int)))) = (-1) then (if ¬ (f_X7_campaignOf c s1 (s1 17 (Int.toNat ((j1 : Nat) : Int)))) = (f_X1_ownerOf c s1 ((j1 : Nat) : Int)) then (e_X1_setApart c s1 (f_X1_ownerOf c s1 ((j1 : Nat) : Int)) (f_X7_campaignOf c s1 (s1 17 (Int.toNat ((j1 : Nat) : Int))))) else (e_X7_blame s1 5 (s1 18 (Int.toNat ((j1 : Nat) : Int))))) else (e_X7_blame s1 4 (s1 18 (Int.toNat ((j1 : Nat) : Int))))))
def e_X7_settleRivals (c : Nat) (G : mG) : mG := (if (f_X1_clauses c (fd (g_X7_settleRivals_2 c G) G (Int.toNat (G c 12))) ) ≤ (((Int.toNat (G c 12)) : Nat) : Int) then (fd (g_X7_settleRivals_2 c G) G (Int.toNat (G c 12))) else (fd (g_X7_settleRivals_2 c G) G (Int.toNat (G c 12))))
theorem fr_g_X7_settleRivals_2 (c : Nat) (G : mG) {k : Nat} (hk : ∀ a ∈ ([15, c + 3] : List Nat), k ≠ a) (j : Nat) (s : mG) : (g_X7_settleRivals_2 c G j s) k = s k := by
  unfold g_X7_settleRivals_2
  repeat' with_reducible first | apply ite_f | apply ite_f2 | apply ite_p | apply ite_p2
  all_goals first | (simp only [gs_ne (hk (15) (by simp)), gs_ne (hk (c + 3) (by simp)), fr_X1_setApart (c := c) (fun a ha => hk a (by simp only [List.mem_cons, List.not_mem_nil, or_false] at ha ⊢; omega)), fr_X7_blame (fun a ha => hk a (by simp only [List.mem_cons, List.not_mem_nil, or_false] at ha ⊢; omega))]; done) | rfl
theorem frp_g_X7_settleRivals_2_15 (c : Nat) (G : mG) (hc : c = 40 ∨ c = 52) {i : Nat} (hj : ∀ a ∈ ([10, 11] : List Nat), i ≠ a) (j : Nat) (s : mG) : (g_X7_settleRivals_2 c G j s) 15 i = s 15 i := by
  unfold g_X7_settleRivals_2
  repeat' with_reducible first | apply ite_f | apply ite_f2 | apply ite_p | apply ite_p2
  all_goals first | (simp only [gs_at_ne (hj 10 (by simp)), gs_at_ne (hj 11 (by simp)), gs_ne (show (15) ≠ (c + 3) from by omega), fr_X1_setApart (c := c) (k := 15) (fun a ha => by simp only [List.mem_cons, List.not_mem_nil, or_false] at ha; omega), frp_X7_blame_15 (fun a ha => hj a (by simp only [List.mem_cons, List.not_mem_nil, or_false] at ha ⊢; omega))]; done) | rfl
theorem frp_X7_settleRivals_15 {c : Nat} {G : mG} (hc : c = 40 ∨ c = 52) {i : Nat} (hj : ∀ a ∈ ([10, 11] : List Nat), i ≠ a) : (e_X7_settleRivals c G ) 15 i = G 15 i := by
  unfold e_X7_settleRivals
  repeat' with_reducible first | apply ite_f | apply ite_f2 | apply ite_p | apply ite_p2
  all_goals first | (simp only [gs_at_ne (hj 10 (by simp)), gs_at_ne (hj 11 (by simp)), gs_ne (show (15) ≠ (c + 3) from by omega), fr_X1_setApart (c := c) (k := 15) (fun a ha => by simp only [List.mem_cons, List.not_mem_nil, or_false] at ha; omega), frp_X7_blame_15 (fun a ha => hj a (by simp only [List.mem_cons, List.not_mem_nil, or_false] at ha ⊢; omega)), fd_frp (frp_g_X7_settleRivals_2_15 _ _ hc hj)]; done) | rfl
theorem fr_X7_settleRivals {c : Nat} {G : mG} {k : Nat} (hk : ∀ a ∈ ([15, c + 3] : List Nat), k ≠ a) : (e_X7_settleRivals c G ) k = G k := by
  unfold e_X7_settleRivals
  repeat' with_reducible first | apply ite_f | apply ite_f2 | apply ite_p | apply ite_p2
  all_goals first | (simp only [gs_ne (hk (15) (by simp)), gs_ne (hk (c + 3) (by simp)), fr_X1_setApart (c := c) (fun a ha => hk a (by simp only [List.mem_cons, List.not_mem_nil, or_false] at ha ⊢; omega)), fr_X7_blame (fun a ha => hk a (by simp only [List.mem_cons, List.not_mem_nil, or_false] at ha ⊢; omega)), fd_fr (fr_g_X7_settleRivals_2 _ _ hk)]; done) | rfl
theorem sp_X7_settleRivals {D : Nat → Bool} {d : Nat} {c : Nat} {G : mG} {Q : Option mV → mG → Prop} (hc : c = 40 ∨ c = 52) (hp : G 15 9 = ((c + 5 : Nat) : Int)) (h11 : 0 ≤ G c 11 ∧ G c 11 ≤ 8) (h12 : G c 12 ≤ 40) (hD : ∀ k, D k = false → inN [15, c + 3] k = false) (h : Q none (e_X7_settleRivals c G )) : P2 D (d + 3) M_X7_settleRivals [mR 20] G Q := by
  rcases hc with rfl | rfl
  · skip
    unfold e_X7_settleRivals at h
    try simp only [Nat.reduceAdd, Nat.reduceSub] at h
    have hp : G 15 9 = 45 := hp
    refine MP.to (D2 := inN [15, 43]) (Q2 := Q) ?_ hD (fun v G' q _ => q)
    refine (show P2 (inN [15, 43]) (d + 3) M_X7_settleRivals [mR 20] G Q from ?_)
    refine p2_vc [2, 7, 23, 36, 94] 400 oo_X7 q_X7_settleRivals (by decide) rfl (Nat.le_of_ble_eq_true rfl) ?_
    refine (show W2 o_X7 M_X7_settleRivals (inN [15, 43]) (d + 3) Q 2 [some (mR 20), some (mI ((0 : Nat) : Int)), none, none] [] G from ?_)
    refine lupI (g_X7_settleRivals_2 40 G) G (fun j1 s1 => W2 o_X7 M_X7_settleRivals (inN [15, 43]) (d + 3) Q 2 [some (mR 20), some (mI ((j1 : Nat) : Int)), none, none] [] s1) (fun (_ : Nat) s => (∀ k, (∀ a ∈ ([15, 43] : List Nat), k ≠ a) → s k = G k) ∧ (∀ i, (∀ a ∈ ([10, 11] : List Nat), i ≠ a) → s 15 i = G 15 i)) (Int.toNat (G 40 12)) ⟨⟨fun _ _ => rfl, fun _ _ => rfl⟩, fun j s _ hI => ⟨fun k hk => by rw [← hI.1 k hk]; exact fr_g_X7_settleRivals_2 40 G hk j s, fun i hi => by rw [← hI.2 i hi]; exact frp_g_X7_settleRivals_2_15 40 G (by decide) hi j s⟩⟩ (fun j1 s1 hj1 hI1 ih1 => ?_) (fun hI1 => ?_)
    · have ih1 : W2 o_X7 M_X7_settleRivals (inN [15, 43]) (d + 3) Q 2 [some (mR 20), some (mI ((j1 + 1 : Nat) : Int)), none, none] [] (g_X7_settleRivals_2 40 G j1 s1) := ih1
      unfold g_X7_settleRivals_2 at ih1
      try simp only [Nat.reduceAdd, Nat.reduceSub] at ih1
      have hF1 := hI1.1
      have hP1_15 := hI1.2
      have hI1c : s1 40 12 = G 40 12 := by rw [hF1 40 (by decide)]
      refine w2_vc [2, 7, 23, 36, 94] 400 oo_X7 q_X7_settleRivals ?_
      refine (show W2 o_X7 M_X7_settleRivals (inN [15, 43]) (d + 3) Q 7 [some (mR 20), some (mI ((j1 : Nat) : Int)), none, none] [mR (Int.toNat (s1 15 9)), mI ((j1 : Nat) : Int)] s1 from ?_)
      rw [show (s1 15 9) = 45 from by (try simp (disch := decide) only [gs_ne, gs_at_ne, hF1, hP1_15]); exact hp]
      refine (show W2 o_X7 M_X7_settleRivals (inN [15, 43]) (d + 3) Q 7 [some (mR 20), some (mI ((j1 : Nat) : Int)), none, none] [mR 45, mI ((j1 : Nat) : Int)] s1 from ?_)
      refine w2_vc [2, 7, 23, 36, 94] 400 oo_X7 q_X7_settleRivals ?_
      refine sp_X1_clauses (by decide) ?_
      have c2 := (show f_X1_clauses 40 s1 = s1 40 12 from rfl)
      refine ⟨fun (c3 : (f_X1_clauses 40 s1 ) ≤ ((j1 : Nat) : Int)) => ?_, fun (c3 : ((j1 : Nat) : Int) < (f_X1_clauses 40 s1 )) => ?_⟩
      · skip
        exfalso; first | omega | (rw [w32_i (by omega) (by omega)] at c3; omega) | (simp (disch := omega) only [w32_i] at *; omega)
      · skip
        refine ⟨fun (c4 : 40 ≤ ((j1 : Nat) : Int)) => ?_, fun (c4 : ((j1 : Nat) : Int) < 40) => ?_⟩
        · skip
          exfalso; first | omega | (rw [w32_i (by omega) (by omega)] at c4; omega) | (simp (disch := omega) only [w32_i] at *; omega)
        · skip
          refine (show W2 o_X7 M_X7_settleRivals (inN [15, 43]) (d + 3) Q 23 [some (mR 20), some (mI ((j1 : Nat) : Int)), none, none] [mR (Int.toNat (s1 15 9))] s1 from ?_)
          rw [show (s1 15 9) = 45 from by (try simp (disch := decide) only [gs_ne, gs_at_ne, hF1, hP1_15]); exact hp]
          refine (show W2 o_X7 M_X7_settleRivals (inN [15, 43]) (d + 3) Q 23 [some (mR 20), some (mI ((j1 : Nat) : Int)), none, none] [mR 45] s1 from ?_)
          refine w2_vc [2, 7, 23, 36, 94] 400 oo_X7 q_X7_settleRivals ?_
          refine sp_X1_kindOf (by decide) ?_
          refine ⟨fun (c6 : ¬ (f_X1_kindOf 40 s1 ((j1 : Nat) : Int)) = 22) => ?_, fun (c6 : (f_X1_kindOf 40 s1 ((j1 : Nat) : Int)) = 22) => ?_⟩
          · rw [if_pos c6] at ih1
            refine (show W2 o_X7 M_X7_settleRivals (inN [15, 43]) (d + 3) Q 2 [some (mR 20), some (mI (w32 (((j1 : Nat) : Int) + 1))), none, none] [] s1 from ?_)
            rw [w32_nat (by omega)]
            exact ih1
          · rw [if_neg (fun q => q c6)] at ih1
            refine (show W2 o_X7 M_X7_settleRivals (inN [15, 43]) (d + 3) Q 36 [some (mR 20), some (mI ((j1 : Nat) : Int)), none, none] [mR (Int.toNat (s1 15 9))] s1 from ?_)
            rw [show (s1 15 9) = 45 from by (try simp (disch := decide) only [gs_ne, gs_at_ne, hF1, hP1_15]); exact hp]
            refine (show W2 o_X7 M_X7_settleRivals (inN [15, 43]) (d + 3) Q 36 [some (mR 20), some (mI ((j1 : Nat) : Int)), none, none] [mR 45] s1 from ?_)
            refine w2_vc [2, 7, 23, 36, 94] 400 oo_X7 q_X7_settleRivals ?_
            refine sp_X1_ownerOf (by decide) ?_
            refine ⟨(show 0 ≤ ((j1 : Nat) : Int) ∧ ((j1 : Nat) : Int) < ((40 : Nat) : Int) from by first | omega | (simp (disch := omega) only [w32_i]; omega)), ?_⟩
            refine sp_X7_campaignOf (by decide) (show (s1 15 9) = 45 from by (try simp (disch := decide) only [gs_ne, gs_at_ne, hF1, hP1_15]); exact hp) (by (try simp (disch := decide) only [gs_ne, gs_at_ne, hF1, hP1_15]); exact h11) ?_
            refine ⟨fun (c9 : ¬ (f_X7_campaignOf 40 s1 (s1 17 (Int.toNat ((j1 : Nat) : Int)))) = (-1)) => ?_, fun (c9 : (f_X7_campaignOf 40 s1 (s1 17 (Int.toNat ((j1 : Nat) : Int)))) = (-1)) => ?_⟩
            · rw [if_pos c9] at ih1
              refine ⟨fun (c10 : ¬ (f_X7_campaignOf 40 s1 (s1 17 (Int.toNat ((j1 : Nat) : Int)))) = (f_X1_ownerOf 40 s1 ((j1 : Nat) : Int))) => ?_, fun (c10 : (f_X7_campaignOf 40 s1 (s1 17 (Int.toNat ((j1 : Nat) : Int)))) = (f_X1_ownerOf 40 s1 ((j1 : Nat) : Int))) => ?_⟩
              · rw [if_pos c10] at ih1
                refine (show W2 o_X7 M_X7_settleRivals (inN [15, 43]) (d + 3) Q 94 [some (mR 20), some (mI ((j1 : Nat) : Int)), some (mI (f_X1_ownerOf 40 s1 ((j1 : Nat) : Int))), some (mI (f_X7_campaignOf 40 s1 (s1 17 (Int.toNat ((j1 : Nat) : Int)))))] [mR (Int.toNat (s1 15 9))] s1 from ?_)
                rw [show (s1 15 9) = 45 from by (try simp (disch := decide) only [gs_ne, gs_at_ne, hF1, hP1_15]); exact hp]
                refine (show W2 o_X7 M_X7_settleRivals (inN [15, 43]) (d + 3) Q 94 [some (mR 20), some (mI ((j1 : Nat) : Int)), some (mI (f_X1_ownerOf 40 s1 ((j1 : Nat) : Int))), some (mI (f_X7_campaignOf 40 s1 (s1 17 (Int.toNat ((j1 : Nat) : Int)))))] [mR 45] s1 from ?_)
                refine w2_vc [2, 7, 23, 36, 94] 400 oo_X7 q_X7_settleRivals ?_
                refine sp_X1_setApart (by decide) (insub (by decide)) ?_
                refine (show W2 o_X7 M_X7_settleRivals (inN [15, 43]) (d + 3) Q 2 [some (mR 20), some (mI (w32 (((j1 : Nat) : Int) + 1))), some (mI (f_X1_ownerOf 40 s1 ((j1 : Nat) : Int))), some (mI (f_X7_campaignOf 40 s1 (s1 17 (Int.toNat ((j1 : Nat) : Int)))))] [] (e_X1_setApart 40 s1 (f_X1_ownerOf 40 s1 ((j1 : Nat) : Int)) (f_X7_campaignOf 40 s1 (s1 17 (Int.toNat ((j1 : Nat) : Int))))) from ?_)
                refine WP.fg (L' := [some (mR 20), some (mI (w32 (((j1 : Nat) : Int) + 1))), none, none]) ⟨rfl, rfl, trivial⟩ ?_
                rw [w32_nat (by omega)]
                exact ih1
              · rw [if_neg (fun q => q c10)] at ih1
                refine ⟨(show 0 ≤ ((j1 : Nat) : Int) ∧ ((j1 : Nat) : Int) < ((40 : Nat) : Int) from by first | omega | (simp (disch := omega) only [w32_i]; omega)), ?_⟩
                refine sp_X7_blame  (insub (by decide)) ?_
                refine (show W2 o_X7 M_X7_settleRivals (inN [15, 43]) (d + 3) Q 2 [some (mR 20), some (mI (w32 (((j1 : Nat) : Int) + 1))), some (mI (f_X1_ownerOf 40 s1 ((j1 : Nat) : Int))), some (mI (f_X7_campaignOf 40 s1 (s1 17 (Int.toNat ((j1 : Nat) : Int)))))] [] (e_X7_blame s1 5 (s1 18 (Int.toNat ((j1 : Nat) : Int)))) from ?_)
                refine WP.fg (L' := [some (mR 20), some (mI (w32 (((j1 : Nat) : Int) + 1))), none, none]) ⟨rfl, rfl, trivial⟩ ?_
                rw [w32_nat (by omega)]
                exact ih1
            · rw [if_neg (fun q => q c9)] at ih1
              refine ⟨(show 0 ≤ ((j1 : Nat) : Int) ∧ ((j1 : Nat) : Int) < ((40 : Nat) : Int) from by first | omega | (simp (disch := omega) only [w32_i]; omega)), ?_⟩
              refine sp_X7_blame  (insub (by decide)) ?_
              refine (show W2 o_X7 M_X7_settleRivals (inN [15, 43]) (d + 3) Q 2 [some (mR 20), some (mI (w32 (((j1 : Nat) : Int) + 1))), some (mI (f_X1_ownerOf 40 s1 ((j1 : Nat) : Int))), some (mI (f_X7_campaignOf 40 s1 (s1 17 (Int.toNat ((j1 : Nat) : Int)))))] [] (e_X7_blame s1 4 (s1 18 (Int.toNat ((j1 : Nat) : Int)))) from ?_)
              refine WP.fg (L' := [some (mR 20), some (mI (w32 (((j1 : Nat) : Int) + 1))), none, none]) ⟨rfl, rfl, trivial⟩ ?_
              rw [w32_nat (by omega)]
              exact ih1
    · skip
      refine (show W2 o_X7 M_X7_settleRivals (inN [15, 43]) (d + 3) Q 2 [some (mR 20), some (mI (((Int.toNat (G 40 12)) : Nat) : Int)), none, none] [] (fd (g_X7_settleRivals_2 40 G) G (Int.toNat (G 40 12))) from ?_)
      have hF1 := hI1.1
      have hP1_15 := hI1.2
      have hI1c : (fd (g_X7_settleRivals_2 40 G) G (Int.toNat (G 40 12))) 40 12 = G 40 12 := by rw [hF1 40 (by decide)]
      refine w2_vc [2, 7, 23, 36, 94] 400 oo_X7 q_X7_settleRivals ?_
      refine (show W2 o_X7 M_X7_settleRivals (inN [15, 43]) (d + 3) Q 7 [some (mR 20), some (mI (((Int.toNat (G 40 12)) : Nat) : Int)), none, none] [mR (Int.toNat ((fd (g_X7_settleRivals_2 40 G) G (Int.toNat (G 40 12))) 15 9)), mI (((Int.toNat (G 40 12)) : Nat) : Int)] (fd (g_X7_settleRivals_2 40 G) G (Int.toNat (G 40 12))) from ?_)
      rw [show ((fd (g_X7_settleRivals_2 40 G) G (Int.toNat (G 40 12))) 15 9) = 45 from by (try simp (disch := decide) only [gs_ne, gs_at_ne, fr_X1_setApart, fr_X7_blame, frp_X7_blame_15, hF1, hP1_15]); exact hp]
      refine (show W2 o_X7 M_X7_settleRivals (inN [15, 43]) (d + 3) Q 7 [some (mR 20), some (mI (((Int.toNat (G 40 12)) : Nat) : Int)), none, none] [mR 45, mI (((Int.toNat (G 40 12)) : Nat) : Int)] (fd (g_X7_settleRivals_2 40 G) G (Int.toNat (G 40 12))) from ?_)
      refine w2_vc [2, 7, 23, 36, 94] 400 oo_X7 q_X7_settleRivals ?_
      refine sp_X1_clauses (by decide) ?_
      have c15 := (show f_X1_clauses 40 (fd (g_X7_settleRivals_2 40 G) G (Int.toNat (G 40 12))) = (fd (g_X7_settleRivals_2 40 G) G (Int.toNat (G 40 12))) 40 12 from rfl)
      refine ⟨fun (c16 : (f_X1_clauses 40 (fd (g_X7_settleRivals_2 40 G) G (Int.toNat (G 40 12))) ) ≤ (((Int.toNat (G 40 12)) : Nat) : Int)) => ?_, fun (c16 : (((Int.toNat (G 40 12)) : Nat) : Int) < (f_X1_clauses 40 (fd (g_X7_settleRivals_2 40 G) G (Int.toNat (G 40 12))) )) => ?_⟩
      · rw [if_pos c16] at h
        exact h
      · rw [if_neg (Int.not_le.mpr c16)] at h
        refine ⟨fun (c17 : 40 ≤ (((Int.toNat (G 40 12)) : Nat) : Int)) => ?_, fun (c17 : (((Int.toNat (G 40 12)) : Nat) : Int) < 40) => ?_⟩
        · skip
          exact h
        · skip
          exfalso; first | omega | (rw [w32_i (by omega) (by omega)] at c17; omega) | (simp (disch := omega) only [w32_i] at *; omega)
  · skip
    unfold e_X7_settleRivals at h
    try simp only [Nat.reduceAdd, Nat.reduceSub] at h
    have hp : G 15 9 = 57 := hp
    refine MP.to (D2 := inN [15, 55]) (Q2 := Q) ?_ hD (fun v G' q _ => q)
    refine (show P2 (inN [15, 55]) (d + 3) M_X7_settleRivals [mR 20] G Q from ?_)
    refine p2_vc [2, 7, 23, 36, 94] 400 oo_X7 q_X7_settleRivals (by decide) rfl (Nat.le_of_ble_eq_true rfl) ?_
    refine (show W2 o_X7 M_X7_settleRivals (inN [15, 55]) (d + 3) Q 2 [some (mR 20), some (mI ((0 : Nat) : Int)), none, none] [] G from ?_)
    refine lupI (g_X7_settleRivals_2 52 G) G (fun j1 s1 => W2 o_X7 M_X7_settleRivals (inN [15, 55]) (d + 3) Q 2 [some (mR 20), some (mI ((j1 : Nat) : Int)), none, none] [] s1) (fun (_ : Nat) s => (∀ k, (∀ a ∈ ([15, 55] : List Nat), k ≠ a) → s k = G k) ∧ (∀ i, (∀ a ∈ ([10, 11] : List Nat), i ≠ a) → s 15 i = G 15 i)) (Int.toNat (G 52 12)) ⟨⟨fun _ _ => rfl, fun _ _ => rfl⟩, fun j s _ hI => ⟨fun k hk => by rw [← hI.1 k hk]; exact fr_g_X7_settleRivals_2 52 G hk j s, fun i hi => by rw [← hI.2 i hi]; exact frp_g_X7_settleRivals_2_15 52 G (by decide) hi j s⟩⟩ (fun j1 s1 hj1 hI1 ih1 => ?_) (fun hI1 => ?_)
    · have ih1 : W2 o_X7 M_X7_settleRivals (inN [15, 55]) (d + 3) Q 2 [some (mR 20), some (mI ((j1 + 1 : Nat) : Int)), none, none] [] (g_X7_settleRivals_2 52 G j1 s1) := ih1
      unfold g_X7_settleRivals_2 at ih1
      try simp only [Nat.reduceAdd, Nat.reduceSub] at ih1
      have hF1 := hI1.1
      have hP1_15 := hI1.2
      have hI1c : s1 52 12 = G 52 12 := by rw [hF1 52 (by decide)]
      refine w2_vc [2, 7, 23, 36, 94] 400 oo_X7 q_X7_settleRivals ?_
      refine (show W2 o_X7 M_X7_settleRivals (inN [15, 55]) (d + 3) Q 7 [some (mR 20), some (mI ((j1 : Nat) : Int)), none, none] [mR (Int.toNat (s1 15 9)), mI ((j1 : Nat) : Int)] s1 from ?_)
      rw [show (s1 15 9) = 57 from by (try simp (disch := decide) only [gs_ne, gs_at_ne, hF1, hP1_15]); exact hp]
      refine (show W2 o_X7 M_X7_settleRivals (inN [15, 55]) (d + 3) Q 7 [some (mR 20), some (mI ((j1 : Nat) : Int)), none, none] [mR 57, mI ((j1 : Nat) : Int)] s1 from ?_)
      refine w2_vc [2, 7, 23, 36, 94] 400 oo_X7 q_X7_settleRivals ?_
      refine sp_X1_clauses (by decide) ?_
      have c2 := (show f_X1_clauses 52 s1 = s1 52 12 from rfl)
      refine ⟨fun (c3 : (f_X1_clauses 52 s1 ) ≤ ((j1 : Nat) : Int)) => ?_, fun (c3 : ((j1 : Nat) : Int) < (f_X1_clauses 52 s1 )) => ?_⟩
      · skip
        exfalso; first | omega | (rw [w32_i (by omega) (by omega)] at c3; omega) | (simp (disch := omega) only [w32_i] at *; omega)
      · skip
        refine ⟨fun (c4 : 40 ≤ ((j1 : Nat) : Int)) => ?_, fun (c4 : ((j1 : Nat) : Int) < 40) => ?_⟩
        · skip
          exfalso; first | omega | (rw [w32_i (by omega) (by omega)] at c4; omega) | (simp (disch := omega) only [w32_i] at *; omega)
        · skip
          refine (show W2 o_X7 M_X7_settleRivals (inN [15, 55]) (d + 3) Q 23 [some (mR 20), some (mI ((j1 : Nat) : Int)), none, none] [mR (Int.toNat (s1 15 9))] s1 from ?_)
          rw [show (s1 15 9) = 57 from by (try simp (disch := decide) only [gs_ne, gs_at_ne, hF1, hP1_15]); exact hp]
          refine (show W2 o_X7 M_X7_settleRivals (inN [15, 55]) (d + 3) Q 23 [some (mR 20), some (mI ((j1 : Nat) : Int)), none, none] [mR 57] s1 from ?_)
          refine w2_vc [2, 7, 23, 36, 94] 400 oo_X7 q_X7_settleRivals ?_
          refine sp_X1_kindOf (by decide) ?_
          refine ⟨fun (c6 : ¬ (f_X1_kindOf 52 s1 ((j1 : Nat) : Int)) = 22) => ?_, fun (c6 : (f_X1_kindOf 52 s1 ((j1 : Nat) : Int)) = 22) => ?_⟩
          · rw [if_pos c6] at ih1
            refine (show W2 o_X7 M_X7_settleRivals (inN [15, 55]) (d + 3) Q 2 [some (mR 20), some (mI (w32 (((j1 : Nat) : Int) + 1))), none, none] [] s1 from ?_)
            rw [w32_nat (by omega)]
            exact ih1
          · rw [if_neg (fun q => q c6)] at ih1
            refine (show W2 o_X7 M_X7_settleRivals (inN [15, 55]) (d + 3) Q 36 [some (mR 20), some (mI ((j1 : Nat) : Int)), none, none] [mR (Int.toNat (s1 15 9))] s1 from ?_)
            rw [show (s1 15 9) = 57 from by (try simp (disch := decide) only [gs_ne, gs_at_ne, hF1, hP1_15]); exact hp]
            refine (show W2 o_X7 M_X7_settleRivals (inN [15, 55]) (d + 3) Q 36 [some (mR 20), some (mI ((j1 : Nat) : Int)), none, none] [mR 57] s1 from ?_)
            refine w2_vc [2, 7, 23, 36, 94] 400 oo_X7 q_X7_settleRivals ?_
            refine sp_X1_ownerOf (by decide) ?_
            refine ⟨(show 0 ≤ ((j1 : Nat) : Int) ∧ ((j1 : Nat) : Int) < ((40 : Nat) : Int) from by first | omega | (simp (disch := omega) only [w32_i]; omega)), ?_⟩
            refine sp_X7_campaignOf (by decide) (show (s1 15 9) = 57 from by (try simp (disch := decide) only [gs_ne, gs_at_ne, hF1, hP1_15]); exact hp) (by (try simp (disch := decide) only [gs_ne, gs_at_ne, hF1, hP1_15]); exact h11) ?_
            refine ⟨fun (c9 : ¬ (f_X7_campaignOf 52 s1 (s1 17 (Int.toNat ((j1 : Nat) : Int)))) = (-1)) => ?_, fun (c9 : (f_X7_campaignOf 52 s1 (s1 17 (Int.toNat ((j1 : Nat) : Int)))) = (-1)) => ?_⟩
            · rw [if_pos c9] at ih1
              refine ⟨fun (c10 : ¬ (f_X7_campaignOf 52 s1 (s1 17 (Int.toNat ((j1 : Nat) : Int)))) = (f_X1_ownerOf 52 s1 ((j1 : Nat) : Int))) => ?_, fun (c10 : (f_X7_campaignOf 52 s1 (s1 17 (Int.toNat ((j1 : Nat) : Int)))) = (f_X1_ownerOf 52 s1 ((j1 : Nat) : Int))) => ?_⟩
              · rw [if_pos c10] at ih1
                refine (show W2 o_X7 M_X7_settleRivals (inN [15, 55]) (d + 3) Q 94 [some (mR 20), some (mI ((j1 : Nat) : Int)), some (mI (f_X1_ownerOf 52 s1 ((j1 : Nat) : Int))), some (mI (f_X7_campaignOf 52 s1 (s1 17 (Int.toNat ((j1 : Nat) : Int)))))] [mR (Int.toNat (s1 15 9))] s1 from ?_)
                rw [show (s1 15 9) = 57 from by (try simp (disch := decide) only [gs_ne, gs_at_ne, hF1, hP1_15]); exact hp]
                refine (show W2 o_X7 M_X7_settleRivals (inN [15, 55]) (d + 3) Q 94 [some (mR 20), some (mI ((j1 : Nat) : Int)), some (mI (f_X1_ownerOf 52 s1 ((j1 : Nat) : Int))), some (mI (f_X7_campaignOf 52 s1 (s1 17 (Int.toNat ((j1 : Nat) : Int)))))] [mR 57] s1 from ?_)
                refine w2_vc [2, 7, 23, 36, 94] 400 oo_X7 q_X7_settleRivals ?_
                refine sp_X1_setApart (by decide) (insub (by decide)) ?_
                refine (show W2 o_X7 M_X7_settleRivals (inN [15, 55]) (d + 3) Q 2 [some (mR 20), some (mI (w32 (((j1 : Nat) : Int) + 1))), some (mI (f_X1_ownerOf 52 s1 ((j1 : Nat) : Int))), some (mI (f_X7_campaignOf 52 s1 (s1 17 (Int.toNat ((j1 : Nat) : Int)))))] [] (e_X1_setApart 52 s1 (f_X1_ownerOf 52 s1 ((j1 : Nat) : Int)) (f_X7_campaignOf 52 s1 (s1 17 (Int.toNat ((j1 : Nat) : Int))))) from ?_)
                refine WP.fg (L' := [some (mR 20), some (mI (w32 (((j1 : Nat) : Int) + 1))), none, none]) ⟨rfl, rfl, trivial⟩ ?_
                rw [w32_nat (by omega)]
                exact ih1
              · rw [if_neg (fun q => q c10)] at ih1
                refine ⟨(show 0 ≤ ((j1 : Nat) : Int) ∧ ((j1 : Nat) : Int) < ((40 : Nat) : Int) from by first | omega | (simp (disch := omega) only [w32_i]; omega)), ?_⟩
                refine sp_X7_blame  (insub (by decide)) ?_
                refine (show W2 o_X7 M_X7_settleRivals (inN [15, 55]) (d + 3) Q 2 [some (mR 20), some (mI (w32 (((j1 : Nat) : Int) + 1))), some (mI (f_X1_ownerOf 52 s1 ((j1 : Nat) : Int))), some (mI (f_X7_campaignOf 52 s1 (s1 17 (Int.toNat ((j1 : Nat) : Int)))))] [] (e_X7_blame s1 5 (s1 18 (Int.toNat ((j1 : Nat) : Int)))) from ?_)
                refine WP.fg (L' := [some (mR 20), some (mI (w32 (((j1 : Nat) : Int) + 1))), none, none]) ⟨rfl, rfl, trivial⟩ ?_
                rw [w32_nat (by omega)]
                exact ih1
            · rw [if_neg (fun q => q c9)] at ih1
              refine ⟨(show 0 ≤ ((j1 : Nat) : Int) ∧ ((j1 : Nat) : Int) < ((40 : Nat) : Int) from by first | omega | (simp (disch := omega) only [w32_i]; omega)), ?_⟩
              refine sp_X7_blame  (insub (by decide)) ?_
              refine (show W2 o_X7 M_X7_settleRivals (inN [15, 55]) (d + 3) Q 2 [some (mR 20), some (mI (w32 (((j1 : Nat) : Int) + 1))), some (mI (f_X1_ownerOf 52 s1 ((j1 : Nat) : Int))), some (mI (f_X7_campaignOf 52 s1 (s1 17 (Int.toNat ((j1 : Nat) : Int)))))] [] (e_X7_blame s1 4 (s1 18 (Int.toNat ((j1 : Nat) : Int)))) from ?_)
              refine WP.fg (L' := [some (mR 20), some (mI (w32 (((j1 : Nat) : Int) + 1))), none, none]) ⟨rfl, rfl, trivial⟩ ?_
              rw [w32_nat (by omega)]
              exact ih1
    · skip
      refine (show W2 o_X7 M_X7_settleRivals (inN [15, 55]) (d + 3) Q 2 [some (mR 20), some (mI (((Int.toNat (G 52 12)) : Nat) : Int)), none, none] [] (fd (g_X7_settleRivals_2 52 G) G (Int.toNat (G 52 12))) from ?_)
      have hF1 := hI1.1
      have hP1_15 := hI1.2
      have hI1c : (fd (g_X7_settleRivals_2 52 G) G (Int.toNat (G 52 12))) 52 12 = G 52 12 := by rw [hF1 52 (by decide)]
      refine w2_vc [2, 7, 23, 36, 94] 400 oo_X7 q_X7_settleRivals ?_
      refine (show W2 o_X7 M_X7_settleRivals (inN [15, 55]) (d + 3) Q 7 [some (mR 20), some (mI (((Int.toNat (G 52 12)) : Nat) : Int)), none, none] [mR (Int.toNat ((fd (g_X7_settleRivals_2 52 G) G (Int.toNat (G 52 12))) 15 9)), mI (((Int.toNat (G 52 12)) : Nat) : Int)] (fd (g_X7_settleRivals_2 52 G) G (Int.toNat (G 52 12))) from ?_)
      rw [show ((fd (g_X7_settleRivals_2 52 G) G (Int.toNat (G 52 12))) 15 9) = 57 from by (try simp (disch := decide) only [gs_ne, gs_at_ne, fr_X1_setApart, fr_X7_blame, frp_X7_blame_15, hF1, hP1_15]); exact hp]
      refine (show W2 o_X7 M_X7_settleRivals (inN [15, 55]) (d + 3) Q 7 [some (mR 20), some (mI (((Int.toNat (G 52 12)) : Nat) : Int)), none, none] [mR 57, mI (((Int.toNat (G 52 12)) : Nat) : Int)] (fd (g_X7_settleRivals_2 52 G) G (Int.toNat (G 52 12))) from ?_)
      refine w2_vc [2, 7, 23, 36, 94] 400 oo_X7 q_X7_settleRivals ?_
      refine sp_X1_clauses (by decide) ?_
      have c15 := (show f_X1_clauses 52 (fd (g_X7_settleRivals_2 52 G) G (Int.toNat (G 52 12))) = (fd (g_X7_settleRivals_2 52 G) G (Int.toNat (G 52 12))) 52 12 from rfl)
      refine ⟨fun (c16 : (f_X1_clauses 52 (fd (g_X7_settleRivals_2 52 G) G (Int.toNat (G 52 12))) ) ≤ (((Int.toNat (G 52 12)) : Nat) : Int)) => ?_, fun (c16 : (((Int.toNat (G 52 12)) : Nat) : Int) < (f_X1_clauses 52 (fd (g_X7_settleRivals_2 52 G) G (Int.toNat (G 52 12))) )) => ?_⟩
      · rw [if_pos c16] at h
        exact h
      · rw [if_neg (Int.not_le.mpr c16)] at h
        refine ⟨fun (c17 : 40 ≤ (((Int.toNat (G 52 12)) : Nat) : Int)) => ?_, fun (c17 : (((Int.toNat (G 52 12)) : Nat) : Int) < 40) => ?_⟩
        · skip
          exact h
        · skip
          exfalso; first | omega | (rw [w32_i (by omega) (by omega)] at c17; omega) | (simp (disch := omega) only [w32_i] at *; omega)
def e_X7_noteBehind (c : Nat) (G : mG) (x : Int) : mG := (if ¬ x = 6 then (if (f_X6_rankOf G x) ≤ 0 then (if 4 ≤ (f_X6_rankOf G x) then (e_X7_release c G (mMax (f_X6_rankOf G x) 1)) else (if ¬ ((e_X7_release c G (mMax (f_X6_rankOf G x) 1)) 15 6) = 0 then (e_X7_release c G (mMax (f_X6_rankOf G x) 1)) else (if x = 6 then (e_X7_release c G (mMax (f_X6_rankOf G x) 1)) else (if ¬ (f_X6_rankOf G x) = 3 then (gs (e_X7_release c G (mMax (f_X6_rankOf G x) 1)) 15 7 0) else (gs (e_X7_release c G (mMax (f_X6_rankOf G x) 1)) 15 7 1))))) else (if 4 ≤ (f_X6_rankOf G x) then (e_X7_hold (e_X7_release c G (mMax (f_X6_rankOf G x) 1)) x) else (if ¬ ((e_X7_hold (e_X7_release c G (mMax (f_X6_rankOf G x) 1)) x) 15 6) = 0 then (e_X7_hold (e_X7_release c G (mMax (f_X6_rankOf G x) 1)) x) else (if x = 6 then (e_X7_hold (e_X7_release c G (mMax (f_X6_rankOf G x) 1)) x) else (if ¬ (f_X6_rankOf G x) = 3 then (gs (e_X7_hold (e_X7_release c G (mMax (f_X6_rankOf G x) 1)) x) 15 7 0) else (gs (e_X7_hold (e_X7_release c G (mMax (f_X6_rankOf G x) 1)) x) 15 7 1)))))) else (if 4 ≤ (f_X6_rankOf G x) then (gs (gs (e_X7_release c G (mMax (f_X6_rankOf G x) 1)) 15 5 (mMax 0 (w32 (((e_X7_release c G (mMax (f_X6_rankOf G x) 1)) 15 5) - 1)))) 15 6 (w32 (((e_X7_release c G (mMax (f_X6_rankOf G x) 1)) 15 6) - 1))) else (if ¬ (w32 (((e_X7_release c G (mMax (f_X6_rankOf G x) 1)) 15 6) - 1)) = 0 then (gs (gs (e_X7_release c G (mMax (f_X6_rankOf G x) 1)) 15 5 (mMax 0 (w32 (((e_X7_release c G (mMax (f_X6_rankOf G x) 1)) 15 5) - 1)))) 15 6 (w32 (((e_X7_release c G (mMax (f_X6_rankOf G x) 1)) 15 6) - 1))) else (if x = 6 then (gs (gs (e_X7_release c G (mMax (f_X6_rankOf G x) 1)) 15 5 (mMax 0 (w32 (((e_X7_release c G (mMax (f_X6_rankOf G x) 1)) 15 5) - 1)))) 15 6 (w32 (((e_X7_release c G (mMax (f_X6_rankOf G x) 1)) 15 6) - 1))) else (if ¬ (f_X6_rankOf G x) = 3 then (gs (gs (gs (e_X7_release c G (mMax (f_X6_rankOf G x) 1)) 15 5 (mMax 0 (w32 (((e_X7_release c G (mMax (f_X6_rankOf G x) 1)) 15 5) - 1)))) 15 6 (w32 (((e_X7_release c G (mMax (f_X6_rankOf G x) 1)) 15 6) - 1))) 15 7 0) else (gs (gs (gs (e_X7_release c G (mMax (f_X6_rankOf G x) 1)) 15 5 (mMax 0 (w32 (((e_X7_release c G (mMax (f_X6_rankOf G x) 1)) 15 5) - 1)))) 15 6 (w32 (((e_X7_release c G (mMax (f_X6_rankOf G x) 1)) 15 6) - 1))) 15 7 1))))))
theorem frp_X7_noteBehind_15 {c : Nat} {G : mG} {x : Int} (hc : c = 40 ∨ c = 52) {i : Nat} (hj : ∀ a ∈ ([5, 6, 7] : List Nat), i ≠ a) : (e_X7_noteBehind c G x) 15 i = G 15 i := by
  unfold e_X7_noteBehind
  repeat' with_reducible first | apply ite_f | apply ite_f2 | apply ite_p | apply ite_p2
  all_goals first | (simp only [gs_at_ne (hj 5 (by simp)), gs_at_ne (hj 6 (by simp)), gs_at_ne (hj 7 (by simp)), gs_ne (show (15) ≠ (19) from by omega), gs_ne (show (15) ≠ (c) from by omega), gs_ne (show (15) ≠ (c + 10) from by omega), gs_ne (show (15) ≠ (c + 11) from by omega), frp_X7_hold_15 (fun a ha => hj a (by simp only [List.mem_cons, List.not_mem_nil, or_false] at ha ⊢; omega)), frp_X7_release_15 (c := c) hc (fun a ha => hj a (by simp only [List.mem_cons, List.not_mem_nil, or_false] at ha ⊢; omega))]; done) | rfl
theorem frp_X7_noteBehind_c {c : Nat} {G : mG} {x : Int} (hc : c = 40 ∨ c = 52) {i : Nat} (hj : ∀ a ∈ ([13] : List Nat), i ≠ a) : (e_X7_noteBehind c G x) c i = G c i := by
  unfold e_X7_noteBehind
  repeat' with_reducible first | apply ite_f | apply ite_f2 | apply ite_p | apply ite_p2
  all_goals first | (simp only [gs_at_ne (hj 13 (by simp)), gs_ne (show (c) ≠ (15) from by omega), gs_ne (show (c) ≠ (19) from by omega), gs_ne (show (c) ≠ (c + 10) from by omega), gs_ne (show (c) ≠ (c + 11) from by omega), fr_X7_hold (k := c) (fun a ha => by simp only [List.mem_cons, List.not_mem_nil, or_false] at ha; omega), frp_X7_release_c (c := c) hc (fun a ha => hj a (by simp only [List.mem_cons, List.not_mem_nil, or_false] at ha ⊢; omega))]; done) | rfl
theorem fr_X7_noteBehind {c : Nat} {G : mG} {x : Int} {k : Nat} (hk : ∀ a ∈ ([15, 19, c, c + 10, c + 11] : List Nat), k ≠ a) : (e_X7_noteBehind c G x) k = G k := by
  unfold e_X7_noteBehind
  repeat' with_reducible first | apply ite_f | apply ite_f2 | apply ite_p | apply ite_p2
  all_goals first | (simp only [gs_ne (hk (15) (by simp)), gs_ne (hk (19) (by simp)), gs_ne (hk (c) (by simp)), gs_ne (hk (c + 10) (by simp)), gs_ne (hk (c + 11) (by simp)), fr_X7_hold (fun a ha => hk a (by simp only [List.mem_cons, List.not_mem_nil, or_false] at ha ⊢; omega)), fr_X7_release (c := c) (fun a ha => hk a (by simp only [List.mem_cons, List.not_mem_nil, or_false] at ha ⊢; omega))]; done) | rfl
theorem sp_X7_noteBehind {D : Nat → Bool} {d : Nat} {c : Nat} {G : mG} {x : Int} {Q : Option mV → mG → Prop} (hc : c = 40 ∨ c = 52) (hp : G 15 9 = ((c + 5 : Nat) : Int)) (hw : 0 ≤ G 15 5 ∧ G 15 5 ≤ 35) (hD : ∀ k, D k = false → inN [15, 19, c, c + 10, c + 11] k = false) (h : Q none (e_X7_noteBehind c G x)) : P2 D (d + 4) M_X7_noteBehind [mR 20, mI x] G Q := by
  rcases hc with rfl | rfl
  · skip
    unfold e_X7_noteBehind at h
    try simp only [Nat.reduceAdd, Nat.reduceSub] at h
    have hp : G 15 9 = 45 := hp
    refine MP.to (D2 := inN [15, 19, 40, 50, 51]) (Q2 := Q) ?_ hD (fun v G' q _ => q)
    refine (show P2 (inN [15, 19, 40, 50, 51]) (d + 4) M_X7_noteBehind [mR 20, mI x] G Q from ?_)
    refine p2_vc [34, 44, 88] 400 oo_X7 q_X7_noteBehind (by decide) rfl (Nat.le_of_ble_eq_true rfl) ?_
    refine sp_X6_rankOf  ?_
    refine sp_X7_release (by decide) (hp) (by omega) (insub (by decide)) ?_
    refine ⟨fun (c3 : ¬ x = 6) => ?_, fun (c3 : x = 6) => ?_⟩
    · rw [if_pos c3] at h
      refine ⟨fun (c4 : (f_X6_rankOf G x) ≤ 0) => ?_, fun (c4 : 0 < (f_X6_rankOf G x)) => ?_⟩
      · rw [if_pos c4] at h
        refine ⟨fun (c5 : 4 ≤ (f_X6_rankOf G x)) => ?_, fun (c5 : (f_X6_rankOf G x) < 4) => ?_⟩
        · rw [if_pos c5] at h
          refine (show W2 o_X7 M_X7_noteBehind (inN [15, 19, 40, 50, 51]) (d + 4) Q 88 [some (mR 20), some (mI x), some (mI (f_X6_rankOf G x))] [] (e_X7_release 40 G (mMax (f_X6_rankOf G x) 1)) from ?_)
          refine w2_vc [34, 44, 88] 400 oo_X7 q_X7_noteBehind ?_
          exact h
        · rw [if_neg (Int.not_le.mpr c5)] at h
          refine ⟨fun (c6 : ¬ ((e_X7_release 40 G (mMax (f_X6_rankOf G x) 1)) 15 6) = 0) => ?_, fun (c6 : ((e_X7_release 40 G (mMax (f_X6_rankOf G x) 1)) 15 6) = 0) => ?_⟩
          · rw [if_pos c6] at h
            refine (show W2 o_X7 M_X7_noteBehind (inN [15, 19, 40, 50, 51]) (d + 4) Q 88 [some (mR 20), some (mI x), some (mI (f_X6_rankOf G x))] [] (e_X7_release 40 G (mMax (f_X6_rankOf G x) 1)) from ?_)
            refine w2_vc [34, 44, 88] 400 oo_X7 q_X7_noteBehind ?_
            exact h
          · rw [if_neg (fun q => q c6)] at h
            refine ⟨fun (c7 : x = 6) => ?_, fun (c7 : ¬ x = 6) => ?_⟩
            · rw [if_pos c7] at h
              refine (show W2 o_X7 M_X7_noteBehind (inN [15, 19, 40, 50, 51]) (d + 4) Q 88 [some (mR 20), some (mI x), some (mI (f_X6_rankOf G x))] [] (e_X7_release 40 G (mMax (f_X6_rankOf G x) 1)) from ?_)
              refine w2_vc [34, 44, 88] 400 oo_X7 q_X7_noteBehind ?_
              exact h
            · rw [if_neg (c7)] at h
              refine ⟨fun (c8 : ¬ (f_X6_rankOf G x) = 3) => ?_, fun (c8 : (f_X6_rankOf G x) = 3) => ?_⟩
              · rw [if_pos c8] at h
                refine ⟨by omega, ?_⟩
                refine (show W2 o_X7 M_X7_noteBehind (inN [15, 19, 40, 50, 51]) (d + 4) Q 88 [some (mR 20), some (mI x), some (mI (f_X6_rankOf G x))] [] (gs (e_X7_release 40 G (mMax (f_X6_rankOf G x) 1)) 15 7 0) from ?_)
                refine w2_vc [34, 44, 88] 400 oo_X7 q_X7_noteBehind ?_
                exact h
              · rw [if_neg (fun q => q c8)] at h
                refine ⟨by omega, ?_⟩
                refine (show W2 o_X7 M_X7_noteBehind (inN [15, 19, 40, 50, 51]) (d + 4) Q 88 [some (mR 20), some (mI x), some (mI (f_X6_rankOf G x))] [] (gs (e_X7_release 40 G (mMax (f_X6_rankOf G x) 1)) 15 7 1) from ?_)
                refine w2_vc [34, 44, 88] 400 oo_X7 q_X7_noteBehind ?_
                exact h
      · rw [if_neg (Int.not_le.mpr c4)] at h
        refine sp_X7_hold  (insub (by decide)) ?_
        refine ⟨fun (c10 : 4 ≤ (f_X6_rankOf G x)) => ?_, fun (c10 : (f_X6_rankOf G x) < 4) => ?_⟩
        · rw [if_pos c10] at h
          refine (show W2 o_X7 M_X7_noteBehind (inN [15, 19, 40, 50, 51]) (d + 4) Q 88 [some (mR 20), some (mI x), some (mI (f_X6_rankOf G x))] [] (e_X7_hold (e_X7_release 40 G (mMax (f_X6_rankOf G x) 1)) x) from ?_)
          refine w2_vc [34, 44, 88] 400 oo_X7 q_X7_noteBehind ?_
          exact h
        · rw [if_neg (Int.not_le.mpr c10)] at h
          refine ⟨fun (c11 : ¬ ((e_X7_hold (e_X7_release 40 G (mMax (f_X6_rankOf G x) 1)) x) 15 6) = 0) => ?_, fun (c11 : ((e_X7_hold (e_X7_release 40 G (mMax (f_X6_rankOf G x) 1)) x) 15 6) = 0) => ?_⟩
          · rw [if_pos c11] at h
            refine (show W2 o_X7 M_X7_noteBehind (inN [15, 19, 40, 50, 51]) (d + 4) Q 88 [some (mR 20), some (mI x), some (mI (f_X6_rankOf G x))] [] (e_X7_hold (e_X7_release 40 G (mMax (f_X6_rankOf G x) 1)) x) from ?_)
            refine w2_vc [34, 44, 88] 400 oo_X7 q_X7_noteBehind ?_
            exact h
          · rw [if_neg (fun q => q c11)] at h
            refine ⟨fun (c12 : x = 6) => ?_, fun (c12 : ¬ x = 6) => ?_⟩
            · rw [if_pos c12] at h
              refine (show W2 o_X7 M_X7_noteBehind (inN [15, 19, 40, 50, 51]) (d + 4) Q 88 [some (mR 20), some (mI x), some (mI (f_X6_rankOf G x))] [] (e_X7_hold (e_X7_release 40 G (mMax (f_X6_rankOf G x) 1)) x) from ?_)
              refine w2_vc [34, 44, 88] 400 oo_X7 q_X7_noteBehind ?_
              exact h
            · rw [if_neg (c12)] at h
              refine ⟨fun (c13 : ¬ (f_X6_rankOf G x) = 3) => ?_, fun (c13 : (f_X6_rankOf G x) = 3) => ?_⟩
              · rw [if_pos c13] at h
                refine ⟨by omega, ?_⟩
                refine (show W2 o_X7 M_X7_noteBehind (inN [15, 19, 40, 50, 51]) (d + 4) Q 88 [some (mR 20), some (mI x), some (mI (f_X6_rankOf G x))] [] (gs (e_X7_hold (e_X7_release 40 G (mMax (f_X6_rankOf G x) 1)) x) 15 7 0) from ?_)
                refine w2_vc [34, 44, 88] 400 oo_X7 q_X7_noteBehind ?_
                exact h
              · rw [if_neg (fun q => q c13)] at h
                refine ⟨by omega, ?_⟩
                refine (show W2 o_X7 M_X7_noteBehind (inN [15, 19, 40, 50, 51]) (d + 4) Q 88 [some (mR 20), some (mI x), some (mI (f_X6_rankOf G x))] [] (gs (e_X7_hold (e_X7_release 40 G (mMax (f_X6_rankOf G x) 1)) x) 15 7 1) from ?_)
                refine w2_vc [34, 44, 88] 400 oo_X7 q_X7_noteBehind ?_
                exact h
    · rw [if_neg (fun q => q c3)] at h
      refine (show W2 o_X7 M_X7_noteBehind (inN [15, 19, 40, 50, 51]) (d + 4) Q 34 [some (mR 20), some (mI x), some (mI (f_X6_rankOf G x))] [] (gs (e_X7_release 40 G (mMax (f_X6_rankOf G x) 1)) 15 5 (mMax 0 (w32 (((e_X7_release 40 G (mMax (f_X6_rankOf G x) 1)) 15 5) - 1)))) from ?_)
      refine w2_vc [34, 44, 88] 400 oo_X7 q_X7_noteBehind ?_
      refine (show W2 o_X7 M_X7_noteBehind (inN [15, 19, 40, 50, 51]) (d + 4) Q 44 [some (mR 20), some (mI x), some (mI (f_X6_rankOf G x))] [] (gs (gs (e_X7_release 40 G (mMax (f_X6_rankOf G x) 1)) 15 5 (mMax 0 (w32 (((e_X7_release 40 G (mMax (f_X6_rankOf G x) 1)) 15 5) - 1)))) 15 6 (w32 (((e_X7_release 40 G (mMax (f_X6_rankOf G x) 1)) 15 6) - 1))) from ?_)
      refine w2_vc [34, 44, 88] 400 oo_X7 q_X7_noteBehind ?_
      refine ⟨fun (c14 : 4 ≤ (f_X6_rankOf G x)) => ?_, fun (c14 : (f_X6_rankOf G x) < 4) => ?_⟩
      · rw [if_pos c14] at h
        refine (show W2 o_X7 M_X7_noteBehind (inN [15, 19, 40, 50, 51]) (d + 4) Q 88 [some (mR 20), some (mI x), some (mI (f_X6_rankOf G x))] [] (gs (gs (e_X7_release 40 G (mMax (f_X6_rankOf G x) 1)) 15 5 (mMax 0 (w32 (((e_X7_release 40 G (mMax (f_X6_rankOf G x) 1)) 15 5) - 1)))) 15 6 (w32 (((e_X7_release 40 G (mMax (f_X6_rankOf G x) 1)) 15 6) - 1))) from ?_)
        refine w2_vc [34, 44, 88] 400 oo_X7 q_X7_noteBehind ?_
        exact h
      · rw [if_neg (Int.not_le.mpr c14)] at h
        refine ⟨fun (c15 : ¬ (w32 (((e_X7_release 40 G (mMax (f_X6_rankOf G x) 1)) 15 6) - 1)) = 0) => ?_, fun (c15 : (w32 (((e_X7_release 40 G (mMax (f_X6_rankOf G x) 1)) 15 6) - 1)) = 0) => ?_⟩
        · rw [if_pos c15] at h
          refine (show W2 o_X7 M_X7_noteBehind (inN [15, 19, 40, 50, 51]) (d + 4) Q 88 [some (mR 20), some (mI x), some (mI (f_X6_rankOf G x))] [] (gs (gs (e_X7_release 40 G (mMax (f_X6_rankOf G x) 1)) 15 5 (mMax 0 (w32 (((e_X7_release 40 G (mMax (f_X6_rankOf G x) 1)) 15 5) - 1)))) 15 6 (w32 (((e_X7_release 40 G (mMax (f_X6_rankOf G x) 1)) 15 6) - 1))) from ?_)
          refine w2_vc [34, 44, 88] 400 oo_X7 q_X7_noteBehind ?_
          exact h
        · rw [if_neg (fun q => q c15)] at h
          refine ⟨fun (c16 : x = 6) => ?_, fun (c16 : ¬ x = 6) => ?_⟩
          · rw [if_pos c16] at h
            refine (show W2 o_X7 M_X7_noteBehind (inN [15, 19, 40, 50, 51]) (d + 4) Q 88 [some (mR 20), some (mI x), some (mI (f_X6_rankOf G x))] [] (gs (gs (e_X7_release 40 G (mMax (f_X6_rankOf G x) 1)) 15 5 (mMax 0 (w32 (((e_X7_release 40 G (mMax (f_X6_rankOf G x) 1)) 15 5) - 1)))) 15 6 (w32 (((e_X7_release 40 G (mMax (f_X6_rankOf G x) 1)) 15 6) - 1))) from ?_)
            refine w2_vc [34, 44, 88] 400 oo_X7 q_X7_noteBehind ?_
            exact h
          · rw [if_neg (c16)] at h
            refine ⟨fun (c17 : ¬ (f_X6_rankOf G x) = 3) => ?_, fun (c17 : (f_X6_rankOf G x) = 3) => ?_⟩
            · rw [if_pos c17] at h
              refine ⟨by omega, ?_⟩
              refine (show W2 o_X7 M_X7_noteBehind (inN [15, 19, 40, 50, 51]) (d + 4) Q 88 [some (mR 20), some (mI x), some (mI (f_X6_rankOf G x))] [] (gs (gs (gs (e_X7_release 40 G (mMax (f_X6_rankOf G x) 1)) 15 5 (mMax 0 (w32 (((e_X7_release 40 G (mMax (f_X6_rankOf G x) 1)) 15 5) - 1)))) 15 6 (w32 (((e_X7_release 40 G (mMax (f_X6_rankOf G x) 1)) 15 6) - 1))) 15 7 0) from ?_)
              refine w2_vc [34, 44, 88] 400 oo_X7 q_X7_noteBehind ?_
              exact h
            · rw [if_neg (fun q => q c17)] at h
              refine ⟨by omega, ?_⟩
              refine (show W2 o_X7 M_X7_noteBehind (inN [15, 19, 40, 50, 51]) (d + 4) Q 88 [some (mR 20), some (mI x), some (mI (f_X6_rankOf G x))] [] (gs (gs (gs (e_X7_release 40 G (mMax (f_X6_rankOf G x) 1)) 15 5 (mMax 0 (w32 (((e_X7_release 40 G (mMax (f_X6_rankOf G x) 1)) 15 5) - 1)))) 15 6 (w32 (((e_X7_release 40 G (mMax (f_X6_rankOf G x) 1)) 15 6) - 1))) 15 7 1) from ?_)
              refine w2_vc [34, 44, 88] 400 oo_X7 q_X7_noteBehind ?_
              exact h
  · skip
    unfold e_X7_noteBehind at h
    try simp only [Nat.reduceAdd, Nat.reduceSub] at h
    have hp : G 15 9 = 57 := hp
    refine MP.to (D2 := inN [15, 19, 52, 62, 63]) (Q2 := Q) ?_ hD (fun v G' q _ => q)
    refine (show P2 (inN [15, 19, 52, 62, 63]) (d + 4) M_X7_noteBehind [mR 20, mI x] G Q from ?_)
    refine p2_vc [34, 44, 88] 400 oo_X7 q_X7_noteBehind (by decide) rfl (Nat.le_of_ble_eq_true rfl) ?_
    refine sp_X6_rankOf  ?_
    refine sp_X7_release (by decide) (hp) (by omega) (insub (by decide)) ?_
    refine ⟨fun (c3 : ¬ x = 6) => ?_, fun (c3 : x = 6) => ?_⟩
    · rw [if_pos c3] at h
      refine ⟨fun (c4 : (f_X6_rankOf G x) ≤ 0) => ?_, fun (c4 : 0 < (f_X6_rankOf G x)) => ?_⟩
      · rw [if_pos c4] at h
        refine ⟨fun (c5 : 4 ≤ (f_X6_rankOf G x)) => ?_, fun (c5 : (f_X6_rankOf G x) < 4) => ?_⟩
        · rw [if_pos c5] at h
          refine (show W2 o_X7 M_X7_noteBehind (inN [15, 19, 52, 62, 63]) (d + 4) Q 88 [some (mR 20), some (mI x), some (mI (f_X6_rankOf G x))] [] (e_X7_release 52 G (mMax (f_X6_rankOf G x) 1)) from ?_)
          refine w2_vc [34, 44, 88] 400 oo_X7 q_X7_noteBehind ?_
          exact h
        · rw [if_neg (Int.not_le.mpr c5)] at h
          refine ⟨fun (c6 : ¬ ((e_X7_release 52 G (mMax (f_X6_rankOf G x) 1)) 15 6) = 0) => ?_, fun (c6 : ((e_X7_release 52 G (mMax (f_X6_rankOf G x) 1)) 15 6) = 0) => ?_⟩
          · rw [if_pos c6] at h
            refine (show W2 o_X7 M_X7_noteBehind (inN [15, 19, 52, 62, 63]) (d + 4) Q 88 [some (mR 20), some (mI x), some (mI (f_X6_rankOf G x))] [] (e_X7_release 52 G (mMax (f_X6_rankOf G x) 1)) from ?_)
            refine w2_vc [34, 44, 88] 400 oo_X7 q_X7_noteBehind ?_
            exact h
          · rw [if_neg (fun q => q c6)] at h
            refine ⟨fun (c7 : x = 6) => ?_, fun (c7 : ¬ x = 6) => ?_⟩
            · rw [if_pos c7] at h
              refine (show W2 o_X7 M_X7_noteBehind (inN [15, 19, 52, 62, 63]) (d + 4) Q 88 [some (mR 20), some (mI x), some (mI (f_X6_rankOf G x))] [] (e_X7_release 52 G (mMax (f_X6_rankOf G x) 1)) from ?_)
              refine w2_vc [34, 44, 88] 400 oo_X7 q_X7_noteBehind ?_
              exact h
            · rw [if_neg (c7)] at h
              refine ⟨fun (c8 : ¬ (f_X6_rankOf G x) = 3) => ?_, fun (c8 : (f_X6_rankOf G x) = 3) => ?_⟩
              · rw [if_pos c8] at h
                refine ⟨by omega, ?_⟩
                refine (show W2 o_X7 M_X7_noteBehind (inN [15, 19, 52, 62, 63]) (d + 4) Q 88 [some (mR 20), some (mI x), some (mI (f_X6_rankOf G x))] [] (gs (e_X7_release 52 G (mMax (f_X6_rankOf G x) 1)) 15 7 0) from ?_)
                refine w2_vc [34, 44, 88] 400 oo_X7 q_X7_noteBehind ?_
                exact h
              · rw [if_neg (fun q => q c8)] at h
                refine ⟨by omega, ?_⟩
                refine (show W2 o_X7 M_X7_noteBehind (inN [15, 19, 52, 62, 63]) (d + 4) Q 88 [some (mR 20), some (mI x), some (mI (f_X6_rankOf G x))] [] (gs (e_X7_release 52 G (mMax (f_X6_rankOf G x) 1)) 15 7 1) from ?_)
                refine w2_vc [34, 44, 88] 400 oo_X7 q_X7_noteBehind ?_
                exact h
      · rw [if_neg (Int.not_le.mpr c4)] at h
        refine sp_X7_hold  (insub (by decide)) ?_
        refine ⟨fun (c10 : 4 ≤ (f_X6_rankOf G x)) => ?_, fun (c10 : (f_X6_rankOf G x) < 4) => ?_⟩
        · rw [if_pos c10] at h
          refine (show W2 o_X7 M_X7_noteBehind (inN [15, 19, 52, 62, 63]) (d + 4) Q 88 [some (mR 20), some (mI x), some (mI (f_X6_rankOf G x))] [] (e_X7_hold (e_X7_release 52 G (mMax (f_X6_rankOf G x) 1)) x) from ?_)
          refine w2_vc [34, 44, 88] 400 oo_X7 q_X7_noteBehind ?_
          exact h
        · rw [if_neg (Int.not_le.mpr c10)] at h
          refine ⟨fun (c11 : ¬ ((e_X7_hold (e_X7_release 52 G (mMax (f_X6_rankOf G x) 1)) x) 15 6) = 0) => ?_, fun (c11 : ((e_X7_hold (e_X7_release 52 G (mMax (f_X6_rankOf G x) 1)) x) 15 6) = 0) => ?_⟩
          · rw [if_pos c11] at h
            refine (show W2 o_X7 M_X7_noteBehind (inN [15, 19, 52, 62, 63]) (d + 4) Q 88 [some (mR 20), some (mI x), some (mI (f_X6_rankOf G x))] [] (e_X7_hold (e_X7_release 52 G (mMax (f_X6_rankOf G x) 1)) x) from ?_)
            refine w2_vc [34, 44, 88] 400 oo_X7 q_X7_noteBehind ?_
            exact h
          · rw [if_neg (fun q => q c11)] at h
            refine ⟨fun (c12 : x = 6) => ?_, fun (c12 : ¬ x = 6) => ?_⟩
            · rw [if_pos c12] at h
              refine (show W2 o_X7 M_X7_noteBehind (inN [15, 19, 52, 62, 63]) (d + 4) Q 88 [some (mR 20), some (mI x), some (mI (f_X6_rankOf G x))] [] (e_X7_hold (e_X7_release 52 G (mMax (f_X6_rankOf G x) 1)) x) from ?_)
              refine w2_vc [34, 44, 88] 400 oo_X7 q_X7_noteBehind ?_
              exact h
            · rw [if_neg (c12)] at h
              refine ⟨fun (c13 : ¬ (f_X6_rankOf G x) = 3) => ?_, fun (c13 : (f_X6_rankOf G x) = 3) => ?_⟩
              · rw [if_pos c13] at h
                refine ⟨by omega, ?_⟩
                refine (show W2 o_X7 M_X7_noteBehind (inN [15, 19, 52, 62, 63]) (d + 4) Q 88 [some (mR 20), some (mI x), some (mI (f_X6_rankOf G x))] [] (gs (e_X7_hold (e_X7_release 52 G (mMax (f_X6_rankOf G x) 1)) x) 15 7 0) from ?_)
                refine w2_vc [34, 44, 88] 400 oo_X7 q_X7_noteBehind ?_
                exact h
              · rw [if_neg (fun q => q c13)] at h
                refine ⟨by omega, ?_⟩
                refine (show W2 o_X7 M_X7_noteBehind (inN [15, 19, 52, 62, 63]) (d + 4) Q 88 [some (mR 20), some (mI x), some (mI (f_X6_rankOf G x))] [] (gs (e_X7_hold (e_X7_release 52 G (mMax (f_X6_rankOf G x) 1)) x) 15 7 1) from ?_)
                refine w2_vc [34, 44, 88] 400 oo_X7 q_X7_noteBehind ?_
                exact h
    · rw [if_neg (fun q => q c3)] at h
      refine (show W2 o_X7 M_X7_noteBehind (inN [15, 19, 52, 62, 63]) (d + 4) Q 34 [some (mR 20), some (mI x), some (mI (f_X6_rankOf G x))] [] (gs (e_X7_release 52 G (mMax (f_X6_rankOf G x) 1)) 15 5 (mMax 0 (w32 (((e_X7_release 52 G (mMax (f_X6_rankOf G x) 1)) 15 5) - 1)))) from ?_)
      refine w2_vc [34, 44, 88] 400 oo_X7 q_X7_noteBehind ?_
      refine (show W2 o_X7 M_X7_noteBehind (inN [15, 19, 52, 62, 63]) (d + 4) Q 44 [some (mR 20), some (mI x), some (mI (f_X6_rankOf G x))] [] (gs (gs (e_X7_release 52 G (mMax (f_X6_rankOf G x) 1)) 15 5 (mMax 0 (w32 (((e_X7_release 52 G (mMax (f_X6_rankOf G x) 1)) 15 5) - 1)))) 15 6 (w32 (((e_X7_release 52 G (mMax (f_X6_rankOf G x) 1)) 15 6) - 1))) from ?_)
      refine w2_vc [34, 44, 88] 400 oo_X7 q_X7_noteBehind ?_
      refine ⟨fun (c14 : 4 ≤ (f_X6_rankOf G x)) => ?_, fun (c14 : (f_X6_rankOf G x) < 4) => ?_⟩
      · rw [if_pos c14] at h
        refine (show W2 o_X7 M_X7_noteBehind (inN [15, 19, 52, 62, 63]) (d + 4) Q 88 [some (mR 20), some (mI x), some (mI (f_X6_rankOf G x))] [] (gs (gs (e_X7_release 52 G (mMax (f_X6_rankOf G x) 1)) 15 5 (mMax 0 (w32 (((e_X7_release 52 G (mMax (f_X6_rankOf G x) 1)) 15 5) - 1)))) 15 6 (w32 (((e_X7_release 52 G (mMax (f_X6_rankOf G x) 1)) 15 6) - 1))) from ?_)
        refine w2_vc [34, 44, 88] 400 oo_X7 q_X7_noteBehind ?_
        exact h
      · rw [if_neg (Int.not_le.mpr c14)] at h
        refine ⟨fun (c15 : ¬ (w32 (((e_X7_release 52 G (mMax (f_X6_rankOf G x) 1)) 15 6) - 1)) = 0) => ?_, fun (c15 : (w32 (((e_X7_release 52 G (mMax (f_X6_rankOf G x) 1)) 15 6) - 1)) = 0) => ?_⟩
        · rw [if_pos c15] at h
          refine (show W2 o_X7 M_X7_noteBehind (inN [15, 19, 52, 62, 63]) (d + 4) Q 88 [some (mR 20), some (mI x), some (mI (f_X6_rankOf G x))] [] (gs (gs (e_X7_release 52 G (mMax (f_X6_rankOf G x) 1)) 15 5 (mMax 0 (w32 (((e_X7_release 52 G (mMax (f_X6_rankOf G x) 1)) 15 5) - 1)))) 15 6 (w32 (((e_X7_release 52 G (mMax (f_X6_rankOf G x) 1)) 15 6) - 1))) from ?_)
          refine w2_vc [34, 44, 88] 400 oo_X7 q_X7_noteBehind ?_
          exact h
        · rw [if_neg (fun q => q c15)] at h
          refine ⟨fun (c16 : x = 6) => ?_, fun (c16 : ¬ x = 6) => ?_⟩
          · rw [if_pos c16] at h
            refine (show W2 o_X7 M_X7_noteBehind (inN [15, 19, 52, 62, 63]) (d + 4) Q 88 [some (mR 20), some (mI x), some (mI (f_X6_rankOf G x))] [] (gs (gs (e_X7_release 52 G (mMax (f_X6_rankOf G x) 1)) 15 5 (mMax 0 (w32 (((e_X7_release 52 G (mMax (f_X6_rankOf G x) 1)) 15 5) - 1)))) 15 6 (w32 (((e_X7_release 52 G (mMax (f_X6_rankOf G x) 1)) 15 6) - 1))) from ?_)
            refine w2_vc [34, 44, 88] 400 oo_X7 q_X7_noteBehind ?_
            exact h
          · rw [if_neg (c16)] at h
            refine ⟨fun (c17 : ¬ (f_X6_rankOf G x) = 3) => ?_, fun (c17 : (f_X6_rankOf G x) = 3) => ?_⟩
            · rw [if_pos c17] at h
              refine ⟨by omega, ?_⟩
              refine (show W2 o_X7 M_X7_noteBehind (inN [15, 19, 52, 62, 63]) (d + 4) Q 88 [some (mR 20), some (mI x), some (mI (f_X6_rankOf G x))] [] (gs (gs (gs (e_X7_release 52 G (mMax (f_X6_rankOf G x) 1)) 15 5 (mMax 0 (w32 (((e_X7_release 52 G (mMax (f_X6_rankOf G x) 1)) 15 5) - 1)))) 15 6 (w32 (((e_X7_release 52 G (mMax (f_X6_rankOf G x) 1)) 15 6) - 1))) 15 7 0) from ?_)
              refine w2_vc [34, 44, 88] 400 oo_X7 q_X7_noteBehind ?_
              exact h
            · rw [if_neg (fun q => q c17)] at h
              refine ⟨by omega, ?_⟩
              refine (show W2 o_X7 M_X7_noteBehind (inN [15, 19, 52, 62, 63]) (d + 4) Q 88 [some (mR 20), some (mI x), some (mI (f_X6_rankOf G x))] [] (gs (gs (gs (e_X7_release 52 G (mMax (f_X6_rankOf G x) 1)) 15 5 (mMax 0 (w32 (((e_X7_release 52 G (mMax (f_X6_rankOf G x) 1)) 15 5) - 1)))) 15 6 (w32 (((e_X7_release 52 G (mMax (f_X6_rankOf G x) 1)) 15 6) - 1))) 15 7 1) from ?_)
              refine w2_vc [34, 44, 88] 400 oo_X7 q_X7_noteBehind ?_
              exact h
def e_X7_note (c : Nat) (G : mG) (x : Int) : mG := (if (G 15 8) = 2 then (e_X7_noteCampaign c G ) else (if (G 15 8) = 4 then (e_X1_setFrom c G (f_X10_number G )) else (if (G 15 8) = 6 then (e_X7_noteLast c G (f_X10_number G )) else (if (G 15 8) = 8 then (e_X7_noteClause c G x) else (if (G 15 8) = 9 then (if (f_X10_number G ) = 0 then (e_X1_setAmount c (e_X7_blameIf G 1 5) (f_X10_number G )) else (if (f_X10_number G ) ≤ 9 then (e_X1_setAmount c (e_X7_blameIf G 0 5) (f_X10_number G )) else (e_X1_setAmount c (e_X7_blameIf G 1 5) (f_X10_number G )))) else (if (G 15 8) = 11 then (e_X7_noteDistrict c G (f_X10_number G )) else (if (G 15 8) = 13 then (e_X1_setWorth c G (f_X10_number G )) else (if (G 15 8) = 14 then (e_X7_noteRival c G ) else (if (G 15 8) = 15 then (if (f_X10_number G ) ≤ 100 then (e_X1_setAmount c (e_X7_blameIf G 0 5) (f_X10_number G )) else (e_X1_setAmount c (e_X7_blameIf G 1 5) (f_X10_number G ))) else (if (G 15 8) = 17 then (e_X7_noteUnit c G x (f_X10_number G )) else (if (G 15 8) = 18 then (if (f_X10_number G ) ≤ 7 then (e_X1_addCode c (e_X7_blameIf G 0 5) 27 (f_X10_number G )) else (e_X1_addCode c (e_X7_blameIf G 1 5) 27 (f_X10_number G ))) else (if (G 15 8) = 19 then (e_X7_noteBehind c G x) else (if (G 15 8) = 20 then (e_X7_noteUnit c G x (f_X10_number G )) else (if (G 15 8) = 21 then (e_X7_noteBehind c G x) else G))))))))))))))
theorem frp_X7_note_15 {c : Nat} {G : mG} {x : Int} (hc : c = 40 ∨ c = 52) {i : Nat} (hj : ∀ a ∈ ([5, 6, 7, 10, 11] : List Nat), i ≠ a) : (e_X7_note c G x) 15 i = G 15 i := by
  unfold e_X7_note
  repeat' with_reducible first | apply ite_f | apply ite_f2 | apply ite_p | apply ite_p2
  all_goals first | (simp only [gs_at_ne (hj 5 (by simp)), gs_at_ne (hj 6 (by simp)), gs_at_ne (hj 7 (by simp)), gs_at_ne (hj 10 (by simp)), gs_at_ne (hj 11 (by simp)), gs_ne (show (15) ≠ (16) from by omega), gs_ne (show (15) ≠ (17) from by omega), gs_ne (show (15) ≠ (18) from by omega), gs_ne (show (15) ≠ (19) from by omega), gs_ne (show (15) ≠ (c) from by omega), gs_ne (show (15) ≠ (c + 1) from by omega), gs_ne (show (15) ≠ (c + 2) from by omega), gs_ne (show (15) ≠ (c + 4) from by omega), gs_ne (show (15) ≠ (c + 5) from by omega), gs_ne (show (15) ≠ (c + 6) from by omega), gs_ne (show (15) ≠ (c + 7) from by omega), gs_ne (show (15) ≠ (c + 8) from by omega), gs_ne (show (15) ≠ (c + 9) from by omega), gs_ne (show (15) ≠ (c + 10) from by omega), gs_ne (show (15) ≠ (c + 11) from by omega), fr_X1_addCode (c := c) (k := 15) (fun a ha => by simp only [List.mem_cons, List.not_mem_nil, or_false] at ha; omega), fr_X1_setAmount (c := c) (k := 15) (fun a ha => by simp only [List.mem_cons, List.not_mem_nil, or_false] at ha; omega), fr_X1_setFrom (c := c) (k := 15) (fun a ha => by simp only [List.mem_cons, List.not_mem_nil, or_false] at ha; omega), fr_X1_setWorth (c := c) (k := 15) (fun a ha => by simp only [List.mem_cons, List.not_mem_nil, or_false] at ha; omega), frp_X7_blameIf_15 (fun a ha => hj a (by simp only [List.mem_cons, List.not_mem_nil, or_false] at ha ⊢; omega)), frp_X7_noteBehind_15 (c := c) hc (fun a ha => hj a (by simp only [List.mem_cons, List.not_mem_nil, or_false] at ha ⊢; omega)), frp_X7_noteCampaign_15 (c := c) hc (fun a ha => hj a (by simp only [List.mem_cons, List.not_mem_nil, or_false] at ha ⊢; omega)), frp_X7_noteClause_15 (c := c) hc (fun a ha => hj a (by simp only [List.mem_cons, List.not_mem_nil, or_false] at ha ⊢; omega)), frp_X7_noteDistrict_15 (c := c) hc (fun a ha => hj a (by simp only [List.mem_cons, List.not_mem_nil, or_false] at ha ⊢; omega)), frp_X7_noteLast_15 (c := c) hc (fun a ha => hj a (by simp only [List.mem_cons, List.not_mem_nil, or_false] at ha ⊢; omega)), fr_X7_noteRival (c := c) (k := 15) (fun a ha => by simp only [List.mem_cons, List.not_mem_nil, or_false] at ha; omega), frp_X7_noteUnit_15 (c := c) hc (fun a ha => hj a (by simp only [List.mem_cons, List.not_mem_nil, or_false] at ha ⊢; omega))]; done) | rfl
theorem frp_X7_note_c {c : Nat} {G : mG} {x : Int} (hc : c = 40 ∨ c = 52) {i : Nat} (hj : ∀ a ∈ ([11, 12, 13] : List Nat), i ≠ a) : (e_X7_note c G x) c i = G c i := by
  unfold e_X7_note
  repeat' with_reducible first | apply ite_f | apply ite_f2 | apply ite_p | apply ite_p2
  all_goals first | (simp only [gs_at_ne (hj 11 (by simp)), gs_at_ne (hj 12 (by simp)), gs_at_ne (hj 13 (by simp)), gs_ne (show (c) ≠ (15) from by omega), gs_ne (show (c) ≠ (16) from by omega), gs_ne (show (c) ≠ (17) from by omega), gs_ne (show (c) ≠ (18) from by omega), gs_ne (show (c) ≠ (19) from by omega), gs_ne (show (c) ≠ (c + 1) from by omega), gs_ne (show (c) ≠ (c + 2) from by omega), gs_ne (show (c) ≠ (c + 4) from by omega), gs_ne (show (c) ≠ (c + 5) from by omega), gs_ne (show (c) ≠ (c + 6) from by omega), gs_ne (show (c) ≠ (c + 7) from by omega), gs_ne (show (c) ≠ (c + 8) from by omega), gs_ne (show (c) ≠ (c + 9) from by omega), gs_ne (show (c) ≠ (c + 10) from by omega), gs_ne (show (c) ≠ (c + 11) from by omega), frp_X1_addCode_c (c := c) hc (fun a ha => hj a (by simp only [List.mem_cons, List.not_mem_nil, or_false] at ha ⊢; omega)), fr_X1_setAmount (c := c) (k := c) (fun a ha => by simp only [List.mem_cons, List.not_mem_nil, or_false] at ha; omega), fr_X1_setFrom (c := c) (k := c) (fun a ha => by simp only [List.mem_cons, List.not_mem_nil, or_false] at ha; omega), fr_X1_setWorth (c := c) (k := c) (fun a ha => by simp only [List.mem_cons, List.not_mem_nil, or_false] at ha; omega), fr_X7_blameIf (k := c) (fun a ha => by simp only [List.mem_cons, List.not_mem_nil, or_false] at ha; omega), frp_X7_noteBehind_c (c := c) hc (fun a ha => hj a (by simp only [List.mem_cons, List.not_mem_nil, or_false] at ha ⊢; omega)), frp_X7_noteCampaign_c (c := c) hc (fun a ha => hj a (by simp only [List.mem_cons, List.not_mem_nil, or_false] at ha ⊢; omega)), frp_X7_noteClause_c (c := c) hc (fun a ha => hj a (by simp only [List.mem_cons, List.not_mem_nil, or_false] at ha ⊢; omega)), fr_X7_noteDistrict (c := c) (k := c) (fun a ha => by simp only [List.mem_cons, List.not_mem_nil, or_false] at ha; omega), fr_X7_noteLast (c := c) (k := c) (fun a ha => by simp only [List.mem_cons, List.not_mem_nil, or_false] at ha; omega), fr_X7_noteRival (c := c) (k := c) (fun a ha => by simp only [List.mem_cons, List.not_mem_nil, or_false] at ha; omega), frp_X7_noteUnit_c (c := c) hc (fun a ha => hj a (by simp only [List.mem_cons, List.not_mem_nil, or_false] at ha ⊢; omega))]; done) | rfl
theorem fr_X7_note {c : Nat} {G : mG} {x : Int} {k : Nat} (hk : ∀ a ∈ ([15, 16, 17, 18, 19, c, c + 1, c + 2, c + 4, c + 5, c + 6, c + 7, c + 8, c + 9, c + 10, c + 11] : List Nat), k ≠ a) : (e_X7_note c G x) k = G k := by
  unfold e_X7_note
  repeat' with_reducible first | apply ite_f | apply ite_f2 | apply ite_p | apply ite_p2
  all_goals first | (simp only [gs_ne (hk (15) (by simp)), gs_ne (hk (16) (by simp)), gs_ne (hk (17) (by simp)), gs_ne (hk (18) (by simp)), gs_ne (hk (19) (by simp)), gs_ne (hk (c) (by simp)), gs_ne (hk (c + 1) (by simp)), gs_ne (hk (c + 2) (by simp)), gs_ne (hk (c + 4) (by simp)), gs_ne (hk (c + 5) (by simp)), gs_ne (hk (c + 6) (by simp)), gs_ne (hk (c + 7) (by simp)), gs_ne (hk (c + 8) (by simp)), gs_ne (hk (c + 9) (by simp)), gs_ne (hk (c + 10) (by simp)), gs_ne (hk (c + 11) (by simp)), fr_X1_addCode (c := c) (fun a ha => hk a (by simp only [List.mem_cons, List.not_mem_nil, or_false] at ha ⊢; omega)), fr_X1_setAmount (c := c) (fun a ha => hk a (by simp only [List.mem_cons, List.not_mem_nil, or_false] at ha ⊢; omega)), fr_X1_setFrom (c := c) (fun a ha => hk a (by simp only [List.mem_cons, List.not_mem_nil, or_false] at ha ⊢; omega)), fr_X1_setWorth (c := c) (fun a ha => hk a (by simp only [List.mem_cons, List.not_mem_nil, or_false] at ha ⊢; omega)), fr_X7_blameIf (fun a ha => hk a (by simp only [List.mem_cons, List.not_mem_nil, or_false] at ha ⊢; omega)), fr_X7_noteBehind (c := c) (fun a ha => hk a (by simp only [List.mem_cons, List.not_mem_nil, or_false] at ha ⊢; omega)), fr_X7_noteCampaign (c := c) (fun a ha => hk a (by simp only [List.mem_cons, List.not_mem_nil, or_false] at ha ⊢; omega)), fr_X7_noteClause (c := c) (fun a ha => hk a (by simp only [List.mem_cons, List.not_mem_nil, or_false] at ha ⊢; omega)), fr_X7_noteDistrict (c := c) (fun a ha => hk a (by simp only [List.mem_cons, List.not_mem_nil, or_false] at ha ⊢; omega)), fr_X7_noteLast (c := c) (fun a ha => hk a (by simp only [List.mem_cons, List.not_mem_nil, or_false] at ha ⊢; omega)), fr_X7_noteRival (c := c) (fun a ha => hk a (by simp only [List.mem_cons, List.not_mem_nil, or_false] at ha ⊢; omega)), fr_X7_noteUnit (c := c) (fun a ha => hk a (by simp only [List.mem_cons, List.not_mem_nil, or_false] at ha ⊢; omega))]; done) | rfl
set_option maxHeartbeats 8000000 in
theorem sp_X7_note {D : Nat → Bool} {d : Nat} {c : Nat} {G : mG} {x : Int} {Q : Option mV → mG → Prop} (hc : c = 40 ∨ c = 52) (hp : G 15 9 = ((c + 5 : Nat) : Int)) (h11 : 0 ≤ G c 11 ∧ G c 11 ≤ 8) (h12 : G c 12 ≤ 40) (hw : 0 ≤ G 15 5 ∧ G 15 5 ≤ 35) (hD : ∀ k, D k = false → inN [15, 16, 17, 18, 19, c, c + 1, c + 2, c + 4, c + 5, c + 6, c + 7, c + 8, c + 9, c + 10, c + 11] k = false) (h : Q none (e_X7_note c G x)) : P2 D (d + 5) M_X7_note [mR 20, mI x] G Q := by
  rcases hc with rfl | rfl
  · skip
    unfold e_X7_note at h
    try simp only [Nat.reduceAdd, Nat.reduceSub] at h
    have hp : G 15 9 = 45 := hp
    refine MP.to (D2 := inN [15, 16, 17, 18, 19, 40, 41, 42, 44, 45, 46, 47, 48, 49, 50, 51]) (Q2 := Q) ?_ hD (fun v G' q _ => q)
    refine (show P2 (inN [15, 16, 17, 18, 19, 40, 41, 42, 44, 45, 46, 47, 48, 49, 50, 51]) (d + 5) M_X7_note [mR 20, mI x] G Q from ?_)
    refine p2_vc [119, 166, 185, 219, 246] 400 oo_X7 q_X7_note (by decide) rfl (Nat.le_of_ble_eq_true rfl) ?_
    refine sp_X10_number  ?_
    refine ⟨fun (c2 : (G 15 8) < 2 ∨ 21 < (G 15 8)) => ?_, fun (c2 : (G 15 8) = 2) => ?_, fun (c2 : (G 15 8) = 3) => ?_, fun (c2 : (G 15 8) = 4) => ?_, fun (c2 : (G 15 8) = 5) => ?_, fun (c2 : (G 15 8) = 6) => ?_, fun (c2 : (G 15 8) = 7) => ?_, fun (c2 : (G 15 8) = 8) => ?_, fun (c2 : (G 15 8) = 9) => ?_, fun (c2 : (G 15 8) = 10) => ?_, fun (c2 : (G 15 8) = 11) => ?_, fun (c2 : (G 15 8) = 12) => ?_, fun (c2 : (G 15 8) = 13) => ?_, fun (c2 : (G 15 8) = 14) => ?_, fun (c2 : (G 15 8) = 15) => ?_, fun (c2 : (G 15 8) = 16) => ?_, fun (c2 : (G 15 8) = 17) => ?_, fun (c2 : (G 15 8) = 18) => ?_, fun (c2 : (G 15 8) = 19) => ?_, fun (c2 : (G 15 8) = 20) => ?_, fun (c2 : (G 15 8) = 21) => ?_, trivial⟩
    · skip
      rw [if_neg (show ¬ (G 15 8) = 2 from by omega)] at h
      rw [if_neg (show ¬ (G 15 8) = 4 from by omega)] at h
      rw [if_neg (show ¬ (G 15 8) = 6 from by omega)] at h
      rw [if_neg (show ¬ (G 15 8) = 8 from by omega)] at h
      rw [if_neg (show ¬ (G 15 8) = 9 from by omega)] at h
      rw [if_neg (show ¬ (G 15 8) = 11 from by omega)] at h
      rw [if_neg (show ¬ (G 15 8) = 13 from by omega)] at h
      rw [if_neg (show ¬ (G 15 8) = 14 from by omega)] at h
      rw [if_neg (show ¬ (G 15 8) = 15 from by omega)] at h
      rw [if_neg (show ¬ (G 15 8) = 17 from by omega)] at h
      rw [if_neg (show ¬ (G 15 8) = 18 from by omega)] at h
      rw [if_neg (show ¬ (G 15 8) = 19 from by omega)] at h
      rw [if_neg (show ¬ (G 15 8) = 20 from by omega)] at h
      rw [if_neg (show ¬ (G 15 8) = 21 from by omega)] at h
      exact h
    · skip
      rw [if_pos c2] at h
      refine sp_X7_noteCampaign (by decide) (hp) (h11) (insub (by decide)) ?_
      exact h
    · skip
      rw [if_neg (show ¬ (G 15 8) = 2 from by omega)] at h
      rw [if_neg (show ¬ (G 15 8) = 4 from by omega)] at h
      rw [if_neg (show ¬ (G 15 8) = 6 from by omega)] at h
      rw [if_neg (show ¬ (G 15 8) = 8 from by omega)] at h
      rw [if_neg (show ¬ (G 15 8) = 9 from by omega)] at h
      rw [if_neg (show ¬ (G 15 8) = 11 from by omega)] at h
      rw [if_neg (show ¬ (G 15 8) = 13 from by omega)] at h
      rw [if_neg (show ¬ (G 15 8) = 14 from by omega)] at h
      rw [if_neg (show ¬ (G 15 8) = 15 from by omega)] at h
      rw [if_neg (show ¬ (G 15 8) = 17 from by omega)] at h
      rw [if_neg (show ¬ (G 15 8) = 18 from by omega)] at h
      rw [if_neg (show ¬ (G 15 8) = 19 from by omega)] at h
      rw [if_neg (show ¬ (G 15 8) = 20 from by omega)] at h
      rw [if_neg (show ¬ (G 15 8) = 21 from by omega)] at h
      exact h
    · skip
      rw [if_neg (show ¬ (G 15 8) = 2 from by omega)] at h
      rw [if_pos c2] at h
      refine (show W2 o_X7 M_X7_note (inN [15, 16, 17, 18, 19, 40, 41, 42, 44, 45, 46, 47, 48, 49, 50, 51]) (d + 5) Q 119 [some (mR 20), some (mI x), some (mI (f_X10_number G ))] [mR (Int.toNat (G 15 9))] G from ?_)
      rw [hp]
      refine (show W2 o_X7 M_X7_note (inN [15, 16, 17, 18, 19, 40, 41, 42, 44, 45, 46, 47, 48, 49, 50, 51]) (d + 5) Q 119 [some (mR 20), some (mI x), some (mI (f_X10_number G ))] [mR 45] G from ?_)
      refine w2_vc [119, 166, 185, 219, 246] 400 oo_X7 q_X7_note ?_
      refine sp_X1_setFrom (by decide) (insub (by decide)) ?_
      exact h
    · skip
      rw [if_neg (show ¬ (G 15 8) = 2 from by omega)] at h
      rw [if_neg (show ¬ (G 15 8) = 4 from by omega)] at h
      rw [if_neg (show ¬ (G 15 8) = 6 from by omega)] at h
      rw [if_neg (show ¬ (G 15 8) = 8 from by omega)] at h
      rw [if_neg (show ¬ (G 15 8) = 9 from by omega)] at h
      rw [if_neg (show ¬ (G 15 8) = 11 from by omega)] at h
      rw [if_neg (show ¬ (G 15 8) = 13 from by omega)] at h
      rw [if_neg (show ¬ (G 15 8) = 14 from by omega)] at h
      rw [if_neg (show ¬ (G 15 8) = 15 from by omega)] at h
      rw [if_neg (show ¬ (G 15 8) = 17 from by omega)] at h
      rw [if_neg (show ¬ (G 15 8) = 18 from by omega)] at h
      rw [if_neg (show ¬ (G 15 8) = 19 from by omega)] at h
      rw [if_neg (show ¬ (G 15 8) = 20 from by omega)] at h
      rw [if_neg (show ¬ (G 15 8) = 21 from by omega)] at h
      exact h
    · skip
      rw [if_neg (show ¬ (G 15 8) = 2 from by omega)] at h
      rw [if_neg (show ¬ (G 15 8) = 4 from by omega)] at h
      rw [if_pos c2] at h
      refine sp_X7_noteLast (by decide) (hp) (insub (by decide)) ?_
      exact h
    · skip
      rw [if_neg (show ¬ (G 15 8) = 2 from by omega)] at h
      rw [if_neg (show ¬ (G 15 8) = 4 from by omega)] at h
      rw [if_neg (show ¬ (G 15 8) = 6 from by omega)] at h
      rw [if_neg (show ¬ (G 15 8) = 8 from by omega)] at h
      rw [if_neg (show ¬ (G 15 8) = 9 from by omega)] at h
      rw [if_neg (show ¬ (G 15 8) = 11 from by omega)] at h
      rw [if_neg (show ¬ (G 15 8) = 13 from by omega)] at h
      rw [if_neg (show ¬ (G 15 8) = 14 from by omega)] at h
      rw [if_neg (show ¬ (G 15 8) = 15 from by omega)] at h
      rw [if_neg (show ¬ (G 15 8) = 17 from by omega)] at h
      rw [if_neg (show ¬ (G 15 8) = 18 from by omega)] at h
      rw [if_neg (show ¬ (G 15 8) = 19 from by omega)] at h
      rw [if_neg (show ¬ (G 15 8) = 20 from by omega)] at h
      rw [if_neg (show ¬ (G 15 8) = 21 from by omega)] at h
      exact h
    · skip
      rw [if_neg (show ¬ (G 15 8) = 2 from by omega)] at h
      rw [if_neg (show ¬ (G 15 8) = 4 from by omega)] at h
      rw [if_neg (show ¬ (G 15 8) = 6 from by omega)] at h
      rw [if_pos c2] at h
      refine sp_X7_noteClause (by decide) (hp) (insub (by decide)) ?_
      exact h
    · skip
      rw [if_neg (show ¬ (G 15 8) = 2 from by omega)] at h
      rw [if_neg (show ¬ (G 15 8) = 4 from by omega)] at h
      rw [if_neg (show ¬ (G 15 8) = 6 from by omega)] at h
      rw [if_neg (show ¬ (G 15 8) = 8 from by omega)] at h
      rw [if_pos c2] at h
      refine ⟨fun (c7 : (f_X10_number G ) = 0) => ?_, fun (c7 : ¬ (f_X10_number G ) = 0) => ?_⟩
      · rw [if_pos c7] at h
        refine sp_X7_blameIf  (insub (by decide)) ?_
        refine (show W2 o_X7 M_X7_note (inN [15, 16, 17, 18, 19, 40, 41, 42, 44, 45, 46, 47, 48, 49, 50, 51]) (d + 5) Q 166 [some (mR 20), some (mI x), some (mI (f_X10_number G ))] [mR (Int.toNat ((e_X7_blameIf G 1 5) 15 9))] (e_X7_blameIf G 1 5) from ?_)
        rw [show ((e_X7_blameIf G 1 5) 15 9) = 45 from by (try simp (disch := decide) only [gs_ne, gs_at_ne, fr_X1_setFrom, fr_X7_blameIf, frp_X7_blameIf_15, fr_X7_noteCampaign, frp_X7_noteCampaign_15, frp_X7_noteCampaign_c, fr_X7_noteClause, frp_X7_noteClause_15, frp_X7_noteClause_c, fr_X7_noteLast, frp_X7_noteLast_15]); exact hp]
        refine (show W2 o_X7 M_X7_note (inN [15, 16, 17, 18, 19, 40, 41, 42, 44, 45, 46, 47, 48, 49, 50, 51]) (d + 5) Q 166 [some (mR 20), some (mI x), some (mI (f_X10_number G ))] [mR 45] (e_X7_blameIf G 1 5) from ?_)
        refine w2_vc [119, 166, 185, 219, 246] 400 oo_X7 q_X7_note ?_
        refine sp_X1_setAmount (by decide) (insub (by decide)) ?_
        exact h
      · rw [if_neg (c7)] at h
        refine ⟨fun (c10 : (f_X10_number G ) ≤ 9) => ?_, fun (c10 : 9 < (f_X10_number G )) => ?_⟩
        · rw [if_pos c10] at h
          refine sp_X7_blameIf  (insub (by decide)) ?_
          refine (show W2 o_X7 M_X7_note (inN [15, 16, 17, 18, 19, 40, 41, 42, 44, 45, 46, 47, 48, 49, 50, 51]) (d + 5) Q 166 [some (mR 20), some (mI x), some (mI (f_X10_number G ))] [mR (Int.toNat ((e_X7_blameIf G 0 5) 15 9))] (e_X7_blameIf G 0 5) from ?_)
          rw [show ((e_X7_blameIf G 0 5) 15 9) = 45 from by (try simp (disch := decide) only [gs_ne, gs_at_ne, fr_X1_setAmount, fr_X1_setFrom, fr_X7_blameIf, frp_X7_blameIf_15, fr_X7_noteCampaign, frp_X7_noteCampaign_15, frp_X7_noteCampaign_c, fr_X7_noteClause, frp_X7_noteClause_15, frp_X7_noteClause_c, fr_X7_noteLast, frp_X7_noteLast_15]); exact hp]
          refine (show W2 o_X7 M_X7_note (inN [15, 16, 17, 18, 19, 40, 41, 42, 44, 45, 46, 47, 48, 49, 50, 51]) (d + 5) Q 166 [some (mR 20), some (mI x), some (mI (f_X10_number G ))] [mR 45] (e_X7_blameIf G 0 5) from ?_)
          refine w2_vc [119, 166, 185, 219, 246] 400 oo_X7 q_X7_note ?_
          refine sp_X1_setAmount (by decide) (insub (by decide)) ?_
          exact h
        · rw [if_neg (Int.not_le.mpr c10)] at h
          refine sp_X7_blameIf  (insub (by decide)) ?_
          refine (show W2 o_X7 M_X7_note (inN [15, 16, 17, 18, 19, 40, 41, 42, 44, 45, 46, 47, 48, 49, 50, 51]) (d + 5) Q 166 [some (mR 20), some (mI x), some (mI (f_X10_number G ))] [mR (Int.toNat ((e_X7_blameIf G 1 5) 15 9))] (e_X7_blameIf G 1 5) from ?_)
          rw [show ((e_X7_blameIf G 1 5) 15 9) = 45 from by (try simp (disch := decide) only [gs_ne, gs_at_ne, fr_X1_setAmount, fr_X1_setFrom, fr_X7_blameIf, frp_X7_blameIf_15, fr_X7_noteCampaign, frp_X7_noteCampaign_15, frp_X7_noteCampaign_c, fr_X7_noteClause, frp_X7_noteClause_15, frp_X7_noteClause_c, fr_X7_noteLast, frp_X7_noteLast_15]); exact hp]
          refine (show W2 o_X7 M_X7_note (inN [15, 16, 17, 18, 19, 40, 41, 42, 44, 45, 46, 47, 48, 49, 50, 51]) (d + 5) Q 166 [some (mR 20), some (mI x), some (mI (f_X10_number G ))] [mR 45] (e_X7_blameIf G 1 5) from ?_)
          refine w2_vc [119, 166, 185, 219, 246] 400 oo_X7 q_X7_note ?_
          refine sp_X1_setAmount (by decide) (insub (by decide)) ?_
          exact h
    · skip
      rw [if_neg (show ¬ (G 15 8) = 2 from by omega)] at h
      rw [if_neg (show ¬ (G 15 8) = 4 from by omega)] at h
      rw [if_neg (show ¬ (G 15 8) = 6 from by omega)] at h
      rw [if_neg (show ¬ (G 15 8) = 8 from by omega)] at h
      rw [if_neg (show ¬ (G 15 8) = 9 from by omega)] at h
      rw [if_neg (show ¬ (G 15 8) = 11 from by omega)] at h
      rw [if_neg (show ¬ (G 15 8) = 13 from by omega)] at h
      rw [if_neg (show ¬ (G 15 8) = 14 from by omega)] at h
      rw [if_neg (show ¬ (G 15 8) = 15 from by omega)] at h
      rw [if_neg (show ¬ (G 15 8) = 17 from by omega)] at h
      rw [if_neg (show ¬ (G 15 8) = 18 from by omega)] at h
      rw [if_neg (show ¬ (G 15 8) = 19 from by omega)] at h
      rw [if_neg (show ¬ (G 15 8) = 20 from by omega)] at h
      rw [if_neg (show ¬ (G 15 8) = 21 from by omega)] at h
      exact h
    · skip
      rw [if_neg (show ¬ (G 15 8) = 2 from by omega)] at h
      rw [if_neg (show ¬ (G 15 8) = 4 from by omega)] at h
      rw [if_neg (show ¬ (G 15 8) = 6 from by omega)] at h
      rw [if_neg (show ¬ (G 15 8) = 8 from by omega)] at h
      rw [if_neg (show ¬ (G 15 8) = 9 from by omega)] at h
      rw [if_pos c2] at h
      refine sp_X7_noteDistrict (by decide) (hp) (h12) (insub (by decide)) ?_
      exact h
    · skip
      rw [if_neg (show ¬ (G 15 8) = 2 from by omega)] at h
      rw [if_neg (show ¬ (G 15 8) = 4 from by omega)] at h
      rw [if_neg (show ¬ (G 15 8) = 6 from by omega)] at h
      rw [if_neg (show ¬ (G 15 8) = 8 from by omega)] at h
      rw [if_neg (show ¬ (G 15 8) = 9 from by omega)] at h
      rw [if_neg (show ¬ (G 15 8) = 11 from by omega)] at h
      rw [if_neg (show ¬ (G 15 8) = 13 from by omega)] at h
      rw [if_neg (show ¬ (G 15 8) = 14 from by omega)] at h
      rw [if_neg (show ¬ (G 15 8) = 15 from by omega)] at h
      rw [if_neg (show ¬ (G 15 8) = 17 from by omega)] at h
      rw [if_neg (show ¬ (G 15 8) = 18 from by omega)] at h
      rw [if_neg (show ¬ (G 15 8) = 19 from by omega)] at h
      rw [if_neg (show ¬ (G 15 8) = 20 from by omega)] at h
      rw [if_neg (show ¬ (G 15 8) = 21 from by omega)] at h
      exact h
    · skip
      rw [if_neg (show ¬ (G 15 8) = 2 from by omega)] at h
      rw [if_neg (show ¬ (G 15 8) = 4 from by omega)] at h
      rw [if_neg (show ¬ (G 15 8) = 6 from by omega)] at h
      rw [if_neg (show ¬ (G 15 8) = 8 from by omega)] at h
      rw [if_neg (show ¬ (G 15 8) = 9 from by omega)] at h
      rw [if_neg (show ¬ (G 15 8) = 11 from by omega)] at h
      rw [if_pos c2] at h
      refine (show W2 o_X7 M_X7_note (inN [15, 16, 17, 18, 19, 40, 41, 42, 44, 45, 46, 47, 48, 49, 50, 51]) (d + 5) Q 185 [some (mR 20), some (mI x), some (mI (f_X10_number G ))] [mR (Int.toNat (G 15 9))] G from ?_)
      rw [hp]
      refine (show W2 o_X7 M_X7_note (inN [15, 16, 17, 18, 19, 40, 41, 42, 44, 45, 46, 47, 48, 49, 50, 51]) (d + 5) Q 185 [some (mR 20), some (mI x), some (mI (f_X10_number G ))] [mR 45] G from ?_)
      refine w2_vc [119, 166, 185, 219, 246] 400 oo_X7 q_X7_note ?_
      refine sp_X1_setWorth (by decide) (insub (by decide)) ?_
      exact h
    · skip
      rw [if_neg (show ¬ (G 15 8) = 2 from by omega)] at h
      rw [if_neg (show ¬ (G 15 8) = 4 from by omega)] at h
      rw [if_neg (show ¬ (G 15 8) = 6 from by omega)] at h
      rw [if_neg (show ¬ (G 15 8) = 8 from by omega)] at h
      rw [if_neg (show ¬ (G 15 8) = 9 from by omega)] at h
      rw [if_neg (show ¬ (G 15 8) = 11 from by omega)] at h
      rw [if_neg (show ¬ (G 15 8) = 13 from by omega)] at h
      rw [if_pos c2] at h
      refine sp_X7_noteRival (by decide) (hp) (insub (by decide)) ?_
      exact h
    · skip
      rw [if_neg (show ¬ (G 15 8) = 2 from by omega)] at h
      rw [if_neg (show ¬ (G 15 8) = 4 from by omega)] at h
      rw [if_neg (show ¬ (G 15 8) = 6 from by omega)] at h
      rw [if_neg (show ¬ (G 15 8) = 8 from by omega)] at h
      rw [if_neg (show ¬ (G 15 8) = 9 from by omega)] at h
      rw [if_neg (show ¬ (G 15 8) = 11 from by omega)] at h
      rw [if_neg (show ¬ (G 15 8) = 13 from by omega)] at h
      rw [if_neg (show ¬ (G 15 8) = 14 from by omega)] at h
      rw [if_pos c2] at h
      refine ⟨fun (c18 : (f_X10_number G ) ≤ 100) => ?_, fun (c18 : 100 < (f_X10_number G )) => ?_⟩
      · rw [if_pos c18] at h
        refine sp_X7_blameIf  (insub (by decide)) ?_
        refine (show W2 o_X7 M_X7_note (inN [15, 16, 17, 18, 19, 40, 41, 42, 44, 45, 46, 47, 48, 49, 50, 51]) (d + 5) Q 219 [some (mR 20), some (mI x), some (mI (f_X10_number G ))] [mR (Int.toNat ((e_X7_blameIf G 0 5) 15 9))] (e_X7_blameIf G 0 5) from ?_)
        rw [show ((e_X7_blameIf G 0 5) 15 9) = 45 from by (try simp (disch := decide) only [gs_ne, gs_at_ne, fr_X1_setAmount, fr_X1_setFrom, fr_X1_setWorth, fr_X7_blameIf, frp_X7_blameIf_15, fr_X7_noteCampaign, frp_X7_noteCampaign_15, frp_X7_noteCampaign_c, fr_X7_noteClause, frp_X7_noteClause_15, frp_X7_noteClause_c, fr_X7_noteDistrict, frp_X7_noteDistrict_15, fr_X7_noteLast, frp_X7_noteLast_15, fr_X7_noteRival]); exact hp]
        refine (show W2 o_X7 M_X7_note (inN [15, 16, 17, 18, 19, 40, 41, 42, 44, 45, 46, 47, 48, 49, 50, 51]) (d + 5) Q 219 [some (mR 20), some (mI x), some (mI (f_X10_number G ))] [mR 45] (e_X7_blameIf G 0 5) from ?_)
        refine w2_vc [119, 166, 185, 219, 246] 400 oo_X7 q_X7_note ?_
        refine sp_X1_setAmount (by decide) (insub (by decide)) ?_
        exact h
      · rw [if_neg (Int.not_le.mpr c18)] at h
        refine sp_X7_blameIf  (insub (by decide)) ?_
        refine (show W2 o_X7 M_X7_note (inN [15, 16, 17, 18, 19, 40, 41, 42, 44, 45, 46, 47, 48, 49, 50, 51]) (d + 5) Q 219 [some (mR 20), some (mI x), some (mI (f_X10_number G ))] [mR (Int.toNat ((e_X7_blameIf G 1 5) 15 9))] (e_X7_blameIf G 1 5) from ?_)
        rw [show ((e_X7_blameIf G 1 5) 15 9) = 45 from by (try simp (disch := decide) only [gs_ne, gs_at_ne, fr_X1_setAmount, fr_X1_setFrom, fr_X1_setWorth, fr_X7_blameIf, frp_X7_blameIf_15, fr_X7_noteCampaign, frp_X7_noteCampaign_15, frp_X7_noteCampaign_c, fr_X7_noteClause, frp_X7_noteClause_15, frp_X7_noteClause_c, fr_X7_noteDistrict, frp_X7_noteDistrict_15, fr_X7_noteLast, frp_X7_noteLast_15, fr_X7_noteRival]); exact hp]
        refine (show W2 o_X7 M_X7_note (inN [15, 16, 17, 18, 19, 40, 41, 42, 44, 45, 46, 47, 48, 49, 50, 51]) (d + 5) Q 219 [some (mR 20), some (mI x), some (mI (f_X10_number G ))] [mR 45] (e_X7_blameIf G 1 5) from ?_)
        refine w2_vc [119, 166, 185, 219, 246] 400 oo_X7 q_X7_note ?_
        refine sp_X1_setAmount (by decide) (insub (by decide)) ?_
        exact h
    · skip
      rw [if_neg (show ¬ (G 15 8) = 2 from by omega)] at h
      rw [if_neg (show ¬ (G 15 8) = 4 from by omega)] at h
      rw [if_neg (show ¬ (G 15 8) = 6 from by omega)] at h
      rw [if_neg (show ¬ (G 15 8) = 8 from by omega)] at h
      rw [if_neg (show ¬ (G 15 8) = 9 from by omega)] at h
      rw [if_neg (show ¬ (G 15 8) = 11 from by omega)] at h
      rw [if_neg (show ¬ (G 15 8) = 13 from by omega)] at h
      rw [if_neg (show ¬ (G 15 8) = 14 from by omega)] at h
      rw [if_neg (show ¬ (G 15 8) = 15 from by omega)] at h
      rw [if_neg (show ¬ (G 15 8) = 17 from by omega)] at h
      rw [if_neg (show ¬ (G 15 8) = 18 from by omega)] at h
      rw [if_neg (show ¬ (G 15 8) = 19 from by omega)] at h
      rw [if_neg (show ¬ (G 15 8) = 20 from by omega)] at h
      rw [if_neg (show ¬ (G 15 8) = 21 from by omega)] at h
      exact h
    · skip
      rw [if_neg (show ¬ (G 15 8) = 2 from by omega)] at h
      rw [if_neg (show ¬ (G 15 8) = 4 from by omega)] at h
      rw [if_neg (show ¬ (G 15 8) = 6 from by omega)] at h
      rw [if_neg (show ¬ (G 15 8) = 8 from by omega)] at h
      rw [if_neg (show ¬ (G 15 8) = 9 from by omega)] at h
      rw [if_neg (show ¬ (G 15 8) = 11 from by omega)] at h
      rw [if_neg (show ¬ (G 15 8) = 13 from by omega)] at h
      rw [if_neg (show ¬ (G 15 8) = 14 from by omega)] at h
      rw [if_neg (show ¬ (G 15 8) = 15 from by omega)] at h
      rw [if_pos c2] at h
      refine sp_X7_noteUnit (by decide) (hp) (insub (by decide)) ?_
      exact h
    · skip
      rw [if_neg (show ¬ (G 15 8) = 2 from by omega)] at h
      rw [if_neg (show ¬ (G 15 8) = 4 from by omega)] at h
      rw [if_neg (show ¬ (G 15 8) = 6 from by omega)] at h
      rw [if_neg (show ¬ (G 15 8) = 8 from by omega)] at h
      rw [if_neg (show ¬ (G 15 8) = 9 from by omega)] at h
      rw [if_neg (show ¬ (G 15 8) = 11 from by omega)] at h
      rw [if_neg (show ¬ (G 15 8) = 13 from by omega)] at h
      rw [if_neg (show ¬ (G 15 8) = 14 from by omega)] at h
      rw [if_neg (show ¬ (G 15 8) = 15 from by omega)] at h
      rw [if_neg (show ¬ (G 15 8) = 17 from by omega)] at h
      rw [if_pos c2] at h
      refine ⟨fun (c24 : (f_X10_number G ) ≤ 7) => ?_, fun (c24 : 7 < (f_X10_number G )) => ?_⟩
      · rw [if_pos c24] at h
        refine sp_X7_blameIf  (insub (by decide)) ?_
        refine (show W2 o_X7 M_X7_note (inN [15, 16, 17, 18, 19, 40, 41, 42, 44, 45, 46, 47, 48, 49, 50, 51]) (d + 5) Q 246 [some (mR 20), some (mI x), some (mI (f_X10_number G ))] [mR (Int.toNat ((e_X7_blameIf G 0 5) 15 9))] (e_X7_blameIf G 0 5) from ?_)
        rw [show ((e_X7_blameIf G 0 5) 15 9) = 45 from by (try simp (disch := decide) only [gs_ne, gs_at_ne, fr_X1_setAmount, fr_X1_setFrom, fr_X1_setWorth, fr_X7_blameIf, frp_X7_blameIf_15, fr_X7_noteCampaign, frp_X7_noteCampaign_15, frp_X7_noteCampaign_c, fr_X7_noteClause, frp_X7_noteClause_15, frp_X7_noteClause_c, fr_X7_noteDistrict, frp_X7_noteDistrict_15, fr_X7_noteLast, frp_X7_noteLast_15, fr_X7_noteRival, fr_X7_noteUnit, frp_X7_noteUnit_15, frp_X7_noteUnit_c]); exact hp]
        refine (show W2 o_X7 M_X7_note (inN [15, 16, 17, 18, 19, 40, 41, 42, 44, 45, 46, 47, 48, 49, 50, 51]) (d + 5) Q 246 [some (mR 20), some (mI x), some (mI (f_X10_number G ))] [mR 45] (e_X7_blameIf G 0 5) from ?_)
        refine w2_vc [119, 166, 185, 219, 246] 400 oo_X7 q_X7_note ?_
        refine sp_X1_addCode (by decide) (insub (by decide)) ?_
        exact h
      · rw [if_neg (Int.not_le.mpr c24)] at h
        refine sp_X7_blameIf  (insub (by decide)) ?_
        refine (show W2 o_X7 M_X7_note (inN [15, 16, 17, 18, 19, 40, 41, 42, 44, 45, 46, 47, 48, 49, 50, 51]) (d + 5) Q 246 [some (mR 20), some (mI x), some (mI (f_X10_number G ))] [mR (Int.toNat ((e_X7_blameIf G 1 5) 15 9))] (e_X7_blameIf G 1 5) from ?_)
        rw [show ((e_X7_blameIf G 1 5) 15 9) = 45 from by (try simp (disch := decide) only [gs_ne, gs_at_ne, fr_X1_addCode, frp_X1_addCode_c, fr_X1_setAmount, fr_X1_setFrom, fr_X1_setWorth, fr_X7_blameIf, frp_X7_blameIf_15, fr_X7_noteCampaign, frp_X7_noteCampaign_15, frp_X7_noteCampaign_c, fr_X7_noteClause, frp_X7_noteClause_15, frp_X7_noteClause_c, fr_X7_noteDistrict, frp_X7_noteDistrict_15, fr_X7_noteLast, frp_X7_noteLast_15, fr_X7_noteRival, fr_X7_noteUnit, frp_X7_noteUnit_15, frp_X7_noteUnit_c]); exact hp]
        refine (show W2 o_X7 M_X7_note (inN [15, 16, 17, 18, 19, 40, 41, 42, 44, 45, 46, 47, 48, 49, 50, 51]) (d + 5) Q 246 [some (mR 20), some (mI x), some (mI (f_X10_number G ))] [mR 45] (e_X7_blameIf G 1 5) from ?_)
        refine w2_vc [119, 166, 185, 219, 246] 400 oo_X7 q_X7_note ?_
        refine sp_X1_addCode (by decide) (insub (by decide)) ?_
        exact h
    · skip
      rw [if_neg (show ¬ (G 15 8) = 2 from by omega)] at h
      rw [if_neg (show ¬ (G 15 8) = 4 from by omega)] at h
      rw [if_neg (show ¬ (G 15 8) = 6 from by omega)] at h
      rw [if_neg (show ¬ (G 15 8) = 8 from by omega)] at h
      rw [if_neg (show ¬ (G 15 8) = 9 from by omega)] at h
      rw [if_neg (show ¬ (G 15 8) = 11 from by omega)] at h
      rw [if_neg (show ¬ (G 15 8) = 13 from by omega)] at h
      rw [if_neg (show ¬ (G 15 8) = 14 from by omega)] at h
      rw [if_neg (show ¬ (G 15 8) = 15 from by omega)] at h
      rw [if_neg (show ¬ (G 15 8) = 17 from by omega)] at h
      rw [if_neg (show ¬ (G 15 8) = 18 from by omega)] at h
      rw [if_pos c2] at h
      refine sp_X7_noteBehind (by decide) (hp) (by omega) (insub (by decide)) ?_
      exact h
    · skip
      rw [if_neg (show ¬ (G 15 8) = 2 from by omega)] at h
      rw [if_neg (show ¬ (G 15 8) = 4 from by omega)] at h
      rw [if_neg (show ¬ (G 15 8) = 6 from by omega)] at h
      rw [if_neg (show ¬ (G 15 8) = 8 from by omega)] at h
      rw [if_neg (show ¬ (G 15 8) = 9 from by omega)] at h
      rw [if_neg (show ¬ (G 15 8) = 11 from by omega)] at h
      rw [if_neg (show ¬ (G 15 8) = 13 from by omega)] at h
      rw [if_neg (show ¬ (G 15 8) = 14 from by omega)] at h
      rw [if_neg (show ¬ (G 15 8) = 15 from by omega)] at h
      rw [if_neg (show ¬ (G 15 8) = 17 from by omega)] at h
      rw [if_neg (show ¬ (G 15 8) = 18 from by omega)] at h
      rw [if_neg (show ¬ (G 15 8) = 19 from by omega)] at h
      rw [if_pos c2] at h
      refine sp_X7_noteUnit (by decide) (hp) (insub (by decide)) ?_
      exact h
    · skip
      rw [if_neg (show ¬ (G 15 8) = 2 from by omega)] at h
      rw [if_neg (show ¬ (G 15 8) = 4 from by omega)] at h
      rw [if_neg (show ¬ (G 15 8) = 6 from by omega)] at h
      rw [if_neg (show ¬ (G 15 8) = 8 from by omega)] at h
      rw [if_neg (show ¬ (G 15 8) = 9 from by omega)] at h
      rw [if_neg (show ¬ (G 15 8) = 11 from by omega)] at h
      rw [if_neg (show ¬ (G 15 8) = 13 from by omega)] at h
      rw [if_neg (show ¬ (G 15 8) = 14 from by omega)] at h
      rw [if_neg (show ¬ (G 15 8) = 15 from by omega)] at h
      rw [if_neg (show ¬ (G 15 8) = 17 from by omega)] at h
      rw [if_neg (show ¬ (G 15 8) = 18 from by omega)] at h
      rw [if_neg (show ¬ (G 15 8) = 19 from by omega)] at h
      rw [if_neg (show ¬ (G 15 8) = 20 from by omega)] at h
      rw [if_pos c2] at h
      refine sp_X7_noteBehind (by decide) (hp) (by omega) (insub (by decide)) ?_
      exact h
  · skip
    unfold e_X7_note at h
    try simp only [Nat.reduceAdd, Nat.reduceSub] at h
    have hp : G 15 9 = 57 := hp
    refine MP.to (D2 := inN [15, 16, 17, 18, 19, 52, 53, 54, 56, 57, 58, 59, 60, 61, 62, 63]) (Q2 := Q) ?_ hD (fun v G' q _ => q)
    refine (show P2 (inN [15, 16, 17, 18, 19, 52, 53, 54, 56, 57, 58, 59, 60, 61, 62, 63]) (d + 5) M_X7_note [mR 20, mI x] G Q from ?_)
    refine p2_vc [119, 166, 185, 219, 246] 400 oo_X7 q_X7_note (by decide) rfl (Nat.le_of_ble_eq_true rfl) ?_
    refine sp_X10_number  ?_
    refine ⟨fun (c2 : (G 15 8) < 2 ∨ 21 < (G 15 8)) => ?_, fun (c2 : (G 15 8) = 2) => ?_, fun (c2 : (G 15 8) = 3) => ?_, fun (c2 : (G 15 8) = 4) => ?_, fun (c2 : (G 15 8) = 5) => ?_, fun (c2 : (G 15 8) = 6) => ?_, fun (c2 : (G 15 8) = 7) => ?_, fun (c2 : (G 15 8) = 8) => ?_, fun (c2 : (G 15 8) = 9) => ?_, fun (c2 : (G 15 8) = 10) => ?_, fun (c2 : (G 15 8) = 11) => ?_, fun (c2 : (G 15 8) = 12) => ?_, fun (c2 : (G 15 8) = 13) => ?_, fun (c2 : (G 15 8) = 14) => ?_, fun (c2 : (G 15 8) = 15) => ?_, fun (c2 : (G 15 8) = 16) => ?_, fun (c2 : (G 15 8) = 17) => ?_, fun (c2 : (G 15 8) = 18) => ?_, fun (c2 : (G 15 8) = 19) => ?_, fun (c2 : (G 15 8) = 20) => ?_, fun (c2 : (G 15 8) = 21) => ?_, trivial⟩
    · skip
      rw [if_neg (show ¬ (G 15 8) = 2 from by omega)] at h
      rw [if_neg (show ¬ (G 15 8) = 4 from by omega)] at h
      rw [if_neg (show ¬ (G 15 8) = 6 from by omega)] at h
      rw [if_neg (show ¬ (G 15 8) = 8 from by omega)] at h
      rw [if_neg (show ¬ (G 15 8) = 9 from by omega)] at h
      rw [if_neg (show ¬ (G 15 8) = 11 from by omega)] at h
      rw [if_neg (show ¬ (G 15 8) = 13 from by omega)] at h
      rw [if_neg (show ¬ (G 15 8) = 14 from by omega)] at h
      rw [if_neg (show ¬ (G 15 8) = 15 from by omega)] at h
      rw [if_neg (show ¬ (G 15 8) = 17 from by omega)] at h
      rw [if_neg (show ¬ (G 15 8) = 18 from by omega)] at h
      rw [if_neg (show ¬ (G 15 8) = 19 from by omega)] at h
      rw [if_neg (show ¬ (G 15 8) = 20 from by omega)] at h
      rw [if_neg (show ¬ (G 15 8) = 21 from by omega)] at h
      exact h
    · skip
      rw [if_pos c2] at h
      refine sp_X7_noteCampaign (by decide) (hp) (h11) (insub (by decide)) ?_
      exact h
    · skip
      rw [if_neg (show ¬ (G 15 8) = 2 from by omega)] at h
      rw [if_neg (show ¬ (G 15 8) = 4 from by omega)] at h
      rw [if_neg (show ¬ (G 15 8) = 6 from by omega)] at h
      rw [if_neg (show ¬ (G 15 8) = 8 from by omega)] at h
      rw [if_neg (show ¬ (G 15 8) = 9 from by omega)] at h
      rw [if_neg (show ¬ (G 15 8) = 11 from by omega)] at h
      rw [if_neg (show ¬ (G 15 8) = 13 from by omega)] at h
      rw [if_neg (show ¬ (G 15 8) = 14 from by omega)] at h
      rw [if_neg (show ¬ (G 15 8) = 15 from by omega)] at h
      rw [if_neg (show ¬ (G 15 8) = 17 from by omega)] at h
      rw [if_neg (show ¬ (G 15 8) = 18 from by omega)] at h
      rw [if_neg (show ¬ (G 15 8) = 19 from by omega)] at h
      rw [if_neg (show ¬ (G 15 8) = 20 from by omega)] at h
      rw [if_neg (show ¬ (G 15 8) = 21 from by omega)] at h
      exact h
    · skip
      rw [if_neg (show ¬ (G 15 8) = 2 from by omega)] at h
      rw [if_pos c2] at h
      refine (show W2 o_X7 M_X7_note (inN [15, 16, 17, 18, 19, 52, 53, 54, 56, 57, 58, 59, 60, 61, 62, 63]) (d + 5) Q 119 [some (mR 20), some (mI x), some (mI (f_X10_number G ))] [mR (Int.toNat (G 15 9))] G from ?_)
      rw [hp]
      refine (show W2 o_X7 M_X7_note (inN [15, 16, 17, 18, 19, 52, 53, 54, 56, 57, 58, 59, 60, 61, 62, 63]) (d + 5) Q 119 [some (mR 20), some (mI x), some (mI (f_X10_number G ))] [mR 57] G from ?_)
      refine w2_vc [119, 166, 185, 219, 246] 400 oo_X7 q_X7_note ?_
      refine sp_X1_setFrom (by decide) (insub (by decide)) ?_
      exact h
    · skip
      rw [if_neg (show ¬ (G 15 8) = 2 from by omega)] at h
      rw [if_neg (show ¬ (G 15 8) = 4 from by omega)] at h
      rw [if_neg (show ¬ (G 15 8) = 6 from by omega)] at h
      rw [if_neg (show ¬ (G 15 8) = 8 from by omega)] at h
      rw [if_neg (show ¬ (G 15 8) = 9 from by omega)] at h
      rw [if_neg (show ¬ (G 15 8) = 11 from by omega)] at h
      rw [if_neg (show ¬ (G 15 8) = 13 from by omega)] at h
      rw [if_neg (show ¬ (G 15 8) = 14 from by omega)] at h
      rw [if_neg (show ¬ (G 15 8) = 15 from by omega)] at h
      rw [if_neg (show ¬ (G 15 8) = 17 from by omega)] at h
      rw [if_neg (show ¬ (G 15 8) = 18 from by omega)] at h
      rw [if_neg (show ¬ (G 15 8) = 19 from by omega)] at h
      rw [if_neg (show ¬ (G 15 8) = 20 from by omega)] at h
      rw [if_neg (show ¬ (G 15 8) = 21 from by omega)] at h
      exact h
    · skip
      rw [if_neg (show ¬ (G 15 8) = 2 from by omega)] at h
      rw [if_neg (show ¬ (G 15 8) = 4 from by omega)] at h
      rw [if_pos c2] at h
      refine sp_X7_noteLast (by decide) (hp) (insub (by decide)) ?_
      exact h
    · skip
      rw [if_neg (show ¬ (G 15 8) = 2 from by omega)] at h
      rw [if_neg (show ¬ (G 15 8) = 4 from by omega)] at h
      rw [if_neg (show ¬ (G 15 8) = 6 from by omega)] at h
      rw [if_neg (show ¬ (G 15 8) = 8 from by omega)] at h
      rw [if_neg (show ¬ (G 15 8) = 9 from by omega)] at h
      rw [if_neg (show ¬ (G 15 8) = 11 from by omega)] at h
      rw [if_neg (show ¬ (G 15 8) = 13 from by omega)] at h
      rw [if_neg (show ¬ (G 15 8) = 14 from by omega)] at h
      rw [if_neg (show ¬ (G 15 8) = 15 from by omega)] at h
      rw [if_neg (show ¬ (G 15 8) = 17 from by omega)] at h
      rw [if_neg (show ¬ (G 15 8) = 18 from by omega)] at h
      rw [if_neg (show ¬ (G 15 8) = 19 from by omega)] at h
      rw [if_neg (show ¬ (G 15 8) = 20 from by omega)] at h
      rw [if_neg (show ¬ (G 15 8) = 21 from by omega)] at h
      exact h
    · skip
      rw [if_neg (show ¬ (G 15 8) = 2 from by omega)] at h
      rw [if_neg (show ¬ (G 15 8) = 4 from by omega)] at h
      rw [if_neg (show ¬ (G 15 8) = 6 from by omega)] at h
      rw [if_pos c2] at h
      refine sp_X7_noteClause (by decide) (hp) (insub (by decide)) ?_
      exact h
    · skip
      rw [if_neg (show ¬ (G 15 8) = 2 from by omega)] at h
      rw [if_neg (show ¬ (G 15 8) = 4 from by omega)] at h
      rw [if_neg (show ¬ (G 15 8) = 6 from by omega)] at h
      rw [if_neg (show ¬ (G 15 8) = 8 from by omega)] at h
      rw [if_pos c2] at h
      refine ⟨fun (c7 : (f_X10_number G ) = 0) => ?_, fun (c7 : ¬ (f_X10_number G ) = 0) => ?_⟩
      · rw [if_pos c7] at h
        refine sp_X7_blameIf  (insub (by decide)) ?_
        refine (show W2 o_X7 M_X7_note (inN [15, 16, 17, 18, 19, 52, 53, 54, 56, 57, 58, 59, 60, 61, 62, 63]) (d + 5) Q 166 [some (mR 20), some (mI x), some (mI (f_X10_number G ))] [mR (Int.toNat ((e_X7_blameIf G 1 5) 15 9))] (e_X7_blameIf G 1 5) from ?_)
        rw [show ((e_X7_blameIf G 1 5) 15 9) = 57 from by (try simp (disch := decide) only [gs_ne, gs_at_ne, fr_X1_setFrom, fr_X7_blameIf, frp_X7_blameIf_15, fr_X7_noteCampaign, frp_X7_noteCampaign_15, frp_X7_noteCampaign_c, fr_X7_noteClause, frp_X7_noteClause_15, frp_X7_noteClause_c, fr_X7_noteLast, frp_X7_noteLast_15]); exact hp]
        refine (show W2 o_X7 M_X7_note (inN [15, 16, 17, 18, 19, 52, 53, 54, 56, 57, 58, 59, 60, 61, 62, 63]) (d + 5) Q 166 [some (mR 20), some (mI x), some (mI (f_X10_number G ))] [mR 57] (e_X7_blameIf G 1 5) from ?_)
        refine w2_vc [119, 166, 185, 219, 246] 400 oo_X7 q_X7_note ?_
        refine sp_X1_setAmount (by decide) (insub (by decide)) ?_
        exact h
      · rw [if_neg (c7)] at h
        refine ⟨fun (c10 : (f_X10_number G ) ≤ 9) => ?_, fun (c10 : 9 < (f_X10_number G )) => ?_⟩
        · rw [if_pos c10] at h
          refine sp_X7_blameIf  (insub (by decide)) ?_
          refine (show W2 o_X7 M_X7_note (inN [15, 16, 17, 18, 19, 52, 53, 54, 56, 57, 58, 59, 60, 61, 62, 63]) (d + 5) Q 166 [some (mR 20), some (mI x), some (mI (f_X10_number G ))] [mR (Int.toNat ((e_X7_blameIf G 0 5) 15 9))] (e_X7_blameIf G 0 5) from ?_)
          rw [show ((e_X7_blameIf G 0 5) 15 9) = 57 from by (try simp (disch := decide) only [gs_ne, gs_at_ne, fr_X1_setAmount, fr_X1_setFrom, fr_X7_blameIf, frp_X7_blameIf_15, fr_X7_noteCampaign, frp_X7_noteCampaign_15, frp_X7_noteCampaign_c, fr_X7_noteClause, frp_X7_noteClause_15, frp_X7_noteClause_c, fr_X7_noteLast, frp_X7_noteLast_15]); exact hp]
          refine (show W2 o_X7 M_X7_note (inN [15, 16, 17, 18, 19, 52, 53, 54, 56, 57, 58, 59, 60, 61, 62, 63]) (d + 5) Q 166 [some (mR 20), some (mI x), some (mI (f_X10_number G ))] [mR 57] (e_X7_blameIf G 0 5) from ?_)
          refine w2_vc [119, 166, 185, 219, 246] 400 oo_X7 q_X7_note ?_
          refine sp_X1_setAmount (by decide) (insub (by decide)) ?_
          exact h
        · rw [if_neg (Int.not_le.mpr c10)] at h
          refine sp_X7_blameIf  (insub (by decide)) ?_
          refine (show W2 o_X7 M_X7_note (inN [15, 16, 17, 18, 19, 52, 53, 54, 56, 57, 58, 59, 60, 61, 62, 63]) (d + 5) Q 166 [some (mR 20), some (mI x), some (mI (f_X10_number G ))] [mR (Int.toNat ((e_X7_blameIf G 1 5) 15 9))] (e_X7_blameIf G 1 5) from ?_)
          rw [show ((e_X7_blameIf G 1 5) 15 9) = 57 from by (try simp (disch := decide) only [gs_ne, gs_at_ne, fr_X1_setAmount, fr_X1_setFrom, fr_X7_blameIf, frp_X7_blameIf_15, fr_X7_noteCampaign, frp_X7_noteCampaign_15, frp_X7_noteCampaign_c, fr_X7_noteClause, frp_X7_noteClause_15, frp_X7_noteClause_c, fr_X7_noteLast, frp_X7_noteLast_15]); exact hp]
          refine (show W2 o_X7 M_X7_note (inN [15, 16, 17, 18, 19, 52, 53, 54, 56, 57, 58, 59, 60, 61, 62, 63]) (d + 5) Q 166 [some (mR 20), some (mI x), some (mI (f_X10_number G ))] [mR 57] (e_X7_blameIf G 1 5) from ?_)
          refine w2_vc [119, 166, 185, 219, 246] 400 oo_X7 q_X7_note ?_
          refine sp_X1_setAmount (by decide) (insub (by decide)) ?_
          exact h
    · skip
      rw [if_neg (show ¬ (G 15 8) = 2 from by omega)] at h
      rw [if_neg (show ¬ (G 15 8) = 4 from by omega)] at h
      rw [if_neg (show ¬ (G 15 8) = 6 from by omega)] at h
      rw [if_neg (show ¬ (G 15 8) = 8 from by omega)] at h
      rw [if_neg (show ¬ (G 15 8) = 9 from by omega)] at h
      rw [if_neg (show ¬ (G 15 8) = 11 from by omega)] at h
      rw [if_neg (show ¬ (G 15 8) = 13 from by omega)] at h
      rw [if_neg (show ¬ (G 15 8) = 14 from by omega)] at h
      rw [if_neg (show ¬ (G 15 8) = 15 from by omega)] at h
      rw [if_neg (show ¬ (G 15 8) = 17 from by omega)] at h
      rw [if_neg (show ¬ (G 15 8) = 18 from by omega)] at h
      rw [if_neg (show ¬ (G 15 8) = 19 from by omega)] at h
      rw [if_neg (show ¬ (G 15 8) = 20 from by omega)] at h
      rw [if_neg (show ¬ (G 15 8) = 21 from by omega)] at h
      exact h
    · skip
      rw [if_neg (show ¬ (G 15 8) = 2 from by omega)] at h
      rw [if_neg (show ¬ (G 15 8) = 4 from by omega)] at h
      rw [if_neg (show ¬ (G 15 8) = 6 from by omega)] at h
      rw [if_neg (show ¬ (G 15 8) = 8 from by omega)] at h
      rw [if_neg (show ¬ (G 15 8) = 9 from by omega)] at h
      rw [if_pos c2] at h
      refine sp_X7_noteDistrict (by decide) (hp) (h12) (insub (by decide)) ?_
      exact h
    · skip
      rw [if_neg (show ¬ (G 15 8) = 2 from by omega)] at h
      rw [if_neg (show ¬ (G 15 8) = 4 from by omega)] at h
      rw [if_neg (show ¬ (G 15 8) = 6 from by omega)] at h
      rw [if_neg (show ¬ (G 15 8) = 8 from by omega)] at h
      rw [if_neg (show ¬ (G 15 8) = 9 from by omega)] at h
      rw [if_neg (show ¬ (G 15 8) = 11 from by omega)] at h
      rw [if_neg (show ¬ (G 15 8) = 13 from by omega)] at h
      rw [if_neg (show ¬ (G 15 8) = 14 from by omega)] at h
      rw [if_neg (show ¬ (G 15 8) = 15 from by omega)] at h
      rw [if_neg (show ¬ (G 15 8) = 17 from by omega)] at h
      rw [if_neg (show ¬ (G 15 8) = 18 from by omega)] at h
      rw [if_neg (show ¬ (G 15 8) = 19 from by omega)] at h
      rw [if_neg (show ¬ (G 15 8) = 20 from by omega)] at h
      rw [if_neg (show ¬ (G 15 8) = 21 from by omega)] at h
      exact h
    · skip
      rw [if_neg (show ¬ (G 15 8) = 2 from by omega)] at h
      rw [if_neg (show ¬ (G 15 8) = 4 from by omega)] at h
      rw [if_neg (show ¬ (G 15 8) = 6 from by omega)] at h
      rw [if_neg (show ¬ (G 15 8) = 8 from by omega)] at h
      rw [if_neg (show ¬ (G 15 8) = 9 from by omega)] at h
      rw [if_neg (show ¬ (G 15 8) = 11 from by omega)] at h
      rw [if_pos c2] at h
      refine (show W2 o_X7 M_X7_note (inN [15, 16, 17, 18, 19, 52, 53, 54, 56, 57, 58, 59, 60, 61, 62, 63]) (d + 5) Q 185 [some (mR 20), some (mI x), some (mI (f_X10_number G ))] [mR (Int.toNat (G 15 9))] G from ?_)
      rw [hp]
      refine (show W2 o_X7 M_X7_note (inN [15, 16, 17, 18, 19, 52, 53, 54, 56, 57, 58, 59, 60, 61, 62, 63]) (d + 5) Q 185 [some (mR 20), some (mI x), some (mI (f_X10_number G ))] [mR 57] G from ?_)
      refine w2_vc [119, 166, 185, 219, 246] 400 oo_X7 q_X7_note ?_
      refine sp_X1_setWorth (by decide) (insub (by decide)) ?_
      exact h
    · skip
      rw [if_neg (show ¬ (G 15 8) = 2 from by omega)] at h
      rw [if_neg (show ¬ (G 15 8) = 4 from by omega)] at h
      rw [if_neg (show ¬ (G 15 8) = 6 from by omega)] at h
      rw [if_neg (show ¬ (G 15 8) = 8 from by omega)] at h
      rw [if_neg (show ¬ (G 15 8) = 9 from by omega)] at h
      rw [if_neg (show ¬ (G 15 8) = 11 from by omega)] at h
      rw [if_neg (show ¬ (G 15 8) = 13 from by omega)] at h
      rw [if_pos c2] at h
      refine sp_X7_noteRival (by decide) (hp) (insub (by decide)) ?_
      exact h
    · skip
      rw [if_neg (show ¬ (G 15 8) = 2 from by omega)] at h
      rw [if_neg (show ¬ (G 15 8) = 4 from by omega)] at h
      rw [if_neg (show ¬ (G 15 8) = 6 from by omega)] at h
      rw [if_neg (show ¬ (G 15 8) = 8 from by omega)] at h
      rw [if_neg (show ¬ (G 15 8) = 9 from by omega)] at h
      rw [if_neg (show ¬ (G 15 8) = 11 from by omega)] at h
      rw [if_neg (show ¬ (G 15 8) = 13 from by omega)] at h
      rw [if_neg (show ¬ (G 15 8) = 14 from by omega)] at h
      rw [if_pos c2] at h
      refine ⟨fun (c18 : (f_X10_number G ) ≤ 100) => ?_, fun (c18 : 100 < (f_X10_number G )) => ?_⟩
      · rw [if_pos c18] at h
        refine sp_X7_blameIf  (insub (by decide)) ?_
        refine (show W2 o_X7 M_X7_note (inN [15, 16, 17, 18, 19, 52, 53, 54, 56, 57, 58, 59, 60, 61, 62, 63]) (d + 5) Q 219 [some (mR 20), some (mI x), some (mI (f_X10_number G ))] [mR (Int.toNat ((e_X7_blameIf G 0 5) 15 9))] (e_X7_blameIf G 0 5) from ?_)
        rw [show ((e_X7_blameIf G 0 5) 15 9) = 57 from by (try simp (disch := decide) only [gs_ne, gs_at_ne, fr_X1_setAmount, fr_X1_setFrom, fr_X1_setWorth, fr_X7_blameIf, frp_X7_blameIf_15, fr_X7_noteCampaign, frp_X7_noteCampaign_15, frp_X7_noteCampaign_c, fr_X7_noteClause, frp_X7_noteClause_15, frp_X7_noteClause_c, fr_X7_noteDistrict, frp_X7_noteDistrict_15, fr_X7_noteLast, frp_X7_noteLast_15, fr_X7_noteRival]); exact hp]
        refine (show W2 o_X7 M_X7_note (inN [15, 16, 17, 18, 19, 52, 53, 54, 56, 57, 58, 59, 60, 61, 62, 63]) (d + 5) Q 219 [some (mR 20), some (mI x), some (mI (f_X10_number G ))] [mR 57] (e_X7_blameIf G 0 5) from ?_)
        refine w2_vc [119, 166, 185, 219, 246] 400 oo_X7 q_X7_note ?_
        refine sp_X1_setAmount (by decide) (insub (by decide)) ?_
        exact h
      · rw [if_neg (Int.not_le.mpr c18)] at h
        refine sp_X7_blameIf  (insub (by decide)) ?_
        refine (show W2 o_X7 M_X7_note (inN [15, 16, 17, 18, 19, 52, 53, 54, 56, 57, 58, 59, 60, 61, 62, 63]) (d + 5) Q 219 [some (mR 20), some (mI x), some (mI (f_X10_number G ))] [mR (Int.toNat ((e_X7_blameIf G 1 5) 15 9))] (e_X7_blameIf G 1 5) from ?_)
        rw [show ((e_X7_blameIf G 1 5) 15 9) = 57 from by (try simp (disch := decide) only [gs_ne, gs_at_ne, fr_X1_setAmount, fr_X1_setFrom, fr_X1_setWorth, fr_X7_blameIf, frp_X7_blameIf_15, fr_X7_noteCampaign, frp_X7_noteCampaign_15, frp_X7_noteCampaign_c, fr_X7_noteClause, frp_X7_noteClause_15, frp_X7_noteClause_c, fr_X7_noteDistrict, frp_X7_noteDistrict_15, fr_X7_noteLast, frp_X7_noteLast_15, fr_X7_noteRival]); exact hp]
        refine (show W2 o_X7 M_X7_note (inN [15, 16, 17, 18, 19, 52, 53, 54, 56, 57, 58, 59, 60, 61, 62, 63]) (d + 5) Q 219 [some (mR 20), some (mI x), some (mI (f_X10_number G ))] [mR 57] (e_X7_blameIf G 1 5) from ?_)
        refine w2_vc [119, 166, 185, 219, 246] 400 oo_X7 q_X7_note ?_
        refine sp_X1_setAmount (by decide) (insub (by decide)) ?_
        exact h
    · skip
      rw [if_neg (show ¬ (G 15 8) = 2 from by omega)] at h
      rw [if_neg (show ¬ (G 15 8) = 4 from by omega)] at h
      rw [if_neg (show ¬ (G 15 8) = 6 from by omega)] at h
      rw [if_neg (show ¬ (G 15 8) = 8 from by omega)] at h
      rw [if_neg (show ¬ (G 15 8) = 9 from by omega)] at h
      rw [if_neg (show ¬ (G 15 8) = 11 from by omega)] at h
      rw [if_neg (show ¬ (G 15 8) = 13 from by omega)] at h
      rw [if_neg (show ¬ (G 15 8) = 14 from by omega)] at h
      rw [if_neg (show ¬ (G 15 8) = 15 from by omega)] at h
      rw [if_neg (show ¬ (G 15 8) = 17 from by omega)] at h
      rw [if_neg (show ¬ (G 15 8) = 18 from by omega)] at h
      rw [if_neg (show ¬ (G 15 8) = 19 from by omega)] at h
      rw [if_neg (show ¬ (G 15 8) = 20 from by omega)] at h
      rw [if_neg (show ¬ (G 15 8) = 21 from by omega)] at h
      exact h
    · skip
      rw [if_neg (show ¬ (G 15 8) = 2 from by omega)] at h
      rw [if_neg (show ¬ (G 15 8) = 4 from by omega)] at h
      rw [if_neg (show ¬ (G 15 8) = 6 from by omega)] at h
      rw [if_neg (show ¬ (G 15 8) = 8 from by omega)] at h
      rw [if_neg (show ¬ (G 15 8) = 9 from by omega)] at h
      rw [if_neg (show ¬ (G 15 8) = 11 from by omega)] at h
      rw [if_neg (show ¬ (G 15 8) = 13 from by omega)] at h
      rw [if_neg (show ¬ (G 15 8) = 14 from by omega)] at h
      rw [if_neg (show ¬ (G 15 8) = 15 from by omega)] at h
      rw [if_pos c2] at h
      refine sp_X7_noteUnit (by decide) (hp) (insub (by decide)) ?_
      exact h
    · skip
      rw [if_neg (show ¬ (G 15 8) = 2 from by omega)] at h
      rw [if_neg (show ¬ (G 15 8) = 4 from by omega)] at h
      rw [if_neg (show ¬ (G 15 8) = 6 from by omega)] at h
      rw [if_neg (show ¬ (G 15 8) = 8 from by omega)] at h
      rw [if_neg (show ¬ (G 15 8) = 9 from by omega)] at h
      rw [if_neg (show ¬ (G 15 8) = 11 from by omega)] at h
      rw [if_neg (show ¬ (G 15 8) = 13 from by omega)] at h
      rw [if_neg (show ¬ (G 15 8) = 14 from by omega)] at h
      rw [if_neg (show ¬ (G 15 8) = 15 from by omega)] at h
      rw [if_neg (show ¬ (G 15 8) = 17 from by omega)] at h
      rw [if_pos c2] at h
      refine ⟨fun (c24 : (f_X10_number G ) ≤ 7) => ?_, fun (c24 : 7 < (f_X10_number G )) => ?_⟩
      · rw [if_pos c24] at h
        refine sp_X7_blameIf  (insub (by decide)) ?_
        refine (show W2 o_X7 M_X7_note (inN [15, 16, 17, 18, 19, 52, 53, 54, 56, 57, 58, 59, 60, 61, 62, 63]) (d + 5) Q 246 [some (mR 20), some (mI x), some (mI (f_X10_number G ))] [mR (Int.toNat ((e_X7_blameIf G 0 5) 15 9))] (e_X7_blameIf G 0 5) from ?_)
        rw [show ((e_X7_blameIf G 0 5) 15 9) = 57 from by (try simp (disch := decide) only [gs_ne, gs_at_ne, fr_X1_setAmount, fr_X1_setFrom, fr_X1_setWorth, fr_X7_blameIf, frp_X7_blameIf_15, fr_X7_noteCampaign, frp_X7_noteCampaign_15, frp_X7_noteCampaign_c, fr_X7_noteClause, frp_X7_noteClause_15, frp_X7_noteClause_c, fr_X7_noteDistrict, frp_X7_noteDistrict_15, fr_X7_noteLast, frp_X7_noteLast_15, fr_X7_noteRival, fr_X7_noteUnit, frp_X7_noteUnit_15, frp_X7_noteUnit_c]); exact hp]
        refine (show W2 o_X7 M_X7_note (inN [15, 16, 17, 18, 19, 52, 53, 54, 56, 57, 58, 59, 60, 61, 62, 63]) (d + 5) Q 246 [some (mR 20), some (mI x), some (mI (f_X10_number G ))] [mR 57] (e_X7_blameIf G 0 5) from ?_)
        refine w2_vc [119, 166, 185, 219, 246] 400 oo_X7 q_X7_note ?_
        refine sp_X1_addCode (by decide) (insub (by decide)) ?_
        exact h
      · rw [if_neg (Int.not_le.mpr c24)] at h
        refine sp_X7_blameIf  (insub (by decide)) ?_
        refine (show W2 o_X7 M_X7_note (inN [15, 16, 17, 18, 19, 52, 53, 54, 56, 57, 58, 59, 60, 61, 62, 63]) (d + 5) Q 246 [some (mR 20), some (mI x), some (mI (f_X10_number G ))] [mR (Int.toNat ((e_X7_blameIf G 1 5) 15 9))] (e_X7_blameIf G 1 5) from ?_)
        rw [show ((e_X7_blameIf G 1 5) 15 9) = 57 from by (try simp (disch := decide) only [gs_ne, gs_at_ne, fr_X1_addCode, frp_X1_addCode_c, fr_X1_setAmount, fr_X1_setFrom, fr_X1_setWorth, fr_X7_blameIf, frp_X7_blameIf_15, fr_X7_noteCampaign, frp_X7_noteCampaign_15, frp_X7_noteCampaign_c, fr_X7_noteClause, frp_X7_noteClause_15, frp_X7_noteClause_c, fr_X7_noteDistrict, frp_X7_noteDistrict_15, fr_X7_noteLast, frp_X7_noteLast_15, fr_X7_noteRival, fr_X7_noteUnit, frp_X7_noteUnit_15, frp_X7_noteUnit_c]); exact hp]
        refine (show W2 o_X7 M_X7_note (inN [15, 16, 17, 18, 19, 52, 53, 54, 56, 57, 58, 59, 60, 61, 62, 63]) (d + 5) Q 246 [some (mR 20), some (mI x), some (mI (f_X10_number G ))] [mR 57] (e_X7_blameIf G 1 5) from ?_)
        refine w2_vc [119, 166, 185, 219, 246] 400 oo_X7 q_X7_note ?_
        refine sp_X1_addCode (by decide) (insub (by decide)) ?_
        exact h
    · skip
      rw [if_neg (show ¬ (G 15 8) = 2 from by omega)] at h
      rw [if_neg (show ¬ (G 15 8) = 4 from by omega)] at h
      rw [if_neg (show ¬ (G 15 8) = 6 from by omega)] at h
      rw [if_neg (show ¬ (G 15 8) = 8 from by omega)] at h
      rw [if_neg (show ¬ (G 15 8) = 9 from by omega)] at h
      rw [if_neg (show ¬ (G 15 8) = 11 from by omega)] at h
      rw [if_neg (show ¬ (G 15 8) = 13 from by omega)] at h
      rw [if_neg (show ¬ (G 15 8) = 14 from by omega)] at h
      rw [if_neg (show ¬ (G 15 8) = 15 from by omega)] at h
      rw [if_neg (show ¬ (G 15 8) = 17 from by omega)] at h
      rw [if_neg (show ¬ (G 15 8) = 18 from by omega)] at h
      rw [if_pos c2] at h
      refine sp_X7_noteBehind (by decide) (hp) (by omega) (insub (by decide)) ?_
      exact h
    · skip
      rw [if_neg (show ¬ (G 15 8) = 2 from by omega)] at h
      rw [if_neg (show ¬ (G 15 8) = 4 from by omega)] at h
      rw [if_neg (show ¬ (G 15 8) = 6 from by omega)] at h
      rw [if_neg (show ¬ (G 15 8) = 8 from by omega)] at h
      rw [if_neg (show ¬ (G 15 8) = 9 from by omega)] at h
      rw [if_neg (show ¬ (G 15 8) = 11 from by omega)] at h
      rw [if_neg (show ¬ (G 15 8) = 13 from by omega)] at h
      rw [if_neg (show ¬ (G 15 8) = 14 from by omega)] at h
      rw [if_neg (show ¬ (G 15 8) = 15 from by omega)] at h
      rw [if_neg (show ¬ (G 15 8) = 17 from by omega)] at h
      rw [if_neg (show ¬ (G 15 8) = 18 from by omega)] at h
      rw [if_neg (show ¬ (G 15 8) = 19 from by omega)] at h
      rw [if_pos c2] at h
      refine sp_X7_noteUnit (by decide) (hp) (insub (by decide)) ?_
      exact h
    · skip
      rw [if_neg (show ¬ (G 15 8) = 2 from by omega)] at h
      rw [if_neg (show ¬ (G 15 8) = 4 from by omega)] at h
      rw [if_neg (show ¬ (G 15 8) = 6 from by omega)] at h
      rw [if_neg (show ¬ (G 15 8) = 8 from by omega)] at h
      rw [if_neg (show ¬ (G 15 8) = 9 from by omega)] at h
      rw [if_neg (show ¬ (G 15 8) = 11 from by omega)] at h
      rw [if_neg (show ¬ (G 15 8) = 13 from by omega)] at h
      rw [if_neg (show ¬ (G 15 8) = 14 from by omega)] at h
      rw [if_neg (show ¬ (G 15 8) = 15 from by omega)] at h
      rw [if_neg (show ¬ (G 15 8) = 17 from by omega)] at h
      rw [if_neg (show ¬ (G 15 8) = 18 from by omega)] at h
      rw [if_neg (show ¬ (G 15 8) = 19 from by omega)] at h
      rw [if_neg (show ¬ (G 15 8) = 20 from by omega)] at h
      rw [if_pos c2] at h
      refine sp_X7_noteBehind (by decide) (hp) (by omega) (insub (by decide)) ?_
      exact h
def pI (c : Nat) (s : mG) : Prop := s 15 9 = ((c + 5 : Nat) : Int) ∧ (0 ≤ s c 11 ∧ s c 11 ≤ 8) ∧ s c 12 ≤ 40 ∧ (0 ≤ s 15 5 ∧ s 15 5 ≤ 35)
def g_X7_parse_7 (c : Nat) (G : mG) : Nat → mG → (mG ⊕ mG) := fun j1 s1 => (if 600 < ((j1 : Nat) : Int) then (Sum.inr s1) else (if (s1 15 8) ≤ 0 then (Sum.inr s1) else (if ¬ (f_X7_follow (e_X10_advance s1 ) (f_X10_kind (e_X10_advance s1 ) )) = (-1) then (if (f_X7_follow (e_X10_advance s1 ) (f_X10_kind (e_X10_advance s1 ) )) = 0 then (Sum.inl (gs (e_X7_note c (e_X10_advance s1 ) (f_X10_kind (e_X10_advance s1 ) )) 15 8 (f_X7_follow (e_X10_advance s1 ) (f_X10_kind (e_X10_advance s1 ) )))) else (if ((j1 : Nat) : Int) = 600 then (Sum.inl (e_X7_stop (e_X10_advance s1 ) 2)) else (if (f_X7_lacksRoomFor c (e_X10_advance s1 ) (f_X10_kind (e_X10_advance s1 ) )) = 0 then (Sum.inl (gs (e_X7_note c (e_X10_advance s1 ) (f_X10_kind (e_X10_advance s1 ) )) 15 8 (f_X7_follow (e_X10_advance s1 ) (f_X10_kind (e_X10_advance s1 ) )))) else (Sum.inl (e_X7_stop (e_X10_advance s1 ) 2))))) else (Sum.inl (e_X7_stop (e_X10_advance s1 ) 1)))))
def r_X7_parse (c : Nat) (G : mG) : Int × mG := (if ¬ ((brk (fe (g_X7_parse_7 c G) (e_X7_begin c G ) 601)) 15 8) = 0 then (((brk (fe (g_X7_parse_7 c G) (e_X7_begin c G ) 601)) 15 10), (brk (fe (g_X7_parse_7 c G) (e_X7_begin c G ) 601))) else (((e_X7_settleRivals c (brk (fe (g_X7_parse_7 c G) (e_X7_begin c G ) 601)) ) 15 10), (e_X7_settleRivals c (brk (fe (g_X7_parse_7 c G) (e_X7_begin c G ) 601)) )))
theorem fr_g_X7_parse_7 (c : Nat) (G : mG) {k : Nat} (hk : ∀ a ∈ ([15, 16, 17, 18, 19, 20, c, c + 1, c + 2, c + 3, c + 4, c + 5, c + 6, c + 7, c + 8, c + 9, c + 10, c + 11] : List Nat), k ≠ a) (j : Nat) (s z : mG) (h : g_X7_parse_7 c G j s = Sum.inl z) : z k = s k := by
  unfold g_X7_parse_7 at h
  revert h
  repeat' with_reducible apply ite_s
  all_goals intro h
  all_goals first | (cases h; done) | (injection h with h; subst h; first | (simp only [gs_ne (hk (15) (by simp)), gs_ne (hk (16) (by simp)), gs_ne (hk (17) (by simp)), gs_ne (hk (18) (by simp)), gs_ne (hk (19) (by simp)), gs_ne (hk (20) (by simp)), gs_ne (hk (c) (by simp)), gs_ne (hk (c + 1) (by simp)), gs_ne (hk (c + 2) (by simp)), gs_ne (hk (c + 3) (by simp)), gs_ne (hk (c + 4) (by simp)), gs_ne (hk (c + 5) (by simp)), gs_ne (hk (c + 6) (by simp)), gs_ne (hk (c + 7) (by simp)), gs_ne (hk (c + 8) (by simp)), gs_ne (hk (c + 9) (by simp)), gs_ne (hk (c + 10) (by simp)), gs_ne (hk (c + 11) (by simp)), fr_X10_advance (fun a ha => hk a (by simp only [List.mem_cons, List.not_mem_nil, or_false] at ha ⊢; omega)), fr_X7_begin (c := c) (fun a ha => hk a (by simp only [List.mem_cons, List.not_mem_nil, or_false] at ha ⊢; omega)), fr_X7_note (c := c) (fun a ha => hk a (by simp only [List.mem_cons, List.not_mem_nil, or_false] at ha ⊢; omega)), fr_X7_settleRivals (c := c) (fun a ha => hk a (by simp only [List.mem_cons, List.not_mem_nil, or_false] at ha ⊢; omega)), fr_X7_stop (fun a ha => hk a (by simp only [List.mem_cons, List.not_mem_nil, or_false] at ha ⊢; omega))]; done) | rfl)
theorem fr2_g_X7_parse_7 (c : Nat) (G : mG) {k : Nat} (hk : ∀ a ∈ ([15, 16, 17, 18, 19, 20, c, c + 1, c + 2, c + 3, c + 4, c + 5, c + 6, c + 7, c + 8, c + 9, c + 10, c + 11] : List Nat), k ≠ a) (j : Nat) (s : mG) (z : mG) (h : g_X7_parse_7 c G j s = Sum.inr z) : z k = s k := by
  unfold g_X7_parse_7 at h
  revert h
  repeat' with_reducible apply ite_s
  all_goals intro h
  all_goals first | (cases h; done) | (injection h with h; subst h; first | (simp only [gs_ne (hk (15) (by simp)), gs_ne (hk (16) (by simp)), gs_ne (hk (17) (by simp)), gs_ne (hk (18) (by simp)), gs_ne (hk (19) (by simp)), gs_ne (hk (20) (by simp)), gs_ne (hk (c) (by simp)), gs_ne (hk (c + 1) (by simp)), gs_ne (hk (c + 2) (by simp)), gs_ne (hk (c + 3) (by simp)), gs_ne (hk (c + 4) (by simp)), gs_ne (hk (c + 5) (by simp)), gs_ne (hk (c + 6) (by simp)), gs_ne (hk (c + 7) (by simp)), gs_ne (hk (c + 8) (by simp)), gs_ne (hk (c + 9) (by simp)), gs_ne (hk (c + 10) (by simp)), gs_ne (hk (c + 11) (by simp)), fr_X10_advance (fun a ha => hk a (by simp only [List.mem_cons, List.not_mem_nil, or_false] at ha ⊢; omega)), fr_X7_begin (c := c) (fun a ha => hk a (by simp only [List.mem_cons, List.not_mem_nil, or_false] at ha ⊢; omega)), fr_X7_note (c := c) (fun a ha => hk a (by simp only [List.mem_cons, List.not_mem_nil, or_false] at ha ⊢; omega)), fr_X7_settleRivals (c := c) (fun a ha => hk a (by simp only [List.mem_cons, List.not_mem_nil, or_false] at ha ⊢; omega)), fr_X7_stop (fun a ha => hk a (by simp only [List.mem_cons, List.not_mem_nil, or_false] at ha ⊢; omega))]; done) | rfl)
theorem frp_g_X7_parse_7_15 (c : Nat) (G : mG) (hc : c = 40 ∨ c = 52) {i : Nat} (hj : ∀ a ∈ ([5, 6, 7, 8, 9, 10, 11] : List Nat), i ≠ a) (j : Nat) (s z : mG) (h : g_X7_parse_7 c G j s = Sum.inl z) : z 15 i = s 15 i := by
  unfold g_X7_parse_7 at h
  revert h
  repeat' with_reducible apply ite_s
  all_goals intro h
  all_goals first | (cases h; done) | (injection h with h; subst h; first | (simp only [gs_at_ne (hj 5 (by simp)), gs_at_ne (hj 6 (by simp)), gs_at_ne (hj 7 (by simp)), gs_at_ne (hj 8 (by simp)), gs_at_ne (hj 9 (by simp)), gs_at_ne (hj 10 (by simp)), gs_at_ne (hj 11 (by simp)), gs_ne (show (15) ≠ (16) from by omega), gs_ne (show (15) ≠ (17) from by omega), gs_ne (show (15) ≠ (18) from by omega), gs_ne (show (15) ≠ (19) from by omega), gs_ne (show (15) ≠ (20) from by omega), gs_ne (show (15) ≠ (c) from by omega), gs_ne (show (15) ≠ (c + 1) from by omega), gs_ne (show (15) ≠ (c + 2) from by omega), gs_ne (show (15) ≠ (c + 3) from by omega), gs_ne (show (15) ≠ (c + 4) from by omega), gs_ne (show (15) ≠ (c + 5) from by omega), gs_ne (show (15) ≠ (c + 6) from by omega), gs_ne (show (15) ≠ (c + 7) from by omega), gs_ne (show (15) ≠ (c + 8) from by omega), gs_ne (show (15) ≠ (c + 9) from by omega), gs_ne (show (15) ≠ (c + 10) from by omega), gs_ne (show (15) ≠ (c + 11) from by omega), fr_X10_advance (k := 15) (fun a ha => by simp only [List.mem_cons, List.not_mem_nil, or_false] at ha; omega), frp_X7_begin_15 (c := c) hc (fun a ha => hj a (by simp only [List.mem_cons, List.not_mem_nil, or_false] at ha ⊢; omega)), frp_X7_note_15 (c := c) hc (fun a ha => hj a (by simp only [List.mem_cons, List.not_mem_nil, or_false] at ha ⊢; omega)), frp_X7_settleRivals_15 (c := c) hc (fun a ha => hj a (by simp only [List.mem_cons, List.not_mem_nil, or_false] at ha ⊢; omega)), frp_X7_stop_15 (fun a ha => hj a (by simp only [List.mem_cons, List.not_mem_nil, or_false] at ha ⊢; omega))]; done) | rfl)
theorem frp2_g_X7_parse_7_15 (c : Nat) (G : mG) (hc : c = 40 ∨ c = 52) {i : Nat} (hj : ∀ a ∈ ([5, 6, 7, 8, 9, 10, 11] : List Nat), i ≠ a) (j : Nat) (s : mG) (z : mG) (h : g_X7_parse_7 c G j s = Sum.inr z) : z 15 i = s 15 i := by
  unfold g_X7_parse_7 at h
  revert h
  repeat' with_reducible apply ite_s
  all_goals intro h
  all_goals first | (cases h; done) | (injection h with h; subst h; first | (simp only [gs_at_ne (hj 5 (by simp)), gs_at_ne (hj 6 (by simp)), gs_at_ne (hj 7 (by simp)), gs_at_ne (hj 8 (by simp)), gs_at_ne (hj 9 (by simp)), gs_at_ne (hj 10 (by simp)), gs_at_ne (hj 11 (by simp)), gs_ne (show (15) ≠ (16) from by omega), gs_ne (show (15) ≠ (17) from by omega), gs_ne (show (15) ≠ (18) from by omega), gs_ne (show (15) ≠ (19) from by omega), gs_ne (show (15) ≠ (20) from by omega), gs_ne (show (15) ≠ (c) from by omega), gs_ne (show (15) ≠ (c + 1) from by omega), gs_ne (show (15) ≠ (c + 2) from by omega), gs_ne (show (15) ≠ (c + 3) from by omega), gs_ne (show (15) ≠ (c + 4) from by omega), gs_ne (show (15) ≠ (c + 5) from by omega), gs_ne (show (15) ≠ (c + 6) from by omega), gs_ne (show (15) ≠ (c + 7) from by omega), gs_ne (show (15) ≠ (c + 8) from by omega), gs_ne (show (15) ≠ (c + 9) from by omega), gs_ne (show (15) ≠ (c + 10) from by omega), gs_ne (show (15) ≠ (c + 11) from by omega), fr_X10_advance (k := 15) (fun a ha => by simp only [List.mem_cons, List.not_mem_nil, or_false] at ha; omega), frp_X7_begin_15 (c := c) hc (fun a ha => hj a (by simp only [List.mem_cons, List.not_mem_nil, or_false] at ha ⊢; omega)), frp_X7_note_15 (c := c) hc (fun a ha => hj a (by simp only [List.mem_cons, List.not_mem_nil, or_false] at ha ⊢; omega)), frp_X7_settleRivals_15 (c := c) hc (fun a ha => hj a (by simp only [List.mem_cons, List.not_mem_nil, or_false] at ha ⊢; omega)), frp_X7_stop_15 (fun a ha => hj a (by simp only [List.mem_cons, List.not_mem_nil, or_false] at ha ⊢; omega))]; done) | rfl)
theorem frp_X7_parse_15 {c : Nat} {G : mG} (hc : c = 40 ∨ c = 52) {i : Nat} (hj : ∀ a ∈ ([5, 6, 7, 8, 9, 10, 11] : List Nat), i ≠ a) : (r_X7_parse c G ).2 15 i = G 15 i := by
  unfold r_X7_parse
  repeat' with_reducible first | apply ite_f | apply ite_f2 | apply ite_p | apply ite_p2
  all_goals first | (simp only [gs_at_ne (hj 5 (by simp)), gs_at_ne (hj 6 (by simp)), gs_at_ne (hj 7 (by simp)), gs_at_ne (hj 8 (by simp)), gs_at_ne (hj 9 (by simp)), gs_at_ne (hj 10 (by simp)), gs_at_ne (hj 11 (by simp)), gs_ne (show (15) ≠ (16) from by omega), gs_ne (show (15) ≠ (17) from by omega), gs_ne (show (15) ≠ (18) from by omega), gs_ne (show (15) ≠ (19) from by omega), gs_ne (show (15) ≠ (20) from by omega), gs_ne (show (15) ≠ (c) from by omega), gs_ne (show (15) ≠ (c + 1) from by omega), gs_ne (show (15) ≠ (c + 2) from by omega), gs_ne (show (15) ≠ (c + 3) from by omega), gs_ne (show (15) ≠ (c + 4) from by omega), gs_ne (show (15) ≠ (c + 5) from by omega), gs_ne (show (15) ≠ (c + 6) from by omega), gs_ne (show (15) ≠ (c + 7) from by omega), gs_ne (show (15) ≠ (c + 8) from by omega), gs_ne (show (15) ≠ (c + 9) from by omega), gs_ne (show (15) ≠ (c + 10) from by omega), gs_ne (show (15) ≠ (c + 11) from by omega), fr_X10_advance (k := 15) (fun a ha => by simp only [List.mem_cons, List.not_mem_nil, or_false] at ha; omega), frp_X7_begin_15 (c := c) hc (fun a ha => hj a (by simp only [List.mem_cons, List.not_mem_nil, or_false] at ha ⊢; omega)), frp_X7_note_15 (c := c) hc (fun a ha => hj a (by simp only [List.mem_cons, List.not_mem_nil, or_false] at ha ⊢; omega)), frp_X7_settleRivals_15 (c := c) hc (fun a ha => hj a (by simp only [List.mem_cons, List.not_mem_nil, or_false] at ha ⊢; omega)), frp_X7_stop_15 (fun a ha => hj a (by simp only [List.mem_cons, List.not_mem_nil, or_false] at ha ⊢; omega)), brk_frp (frp_g_X7_parse_7_15 _ _ hc hj) (frp2_g_X7_parse_7_15 _ _ hc hj)]; done) | rfl
theorem frp_g_X7_parse_7_20 (c : Nat) (G : mG) (hc : c = 40 ∨ c = 52) {i : Nat} (hj : ∀ a ∈ ([1, 2, 3, 4, 5] : List Nat), i ≠ a) (j : Nat) (s z : mG) (h : g_X7_parse_7 c G j s = Sum.inl z) : z 20 i = s 20 i := by
  unfold g_X7_parse_7 at h
  revert h
  repeat' with_reducible apply ite_s
  all_goals intro h
  all_goals first | (cases h; done) | (injection h with h; subst h; first | (simp only [gs_at_ne (hj 1 (by simp)), gs_at_ne (hj 2 (by simp)), gs_at_ne (hj 3 (by simp)), gs_at_ne (hj 4 (by simp)), gs_at_ne (hj 5 (by simp)), gs_ne (show (20) ≠ (15) from by omega), gs_ne (show (20) ≠ (16) from by omega), gs_ne (show (20) ≠ (17) from by omega), gs_ne (show (20) ≠ (18) from by omega), gs_ne (show (20) ≠ (19) from by omega), gs_ne (show (20) ≠ (c) from by omega), gs_ne (show (20) ≠ (c + 1) from by omega), gs_ne (show (20) ≠ (c + 2) from by omega), gs_ne (show (20) ≠ (c + 3) from by omega), gs_ne (show (20) ≠ (c + 4) from by omega), gs_ne (show (20) ≠ (c + 5) from by omega), gs_ne (show (20) ≠ (c + 6) from by omega), gs_ne (show (20) ≠ (c + 7) from by omega), gs_ne (show (20) ≠ (c + 8) from by omega), gs_ne (show (20) ≠ (c + 9) from by omega), gs_ne (show (20) ≠ (c + 10) from by omega), gs_ne (show (20) ≠ (c + 11) from by omega), frp_X10_advance_20 (fun a ha => hj a (by simp only [List.mem_cons, List.not_mem_nil, or_false] at ha ⊢; omega)), frp_X7_begin_20 (c := c) hc (fun a ha => hj a (by simp only [List.mem_cons, List.not_mem_nil, or_false] at ha ⊢; omega)), fr_X7_note (c := c) (k := 20) (fun a ha => by simp only [List.mem_cons, List.not_mem_nil, or_false] at ha; omega), fr_X7_settleRivals (c := c) (k := 20) (fun a ha => by simp only [List.mem_cons, List.not_mem_nil, or_false] at ha; omega), fr_X7_stop (k := 20) (fun a ha => by simp only [List.mem_cons, List.not_mem_nil, or_false] at ha; omega)]; done) | rfl)
theorem frp2_g_X7_parse_7_20 (c : Nat) (G : mG) (hc : c = 40 ∨ c = 52) {i : Nat} (hj : ∀ a ∈ ([1, 2, 3, 4, 5] : List Nat), i ≠ a) (j : Nat) (s : mG) (z : mG) (h : g_X7_parse_7 c G j s = Sum.inr z) : z 20 i = s 20 i := by
  unfold g_X7_parse_7 at h
  revert h
  repeat' with_reducible apply ite_s
  all_goals intro h
  all_goals first | (cases h; done) | (injection h with h; subst h; first | (simp only [gs_at_ne (hj 1 (by simp)), gs_at_ne (hj 2 (by simp)), gs_at_ne (hj 3 (by simp)), gs_at_ne (hj 4 (by simp)), gs_at_ne (hj 5 (by simp)), gs_ne (show (20) ≠ (15) from by omega), gs_ne (show (20) ≠ (16) from by omega), gs_ne (show (20) ≠ (17) from by omega), gs_ne (show (20) ≠ (18) from by omega), gs_ne (show (20) ≠ (19) from by omega), gs_ne (show (20) ≠ (c) from by omega), gs_ne (show (20) ≠ (c + 1) from by omega), gs_ne (show (20) ≠ (c + 2) from by omega), gs_ne (show (20) ≠ (c + 3) from by omega), gs_ne (show (20) ≠ (c + 4) from by omega), gs_ne (show (20) ≠ (c + 5) from by omega), gs_ne (show (20) ≠ (c + 6) from by omega), gs_ne (show (20) ≠ (c + 7) from by omega), gs_ne (show (20) ≠ (c + 8) from by omega), gs_ne (show (20) ≠ (c + 9) from by omega), gs_ne (show (20) ≠ (c + 10) from by omega), gs_ne (show (20) ≠ (c + 11) from by omega), frp_X10_advance_20 (fun a ha => hj a (by simp only [List.mem_cons, List.not_mem_nil, or_false] at ha ⊢; omega)), frp_X7_begin_20 (c := c) hc (fun a ha => hj a (by simp only [List.mem_cons, List.not_mem_nil, or_false] at ha ⊢; omega)), fr_X7_note (c := c) (k := 20) (fun a ha => by simp only [List.mem_cons, List.not_mem_nil, or_false] at ha; omega), fr_X7_settleRivals (c := c) (k := 20) (fun a ha => by simp only [List.mem_cons, List.not_mem_nil, or_false] at ha; omega), fr_X7_stop (k := 20) (fun a ha => by simp only [List.mem_cons, List.not_mem_nil, or_false] at ha; omega)]; done) | rfl)
theorem frp_X7_parse_20 {c : Nat} {G : mG} (hc : c = 40 ∨ c = 52) {i : Nat} (hj : ∀ a ∈ ([1, 2, 3, 4, 5] : List Nat), i ≠ a) : (r_X7_parse c G ).2 20 i = G 20 i := by
  unfold r_X7_parse
  repeat' with_reducible first | apply ite_f | apply ite_f2 | apply ite_p | apply ite_p2
  all_goals first | (simp only [gs_at_ne (hj 1 (by simp)), gs_at_ne (hj 2 (by simp)), gs_at_ne (hj 3 (by simp)), gs_at_ne (hj 4 (by simp)), gs_at_ne (hj 5 (by simp)), gs_ne (show (20) ≠ (15) from by omega), gs_ne (show (20) ≠ (16) from by omega), gs_ne (show (20) ≠ (17) from by omega), gs_ne (show (20) ≠ (18) from by omega), gs_ne (show (20) ≠ (19) from by omega), gs_ne (show (20) ≠ (c) from by omega), gs_ne (show (20) ≠ (c + 1) from by omega), gs_ne (show (20) ≠ (c + 2) from by omega), gs_ne (show (20) ≠ (c + 3) from by omega), gs_ne (show (20) ≠ (c + 4) from by omega), gs_ne (show (20) ≠ (c + 5) from by omega), gs_ne (show (20) ≠ (c + 6) from by omega), gs_ne (show (20) ≠ (c + 7) from by omega), gs_ne (show (20) ≠ (c + 8) from by omega), gs_ne (show (20) ≠ (c + 9) from by omega), gs_ne (show (20) ≠ (c + 10) from by omega), gs_ne (show (20) ≠ (c + 11) from by omega), frp_X10_advance_20 (fun a ha => hj a (by simp only [List.mem_cons, List.not_mem_nil, or_false] at ha ⊢; omega)), frp_X7_begin_20 (c := c) hc (fun a ha => hj a (by simp only [List.mem_cons, List.not_mem_nil, or_false] at ha ⊢; omega)), fr_X7_note (c := c) (k := 20) (fun a ha => by simp only [List.mem_cons, List.not_mem_nil, or_false] at ha; omega), fr_X7_settleRivals (c := c) (k := 20) (fun a ha => by simp only [List.mem_cons, List.not_mem_nil, or_false] at ha; omega), fr_X7_stop (k := 20) (fun a ha => by simp only [List.mem_cons, List.not_mem_nil, or_false] at ha; omega), brk_frp (frp_g_X7_parse_7_20 _ _ hc hj) (frp2_g_X7_parse_7_20 _ _ hc hj)]; done) | rfl
theorem frp_g_X7_parse_7_c (c : Nat) (G : mG) (hc : c = 40 ∨ c = 52) {i : Nat} (hj : ∀ a ∈ ([11, 12, 13] : List Nat), i ≠ a) (j : Nat) (s z : mG) (h : g_X7_parse_7 c G j s = Sum.inl z) : z c i = s c i := by
  unfold g_X7_parse_7 at h
  revert h
  repeat' with_reducible apply ite_s
  all_goals intro h
  all_goals first | (cases h; done) | (injection h with h; subst h; first | (simp only [gs_at_ne (hj 11 (by simp)), gs_at_ne (hj 12 (by simp)), gs_at_ne (hj 13 (by simp)), gs_ne (show (c) ≠ (15) from by omega), gs_ne (show (c) ≠ (16) from by omega), gs_ne (show (c) ≠ (17) from by omega), gs_ne (show (c) ≠ (18) from by omega), gs_ne (show (c) ≠ (19) from by omega), gs_ne (show (c) ≠ (20) from by omega), gs_ne (show (c) ≠ (c + 1) from by omega), gs_ne (show (c) ≠ (c + 2) from by omega), gs_ne (show (c) ≠ (c + 3) from by omega), gs_ne (show (c) ≠ (c + 4) from by omega), gs_ne (show (c) ≠ (c + 5) from by omega), gs_ne (show (c) ≠ (c + 6) from by omega), gs_ne (show (c) ≠ (c + 7) from by omega), gs_ne (show (c) ≠ (c + 8) from by omega), gs_ne (show (c) ≠ (c + 9) from by omega), gs_ne (show (c) ≠ (c + 10) from by omega), gs_ne (show (c) ≠ (c + 11) from by omega), fr_X10_advance (k := c) (fun a ha => by simp only [List.mem_cons, List.not_mem_nil, or_false] at ha; omega), frp_X7_begin_c (c := c) hc (fun a ha => hj a (by simp only [List.mem_cons, List.not_mem_nil, or_false] at ha ⊢; omega)), frp_X7_note_c (c := c) hc (fun a ha => hj a (by simp only [List.mem_cons, List.not_mem_nil, or_false] at ha ⊢; omega)), fr_X7_settleRivals (c := c) (k := c) (fun a ha => by simp only [List.mem_cons, List.not_mem_nil, or_false] at ha; omega), fr_X7_stop (k := c) (fun a ha => by simp only [List.mem_cons, List.not_mem_nil, or_false] at ha; omega)]; done) | rfl)
theorem frp2_g_X7_parse_7_c (c : Nat) (G : mG) (hc : c = 40 ∨ c = 52) {i : Nat} (hj : ∀ a ∈ ([11, 12, 13] : List Nat), i ≠ a) (j : Nat) (s : mG) (z : mG) (h : g_X7_parse_7 c G j s = Sum.inr z) : z c i = s c i := by
  unfold g_X7_parse_7 at h
  revert h
  repeat' with_reducible apply ite_s
  all_goals intro h
  all_goals first | (cases h; done) | (injection h with h; subst h; first | (simp only [gs_at_ne (hj 11 (by simp)), gs_at_ne (hj 12 (by simp)), gs_at_ne (hj 13 (by simp)), gs_ne (show (c) ≠ (15) from by omega), gs_ne (show (c) ≠ (16) from by omega), gs_ne (show (c) ≠ (17) from by omega), gs_ne (show (c) ≠ (18) from by omega), gs_ne (show (c) ≠ (19) from by omega), gs_ne (show (c) ≠ (20) from by omega), gs_ne (show (c) ≠ (c + 1) from by omega), gs_ne (show (c) ≠ (c + 2) from by omega), gs_ne (show (c) ≠ (c + 3) from by omega), gs_ne (show (c) ≠ (c + 4) from by omega), gs_ne (show (c) ≠ (c + 5) from by omega), gs_ne (show (c) ≠ (c + 6) from by omega), gs_ne (show (c) ≠ (c + 7) from by omega), gs_ne (show (c) ≠ (c + 8) from by omega), gs_ne (show (c) ≠ (c + 9) from by omega), gs_ne (show (c) ≠ (c + 10) from by omega), gs_ne (show (c) ≠ (c + 11) from by omega), fr_X10_advance (k := c) (fun a ha => by simp only [List.mem_cons, List.not_mem_nil, or_false] at ha; omega), frp_X7_begin_c (c := c) hc (fun a ha => hj a (by simp only [List.mem_cons, List.not_mem_nil, or_false] at ha ⊢; omega)), frp_X7_note_c (c := c) hc (fun a ha => hj a (by simp only [List.mem_cons, List.not_mem_nil, or_false] at ha ⊢; omega)), fr_X7_settleRivals (c := c) (k := c) (fun a ha => by simp only [List.mem_cons, List.not_mem_nil, or_false] at ha; omega), fr_X7_stop (k := c) (fun a ha => by simp only [List.mem_cons, List.not_mem_nil, or_false] at ha; omega)]; done) | rfl)
theorem frp_X7_parse_c {c : Nat} {G : mG} (hc : c = 40 ∨ c = 52) {i : Nat} (hj : ∀ a ∈ ([11, 12, 13] : List Nat), i ≠ a) : (r_X7_parse c G ).2 c i = G c i := by
  unfold r_X7_parse
  repeat' with_reducible first | apply ite_f | apply ite_f2 | apply ite_p | apply ite_p2
  all_goals first | (simp only [gs_at_ne (hj 11 (by simp)), gs_at_ne (hj 12 (by simp)), gs_at_ne (hj 13 (by simp)), gs_ne (show (c) ≠ (15) from by omega), gs_ne (show (c) ≠ (16) from by omega), gs_ne (show (c) ≠ (17) from by omega), gs_ne (show (c) ≠ (18) from by omega), gs_ne (show (c) ≠ (19) from by omega), gs_ne (show (c) ≠ (20) from by omega), gs_ne (show (c) ≠ (c + 1) from by omega), gs_ne (show (c) ≠ (c + 2) from by omega), gs_ne (show (c) ≠ (c + 3) from by omega), gs_ne (show (c) ≠ (c + 4) from by omega), gs_ne (show (c) ≠ (c + 5) from by omega), gs_ne (show (c) ≠ (c + 6) from by omega), gs_ne (show (c) ≠ (c + 7) from by omega), gs_ne (show (c) ≠ (c + 8) from by omega), gs_ne (show (c) ≠ (c + 9) from by omega), gs_ne (show (c) ≠ (c + 10) from by omega), gs_ne (show (c) ≠ (c + 11) from by omega), fr_X10_advance (k := c) (fun a ha => by simp only [List.mem_cons, List.not_mem_nil, or_false] at ha; omega), frp_X7_begin_c (c := c) hc (fun a ha => hj a (by simp only [List.mem_cons, List.not_mem_nil, or_false] at ha ⊢; omega)), frp_X7_note_c (c := c) hc (fun a ha => hj a (by simp only [List.mem_cons, List.not_mem_nil, or_false] at ha ⊢; omega)), fr_X7_settleRivals (c := c) (k := c) (fun a ha => by simp only [List.mem_cons, List.not_mem_nil, or_false] at ha; omega), fr_X7_stop (k := c) (fun a ha => by simp only [List.mem_cons, List.not_mem_nil, or_false] at ha; omega), brk_frp (frp_g_X7_parse_7_c _ _ hc hj) (frp2_g_X7_parse_7_c _ _ hc hj)]; done) | rfl
theorem fr_X7_parse {c : Nat} {G : mG} {k : Nat} (hk : ∀ a ∈ ([15, 16, 17, 18, 19, 20, c, c + 1, c + 2, c + 3, c + 4, c + 5, c + 6, c + 7, c + 8, c + 9, c + 10, c + 11] : List Nat), k ≠ a) : (r_X7_parse c G ).2 k = G k := by
  unfold r_X7_parse
  repeat' with_reducible first | apply ite_f | apply ite_f2 | apply ite_p | apply ite_p2
  all_goals first | (simp only [gs_ne (hk (15) (by simp)), gs_ne (hk (16) (by simp)), gs_ne (hk (17) (by simp)), gs_ne (hk (18) (by simp)), gs_ne (hk (19) (by simp)), gs_ne (hk (20) (by simp)), gs_ne (hk (c) (by simp)), gs_ne (hk (c + 1) (by simp)), gs_ne (hk (c + 2) (by simp)), gs_ne (hk (c + 3) (by simp)), gs_ne (hk (c + 4) (by simp)), gs_ne (hk (c + 5) (by simp)), gs_ne (hk (c + 6) (by simp)), gs_ne (hk (c + 7) (by simp)), gs_ne (hk (c + 8) (by simp)), gs_ne (hk (c + 9) (by simp)), gs_ne (hk (c + 10) (by simp)), gs_ne (hk (c + 11) (by simp)), fr_X10_advance (fun a ha => hk a (by simp only [List.mem_cons, List.not_mem_nil, or_false] at ha ⊢; omega)), fr_X7_begin (c := c) (fun a ha => hk a (by simp only [List.mem_cons, List.not_mem_nil, or_false] at ha ⊢; omega)), fr_X7_note (c := c) (fun a ha => hk a (by simp only [List.mem_cons, List.not_mem_nil, or_false] at ha ⊢; omega)), fr_X7_settleRivals (c := c) (fun a ha => hk a (by simp only [List.mem_cons, List.not_mem_nil, or_false] at ha ⊢; omega)), fr_X7_stop (fun a ha => hk a (by simp only [List.mem_cons, List.not_mem_nil, or_false] at ha ⊢; omega)), brk_fr (fr_g_X7_parse_7 _ _ hk) (fr2_g_X7_parse_7 _ _ hk)]; done) | rfl
theorem sp_X7_parse {D : Nat → Bool} {d : Nat} {c : Nat} {G : mG} {Q : Option mV → mG → Prop} (hc : c = 40 ∨ c = 52) (hI : pI c (e_X7_begin c G ) ∧ ∀ j s z, j < 601 → pI c s → g_X7_parse_7 c G j s = Sum.inl z → pI c z) (hE : pI c (brk (fe (g_X7_parse_7 c G ) (e_X7_begin c G ) 601))) (hD : ∀ k, D k = false → inN [15, 16, 17, 18, 19, 20, c, c + 1, c + 2, c + 3, c + 4, c + 5, c + 6, c + 7, c + 8, c + 9, c + 10, c + 11] k = false) (h : Q (some (mI (r_X7_parse c G ).1)) (r_X7_parse c G ).2) : P2 D (d + 9) M_X7_parse [mR 20, mR (c + 5)] G Q := by
  rcases hc with rfl | rfl
  · skip
    unfold r_X7_parse at h
    try simp only [Nat.reduceAdd, Nat.reduceSub] at h
    refine MP.to (D2 := inN [15, 16, 17, 18, 19, 20, 40, 41, 42, 43, 44, 45, 46, 47, 48, 49, 50, 51]) (Q2 := Q) ?_ hD (fun v G' q _ => q)
    refine (show P2 (inN [15, 16, 17, 18, 19, 20, 40, 41, 42, 43, 44, 45, 46, 47, 48, 49, 50, 51]) (d + 9) M_X7_parse [mR 20, mR 45] G Q from ?_)
    refine p2_vc [7, 96, 102] 400 oo_X7 q_X7_parse (by decide) rfl (Nat.le_of_ble_eq_true rfl) ?_
    refine sp_X7_begin (by decide) (insub (by decide)) ?_
    refine (show W2 o_X7 M_X7_parse (inN [15, 16, 17, 18, 19, 20, 40, 41, 42, 43, 44, 45, 46, 47, 48, 49, 50, 51]) (d + 9) Q 7 [some (mR 20), some (mR 45), some (mI ((0 : Nat) : Int)), none, none] [] (e_X7_begin 40 G ) from ?_)
    refine lupB (g_X7_parse_7 40 G) (e_X7_begin 40 G ) (fun j1 s1 => W2 o_X7 M_X7_parse (inN [15, 16, 17, 18, 19, 20, 40, 41, 42, 43, 44, 45, 46, 47, 48, 49, 50, 51]) (d + 9) Q 7 [some (mR 20), some (mR 45), some (mI ((j1 : Nat) : Int)), none, none] [] s1) (fun s1 => W2 o_X7 M_X7_parse (inN [15, 16, 17, 18, 19, 20, 40, 41, 42, 43, 44, 45, 46, 47, 48, 49, 50, 51]) (d + 9) Q 102 [some (mR 20), some (mR 45), none, none, none] [] s1) (fun (_ : Nat) s => pI 40 s) 601 hI (fun j1 s1 hj1 hI1 ih1 => ?_) (fun s1 hI1 ih1 => ?_) ?_
    · have ih1 : sk (fun z => W2 o_X7 M_X7_parse (inN [15, 16, 17, 18, 19, 20, 40, 41, 42, 43, 44, 45, 46, 47, 48, 49, 50, 51]) (d + 9) Q 7 [some (mR 20), some (mR 45), some (mI ((j1 + 1 : Nat) : Int)), none, none] [] z) (fun r => W2 o_X7 M_X7_parse (inN [15, 16, 17, 18, 19, 20, 40, 41, 42, 43, 44, 45, 46, 47, 48, 49, 50, 51]) (d + 9) Q 102 [some (mR 20), some (mR 45), none, none, none] [] r) (g_X7_parse_7 40 G j1 s1) := ih1
      unfold g_X7_parse_7 at ih1
      try simp only [Nat.reduceAdd, Nat.reduceSub] at ih1
      obtain ⟨hp, h11, h12, hw⟩ := hI1
      have hp : s1 15 9 = 45 := hp
      refine w2_vc [7, 96, 102] 400 oo_X7 q_X7_parse ?_
      refine ⟨fun (c2 : 600 < ((j1 : Nat) : Int)) => ?_, fun (c2 : ((j1 : Nat) : Int) ≤ 600) => ?_⟩
      · rw [if_pos c2] at ih1
        refine (show W2 o_X7 M_X7_parse (inN [15, 16, 17, 18, 19, 20, 40, 41, 42, 43, 44, 45, 46, 47, 48, 49, 50, 51]) (d + 9) Q 102 [some (mR 20), some (mR 45), some (mI ((j1 : Nat) : Int)), none, none] [] s1 from ?_)
        refine WP.fg (L' := [some (mR 20), some (mR 45), none, none, none]) ⟨rfl, rfl, trivial⟩ ?_
        exact ih1
      · rw [if_neg (Int.not_lt.mpr c2)] at ih1
        refine ⟨fun (c3 : (s1 15 8) ≤ 0) => ?_, fun (c3 : 0 < (s1 15 8)) => ?_⟩
        · rw [if_pos c3] at ih1
          refine (show W2 o_X7 M_X7_parse (inN [15, 16, 17, 18, 19, 20, 40, 41, 42, 43, 44, 45, 46, 47, 48, 49, 50, 51]) (d + 9) Q 102 [some (mR 20), some (mR 45), some (mI ((j1 : Nat) : Int)), none, none] [] s1 from ?_)
          refine WP.fg (L' := [some (mR 20), some (mR 45), none, none, none]) ⟨rfl, rfl, trivial⟩ ?_
          exact ih1
        · rw [if_neg (Int.not_le.mpr c3)] at ih1
          refine sp_X10_advance  (insub (by decide)) ?_
          refine sp_X10_kind  ?_
          refine sp_X7_follow  ?_
          refine ⟨fun (c7 : ¬ (f_X7_follow (e_X10_advance s1 ) (f_X10_kind (e_X10_advance s1 ) )) = (-1)) => ?_, fun (c7 : (f_X7_follow (e_X10_advance s1 ) (f_X10_kind (e_X10_advance s1 ) )) = (-1)) => ?_⟩
          · rw [if_pos c7] at ih1
            refine ⟨fun (c8 : (f_X7_follow (e_X10_advance s1 ) (f_X10_kind (e_X10_advance s1 ) )) = 0) => ?_, fun (c8 : ¬ (f_X7_follow (e_X10_advance s1 ) (f_X10_kind (e_X10_advance s1 ) )) = 0) => ?_⟩
            · rw [if_pos c8] at ih1
              refine sp_X7_note (by decide) (show ((e_X10_advance s1 ) 15 9) = 45 from by (try simp (disch := decide) only [gs_ne, gs_at_ne, fr_X10_advance, frp_X10_advance_20, fr_X7_begin, frp_X7_begin_15, frp_X7_begin_20, frp_X7_begin_c]); exact hp) (by (try simp (disch := decide) only [gs_ne, gs_at_ne, fr_X10_advance, frp_X10_advance_20, fr_X7_begin, frp_X7_begin_15, frp_X7_begin_20, frp_X7_begin_c]); exact h11) (by (try simp (disch := decide) only [gs_ne, gs_at_ne, fr_X10_advance, frp_X10_advance_20, fr_X7_begin, frp_X7_begin_15, frp_X7_begin_20, frp_X7_begin_c]); exact h12) (by (try simp (disch := decide) only [gs_ne, gs_at_ne, fr_X10_advance, frp_X10_advance_20, fr_X7_begin, frp_X7_begin_15, frp_X7_begin_20, frp_X7_begin_c]); exact hw) (insub (by decide)) ?_
              refine (show W2 o_X7 M_X7_parse (inN [15, 16, 17, 18, 19, 20, 40, 41, 42, 43, 44, 45, 46, 47, 48, 49, 50, 51]) (d + 9) Q 96 [some (mR 20), some (mR 45), some (mI ((j1 : Nat) : Int)), some (mI (f_X10_kind (e_X10_advance s1 ) )), some (mI (f_X7_follow (e_X10_advance s1 ) (f_X10_kind (e_X10_advance s1 ) )))] [] (gs (e_X7_note 40 (e_X10_advance s1 ) (f_X10_kind (e_X10_advance s1 ) )) 15 8 (f_X7_follow (e_X10_advance s1 ) (f_X10_kind (e_X10_advance s1 ) ))) from ?_)
              refine w2_vc [7, 96, 102] 400 oo_X7 q_X7_parse ?_
              refine (show W2 o_X7 M_X7_parse (inN [15, 16, 17, 18, 19, 20, 40, 41, 42, 43, 44, 45, 46, 47, 48, 49, 50, 51]) (d + 9) Q 7 [some (mR 20), some (mR 45), some (mI (w32 (((j1 : Nat) : Int) + 1))), some (mI (f_X10_kind (e_X10_advance s1 ) )), some (mI (f_X7_follow (e_X10_advance s1 ) (f_X10_kind (e_X10_advance s1 ) )))] [] (gs (e_X7_note 40 (e_X10_advance s1 ) (f_X10_kind (e_X10_advance s1 ) )) 15 8 (f_X7_follow (e_X10_advance s1 ) (f_X10_kind (e_X10_advance s1 ) ))) from ?_)
              refine WP.fg (L' := [some (mR 20), some (mR 45), some (mI (w32 (((j1 : Nat) : Int) + 1))), none, none]) ⟨rfl, rfl, rfl, trivial⟩ ?_
              rw [w32_nat (by omega)]
              exact ih1
            · rw [if_neg (c8)] at ih1
              refine ⟨fun (c10 : ((j1 : Nat) : Int) = 600) => ?_, fun (c10 : ¬ ((j1 : Nat) : Int) = 600) => ?_⟩
              · rw [if_pos c10] at ih1
                refine sp_X7_stop  (insub (by decide)) ?_
                refine (show W2 o_X7 M_X7_parse (inN [15, 16, 17, 18, 19, 20, 40, 41, 42, 43, 44, 45, 46, 47, 48, 49, 50, 51]) (d + 9) Q 96 [some (mR 20), some (mR 45), some (mI ((j1 : Nat) : Int)), some (mI (f_X10_kind (e_X10_advance s1 ) )), some (mI (f_X7_follow (e_X10_advance s1 ) (f_X10_kind (e_X10_advance s1 ) )))] [] (e_X7_stop (e_X10_advance s1 ) 2) from ?_)
                refine w2_vc [7, 96, 102] 400 oo_X7 q_X7_parse ?_
                refine (show W2 o_X7 M_X7_parse (inN [15, 16, 17, 18, 19, 20, 40, 41, 42, 43, 44, 45, 46, 47, 48, 49, 50, 51]) (d + 9) Q 7 [some (mR 20), some (mR 45), some (mI (w32 (((j1 : Nat) : Int) + 1))), some (mI (f_X10_kind (e_X10_advance s1 ) )), some (mI (f_X7_follow (e_X10_advance s1 ) (f_X10_kind (e_X10_advance s1 ) )))] [] (e_X7_stop (e_X10_advance s1 ) 2) from ?_)
                refine WP.fg (L' := [some (mR 20), some (mR 45), some (mI (w32 (((j1 : Nat) : Int) + 1))), none, none]) ⟨rfl, rfl, rfl, trivial⟩ ?_
                rw [w32_nat (by omega)]
                exact ih1
              · rw [if_neg (c10)] at ih1
                refine sp_X7_lacksRoomFor (by decide) (show ((e_X10_advance s1 ) 15 9) = 45 from by (try simp (disch := decide) only [gs_ne, gs_at_ne, fr_X10_advance, frp_X10_advance_20, fr_X7_begin, frp_X7_begin_15, frp_X7_begin_20, frp_X7_begin_c, fr_X7_note, frp_X7_note_15, frp_X7_note_c, fr_X7_stop, frp_X7_stop_15]); exact hp) ?_
                have c13 := fa_X7_lacksRoomFor 40 (e_X10_advance s1 ) (f_X10_kind (e_X10_advance s1 ) )
                refine ⟨fun (c14 : (f_X7_lacksRoomFor 40 (e_X10_advance s1 ) (f_X10_kind (e_X10_advance s1 ) )) = 0) => ?_, fun (c14 : ¬ (f_X7_lacksRoomFor 40 (e_X10_advance s1 ) (f_X10_kind (e_X10_advance s1 ) )) = 0) => ?_⟩
                · rw [if_pos c14] at ih1
                  refine sp_X7_note (by decide) (show ((e_X10_advance s1 ) 15 9) = 45 from by (try simp (disch := decide) only [gs_ne, gs_at_ne, fr_X10_advance, frp_X10_advance_20, fr_X7_begin, frp_X7_begin_15, frp_X7_begin_20, frp_X7_begin_c, fr_X7_note, frp_X7_note_15, frp_X7_note_c, fr_X7_stop, frp_X7_stop_15]); exact hp) (by (try simp (disch := decide) only [gs_ne, gs_at_ne, fr_X10_advance, frp_X10_advance_20, fr_X7_begin, frp_X7_begin_15, frp_X7_begin_20, frp_X7_begin_c, fr_X7_note, frp_X7_note_15, frp_X7_note_c, fr_X7_stop, frp_X7_stop_15]); exact h11) (by (try simp (disch := decide) only [gs_ne, gs_at_ne, fr_X10_advance, frp_X10_advance_20, fr_X7_begin, frp_X7_begin_15, frp_X7_begin_20, frp_X7_begin_c, fr_X7_note, frp_X7_note_15, frp_X7_note_c, fr_X7_stop, frp_X7_stop_15]); exact h12) (by (try simp (disch := decide) only [gs_ne, gs_at_ne, fr_X10_advance, frp_X10_advance_20, fr_X7_begin, frp_X7_begin_15, frp_X7_begin_20, frp_X7_begin_c, fr_X7_note, frp_X7_note_15, frp_X7_note_c, fr_X7_stop, frp_X7_stop_15]); exact hw) (insub (by decide)) ?_
                  refine (show W2 o_X7 M_X7_parse (inN [15, 16, 17, 18, 19, 20, 40, 41, 42, 43, 44, 45, 46, 47, 48, 49, 50, 51]) (d + 9) Q 96 [some (mR 20), some (mR 45), some (mI ((j1 : Nat) : Int)), some (mI (f_X10_kind (e_X10_advance s1 ) )), some (mI (f_X7_follow (e_X10_advance s1 ) (f_X10_kind (e_X10_advance s1 ) )))] [] (gs (e_X7_note 40 (e_X10_advance s1 ) (f_X10_kind (e_X10_advance s1 ) )) 15 8 (f_X7_follow (e_X10_advance s1 ) (f_X10_kind (e_X10_advance s1 ) ))) from ?_)
                  refine w2_vc [7, 96, 102] 400 oo_X7 q_X7_parse ?_
                  refine (show W2 o_X7 M_X7_parse (inN [15, 16, 17, 18, 19, 20, 40, 41, 42, 43, 44, 45, 46, 47, 48, 49, 50, 51]) (d + 9) Q 7 [some (mR 20), some (mR 45), some (mI (w32 (((j1 : Nat) : Int) + 1))), some (mI (f_X10_kind (e_X10_advance s1 ) )), some (mI (f_X7_follow (e_X10_advance s1 ) (f_X10_kind (e_X10_advance s1 ) )))] [] (gs (e_X7_note 40 (e_X10_advance s1 ) (f_X10_kind (e_X10_advance s1 ) )) 15 8 (f_X7_follow (e_X10_advance s1 ) (f_X10_kind (e_X10_advance s1 ) ))) from ?_)
                  refine WP.fg (L' := [some (mR 20), some (mR 45), some (mI (w32 (((j1 : Nat) : Int) + 1))), none, none]) ⟨rfl, rfl, rfl, trivial⟩ ?_
                  rw [w32_nat (by omega)]
                  exact ih1
                · rw [if_neg (c14)] at ih1
                  refine sp_X7_stop  (insub (by decide)) ?_
                  refine (show W2 o_X7 M_X7_parse (inN [15, 16, 17, 18, 19, 20, 40, 41, 42, 43, 44, 45, 46, 47, 48, 49, 50, 51]) (d + 9) Q 96 [some (mR 20), some (mR 45), some (mI ((j1 : Nat) : Int)), some (mI (f_X10_kind (e_X10_advance s1 ) )), some (mI (f_X7_follow (e_X10_advance s1 ) (f_X10_kind (e_X10_advance s1 ) )))] [] (e_X7_stop (e_X10_advance s1 ) 2) from ?_)
                  refine w2_vc [7, 96, 102] 400 oo_X7 q_X7_parse ?_
                  refine (show W2 o_X7 M_X7_parse (inN [15, 16, 17, 18, 19, 20, 40, 41, 42, 43, 44, 45, 46, 47, 48, 49, 50, 51]) (d + 9) Q 7 [some (mR 20), some (mR 45), some (mI (w32 (((j1 : Nat) : Int) + 1))), some (mI (f_X10_kind (e_X10_advance s1 ) )), some (mI (f_X7_follow (e_X10_advance s1 ) (f_X10_kind (e_X10_advance s1 ) )))] [] (e_X7_stop (e_X10_advance s1 ) 2) from ?_)
                  refine WP.fg (L' := [some (mR 20), some (mR 45), some (mI (w32 (((j1 : Nat) : Int) + 1))), none, none]) ⟨rfl, rfl, rfl, trivial⟩ ?_
                  rw [w32_nat (by omega)]
                  exact ih1
          · rw [if_neg (fun q => q c7)] at ih1
            refine sp_X7_stop  (insub (by decide)) ?_
            refine (show W2 o_X7 M_X7_parse (inN [15, 16, 17, 18, 19, 20, 40, 41, 42, 43, 44, 45, 46, 47, 48, 49, 50, 51]) (d + 9) Q 96 [some (mR 20), some (mR 45), some (mI ((j1 : Nat) : Int)), some (mI (f_X10_kind (e_X10_advance s1 ) )), some (mI (f_X7_follow (e_X10_advance s1 ) (f_X10_kind (e_X10_advance s1 ) )))] [] (e_X7_stop (e_X10_advance s1 ) 1) from ?_)
            refine w2_vc [7, 96, 102] 400 oo_X7 q_X7_parse ?_
            refine (show W2 o_X7 M_X7_parse (inN [15, 16, 17, 18, 19, 20, 40, 41, 42, 43, 44, 45, 46, 47, 48, 49, 50, 51]) (d + 9) Q 7 [some (mR 20), some (mR 45), some (mI (w32 (((j1 : Nat) : Int) + 1))), some (mI (f_X10_kind (e_X10_advance s1 ) )), some (mI (f_X7_follow (e_X10_advance s1 ) (f_X10_kind (e_X10_advance s1 ) )))] [] (e_X7_stop (e_X10_advance s1 ) 1) from ?_)
            refine WP.fg (L' := [some (mR 20), some (mR 45), some (mI (w32 (((j1 : Nat) : Int) + 1))), none, none]) ⟨rfl, rfl, rfl, trivial⟩ ?_
            rw [w32_nat (by omega)]
            exact ih1
    · skip
      have ih1 : W2 o_X7 M_X7_parse (inN [15, 16, 17, 18, 19, 20, 40, 41, 42, 43, 44, 45, 46, 47, 48, 49, 50, 51]) (d + 9) Q 102 [some (mR 20), some (mR 45), none, none, none] [] s1 := ih1
      refine (show W2 o_X7 M_X7_parse (inN [15, 16, 17, 18, 19, 20, 40, 41, 42, 43, 44, 45, 46, 47, 48, 49, 50, 51]) (d + 9) Q 7 [some (mR 20), some (mR 45), some (mI ((601 : Nat) : Int)), none, none] [] s1 from ?_)
      obtain ⟨hp, h11, h12, hw⟩ := hI1
      have hp : s1 15 9 = 45 := hp
      refine w2_vc [7, 96, 102] 400 oo_X7 q_X7_parse ?_
      refine ⟨fun (c18 : 600 < ((601 : Nat) : Int)) => ?_, fun (c18 : ((601 : Nat) : Int) ≤ 600) => ?_⟩
      · skip
        refine (show W2 o_X7 M_X7_parse (inN [15, 16, 17, 18, 19, 20, 40, 41, 42, 43, 44, 45, 46, 47, 48, 49, 50, 51]) (d + 9) Q 102 [some (mR 20), some (mR 45), some (mI ((601 : Nat) : Int)), none, none] [] s1 from ?_)
        refine WP.fg (L' := [some (mR 20), some (mR 45), none, none, none]) ⟨rfl, rfl, trivial⟩ ?_
        exact ih1
      · skip
        refine ⟨fun (c19 : (s1 15 8) ≤ 0) => ?_, fun (c19 : 0 < (s1 15 8)) => ?_⟩
        · skip
          refine (show W2 o_X7 M_X7_parse (inN [15, 16, 17, 18, 19, 20, 40, 41, 42, 43, 44, 45, 46, 47, 48, 49, 50, 51]) (d + 9) Q 102 [some (mR 20), some (mR 45), some (mI ((601 : Nat) : Int)), none, none] [] s1 from ?_)
          refine WP.fg (L' := [some (mR 20), some (mR 45), none, none, none]) ⟨rfl, rfl, trivial⟩ ?_
          exact ih1
        · skip
          exfalso; first | omega | (rw [w32_i (by omega) (by omega)] at c19; omega) | (simp (disch := omega) only [w32_i] at *; omega)
    · skip
      refine (show W2 o_X7 M_X7_parse (inN [15, 16, 17, 18, 19, 20, 40, 41, 42, 43, 44, 45, 46, 47, 48, 49, 50, 51]) (d + 9) Q 102 [some (mR 20), some (mR 45), none, none, none] [] (brk (fe (g_X7_parse_7 40 G) (e_X7_begin 40 G ) 601)) from ?_)
      generalize (brk (fe (g_X7_parse_7 40 G) (e_X7_begin 40 G ) 601)) = H1 at h hE ⊢
      obtain ⟨hp, h11, h12, hw⟩ := hE
      have hp : H1 15 9 = 45 := hp
      refine w2_vc [7, 96, 102] 400 oo_X7 q_X7_parse ?_
      refine ⟨fun (c20 : ¬ (H1 15 8) = 0) => ?_, fun (c20 : (H1 15 8) = 0) => ?_⟩
      · rw [if_pos c20] at h
        exact h
      · rw [if_neg (fun q => q c20)] at h
        refine sp_X7_settleRivals (by decide) (show (H1 15 9) = 45 from by (try simp (disch := decide) only [gs_ne, gs_at_ne, fr_X10_advance, frp_X10_advance_20, fr_X7_begin, frp_X7_begin_15, frp_X7_begin_20, frp_X7_begin_c, fr_X7_note, frp_X7_note_15, frp_X7_note_c, fr_X7_stop, frp_X7_stop_15]); exact hp) (by (try simp (disch := decide) only [gs_ne, gs_at_ne, fr_X10_advance, frp_X10_advance_20, fr_X7_begin, frp_X7_begin_15, frp_X7_begin_20, frp_X7_begin_c, fr_X7_note, frp_X7_note_15, frp_X7_note_c, fr_X7_stop, frp_X7_stop_15]); exact h11) (by (try simp (disch := decide) only [gs_ne, gs_at_ne, fr_X10_advance, frp_X10_advance_20, fr_X7_begin, frp_X7_begin_15, frp_X7_begin_20, frp_X7_begin_c, fr_X7_note, frp_X7_note_15, frp_X7_note_c, fr_X7_stop, frp_X7_stop_15]); exact h12) (insub (by decide)) ?_
        exact h
  · skip
    unfold r_X7_parse at h
    try simp only [Nat.reduceAdd, Nat.reduceSub] at h
    refine MP.to (D2 := inN [15, 16, 17, 18, 19, 20, 52, 53, 54, 55, 56, 57, 58, 59, 60, 61, 62, 63]) (Q2 := Q) ?_ hD (fun v G' q _ => q)
    refine (show P2 (inN [15, 16, 17, 18, 19, 20, 52, 53, 54, 55, 56, 57, 58, 59, 60, 61, 62, 63]) (d + 9) M_X7_parse [mR 20, mR 57] G Q from ?_)
    refine p2_vc [7, 96, 102] 400 oo_X7 q_X7_parse (by decide) rfl (Nat.le_of_ble_eq_true rfl) ?_
    refine sp_X7_begin (by decide) (insub (by decide)) ?_
    refine (show W2 o_X7 M_X7_parse (inN [15, 16, 17, 18, 19, 20, 52, 53, 54, 55, 56, 57, 58, 59, 60, 61, 62, 63]) (d + 9) Q 7 [some (mR 20), some (mR 57), some (mI ((0 : Nat) : Int)), none, none] [] (e_X7_begin 52 G ) from ?_)
    refine lupB (g_X7_parse_7 52 G) (e_X7_begin 52 G ) (fun j1 s1 => W2 o_X7 M_X7_parse (inN [15, 16, 17, 18, 19, 20, 52, 53, 54, 55, 56, 57, 58, 59, 60, 61, 62, 63]) (d + 9) Q 7 [some (mR 20), some (mR 57), some (mI ((j1 : Nat) : Int)), none, none] [] s1) (fun s1 => W2 o_X7 M_X7_parse (inN [15, 16, 17, 18, 19, 20, 52, 53, 54, 55, 56, 57, 58, 59, 60, 61, 62, 63]) (d + 9) Q 102 [some (mR 20), some (mR 57), none, none, none] [] s1) (fun (_ : Nat) s => pI 52 s) 601 hI (fun j1 s1 hj1 hI1 ih1 => ?_) (fun s1 hI1 ih1 => ?_) ?_
    · have ih1 : sk (fun z => W2 o_X7 M_X7_parse (inN [15, 16, 17, 18, 19, 20, 52, 53, 54, 55, 56, 57, 58, 59, 60, 61, 62, 63]) (d + 9) Q 7 [some (mR 20), some (mR 57), some (mI ((j1 + 1 : Nat) : Int)), none, none] [] z) (fun r => W2 o_X7 M_X7_parse (inN [15, 16, 17, 18, 19, 20, 52, 53, 54, 55, 56, 57, 58, 59, 60, 61, 62, 63]) (d + 9) Q 102 [some (mR 20), some (mR 57), none, none, none] [] r) (g_X7_parse_7 52 G j1 s1) := ih1
      unfold g_X7_parse_7 at ih1
      try simp only [Nat.reduceAdd, Nat.reduceSub] at ih1
      obtain ⟨hp, h11, h12, hw⟩ := hI1
      have hp : s1 15 9 = 57 := hp
      refine w2_vc [7, 96, 102] 400 oo_X7 q_X7_parse ?_
      refine ⟨fun (c2 : 600 < ((j1 : Nat) : Int)) => ?_, fun (c2 : ((j1 : Nat) : Int) ≤ 600) => ?_⟩
      · rw [if_pos c2] at ih1
        refine (show W2 o_X7 M_X7_parse (inN [15, 16, 17, 18, 19, 20, 52, 53, 54, 55, 56, 57, 58, 59, 60, 61, 62, 63]) (d + 9) Q 102 [some (mR 20), some (mR 57), some (mI ((j1 : Nat) : Int)), none, none] [] s1 from ?_)
        refine WP.fg (L' := [some (mR 20), some (mR 57), none, none, none]) ⟨rfl, rfl, trivial⟩ ?_
        exact ih1
      · rw [if_neg (Int.not_lt.mpr c2)] at ih1
        refine ⟨fun (c3 : (s1 15 8) ≤ 0) => ?_, fun (c3 : 0 < (s1 15 8)) => ?_⟩
        · rw [if_pos c3] at ih1
          refine (show W2 o_X7 M_X7_parse (inN [15, 16, 17, 18, 19, 20, 52, 53, 54, 55, 56, 57, 58, 59, 60, 61, 62, 63]) (d + 9) Q 102 [some (mR 20), some (mR 57), some (mI ((j1 : Nat) : Int)), none, none] [] s1 from ?_)
          refine WP.fg (L' := [some (mR 20), some (mR 57), none, none, none]) ⟨rfl, rfl, trivial⟩ ?_
          exact ih1
        · rw [if_neg (Int.not_le.mpr c3)] at ih1
          refine sp_X10_advance  (insub (by decide)) ?_
          refine sp_X10_kind  ?_
          refine sp_X7_follow  ?_
          refine ⟨fun (c7 : ¬ (f_X7_follow (e_X10_advance s1 ) (f_X10_kind (e_X10_advance s1 ) )) = (-1)) => ?_, fun (c7 : (f_X7_follow (e_X10_advance s1 ) (f_X10_kind (e_X10_advance s1 ) )) = (-1)) => ?_⟩
          · rw [if_pos c7] at ih1
            refine ⟨fun (c8 : (f_X7_follow (e_X10_advance s1 ) (f_X10_kind (e_X10_advance s1 ) )) = 0) => ?_, fun (c8 : ¬ (f_X7_follow (e_X10_advance s1 ) (f_X10_kind (e_X10_advance s1 ) )) = 0) => ?_⟩
            · rw [if_pos c8] at ih1
              refine sp_X7_note (by decide) (show ((e_X10_advance s1 ) 15 9) = 57 from by (try simp (disch := decide) only [gs_ne, gs_at_ne, fr_X10_advance, frp_X10_advance_20, fr_X7_begin, frp_X7_begin_15, frp_X7_begin_20, frp_X7_begin_c]); exact hp) (by (try simp (disch := decide) only [gs_ne, gs_at_ne, fr_X10_advance, frp_X10_advance_20, fr_X7_begin, frp_X7_begin_15, frp_X7_begin_20, frp_X7_begin_c]); exact h11) (by (try simp (disch := decide) only [gs_ne, gs_at_ne, fr_X10_advance, frp_X10_advance_20, fr_X7_begin, frp_X7_begin_15, frp_X7_begin_20, frp_X7_begin_c]); exact h12) (by (try simp (disch := decide) only [gs_ne, gs_at_ne, fr_X10_advance, frp_X10_advance_20, fr_X7_begin, frp_X7_begin_15, frp_X7_begin_20, frp_X7_begin_c]); exact hw) (insub (by decide)) ?_
              refine (show W2 o_X7 M_X7_parse (inN [15, 16, 17, 18, 19, 20, 52, 53, 54, 55, 56, 57, 58, 59, 60, 61, 62, 63]) (d + 9) Q 96 [some (mR 20), some (mR 57), some (mI ((j1 : Nat) : Int)), some (mI (f_X10_kind (e_X10_advance s1 ) )), some (mI (f_X7_follow (e_X10_advance s1 ) (f_X10_kind (e_X10_advance s1 ) )))] [] (gs (e_X7_note 52 (e_X10_advance s1 ) (f_X10_kind (e_X10_advance s1 ) )) 15 8 (f_X7_follow (e_X10_advance s1 ) (f_X10_kind (e_X10_advance s1 ) ))) from ?_)
              refine w2_vc [7, 96, 102] 400 oo_X7 q_X7_parse ?_
              refine (show W2 o_X7 M_X7_parse (inN [15, 16, 17, 18, 19, 20, 52, 53, 54, 55, 56, 57, 58, 59, 60, 61, 62, 63]) (d + 9) Q 7 [some (mR 20), some (mR 57), some (mI (w32 (((j1 : Nat) : Int) + 1))), some (mI (f_X10_kind (e_X10_advance s1 ) )), some (mI (f_X7_follow (e_X10_advance s1 ) (f_X10_kind (e_X10_advance s1 ) )))] [] (gs (e_X7_note 52 (e_X10_advance s1 ) (f_X10_kind (e_X10_advance s1 ) )) 15 8 (f_X7_follow (e_X10_advance s1 ) (f_X10_kind (e_X10_advance s1 ) ))) from ?_)
              refine WP.fg (L' := [some (mR 20), some (mR 57), some (mI (w32 (((j1 : Nat) : Int) + 1))), none, none]) ⟨rfl, rfl, rfl, trivial⟩ ?_
              rw [w32_nat (by omega)]
              exact ih1
            · rw [if_neg (c8)] at ih1
              refine ⟨fun (c10 : ((j1 : Nat) : Int) = 600) => ?_, fun (c10 : ¬ ((j1 : Nat) : Int) = 600) => ?_⟩
              · rw [if_pos c10] at ih1
                refine sp_X7_stop  (insub (by decide)) ?_
                refine (show W2 o_X7 M_X7_parse (inN [15, 16, 17, 18, 19, 20, 52, 53, 54, 55, 56, 57, 58, 59, 60, 61, 62, 63]) (d + 9) Q 96 [some (mR 20), some (mR 57), some (mI ((j1 : Nat) : Int)), some (mI (f_X10_kind (e_X10_advance s1 ) )), some (mI (f_X7_follow (e_X10_advance s1 ) (f_X10_kind (e_X10_advance s1 ) )))] [] (e_X7_stop (e_X10_advance s1 ) 2) from ?_)
                refine w2_vc [7, 96, 102] 400 oo_X7 q_X7_parse ?_
                refine (show W2 o_X7 M_X7_parse (inN [15, 16, 17, 18, 19, 20, 52, 53, 54, 55, 56, 57, 58, 59, 60, 61, 62, 63]) (d + 9) Q 7 [some (mR 20), some (mR 57), some (mI (w32 (((j1 : Nat) : Int) + 1))), some (mI (f_X10_kind (e_X10_advance s1 ) )), some (mI (f_X7_follow (e_X10_advance s1 ) (f_X10_kind (e_X10_advance s1 ) )))] [] (e_X7_stop (e_X10_advance s1 ) 2) from ?_)
                refine WP.fg (L' := [some (mR 20), some (mR 57), some (mI (w32 (((j1 : Nat) : Int) + 1))), none, none]) ⟨rfl, rfl, rfl, trivial⟩ ?_
                rw [w32_nat (by omega)]
                exact ih1
              · rw [if_neg (c10)] at ih1
                refine sp_X7_lacksRoomFor (by decide) (show ((e_X10_advance s1 ) 15 9) = 57 from by (try simp (disch := decide) only [gs_ne, gs_at_ne, fr_X10_advance, frp_X10_advance_20, fr_X7_begin, frp_X7_begin_15, frp_X7_begin_20, frp_X7_begin_c, fr_X7_note, frp_X7_note_15, frp_X7_note_c, fr_X7_stop, frp_X7_stop_15]); exact hp) ?_
                have c13 := fa_X7_lacksRoomFor 52 (e_X10_advance s1 ) (f_X10_kind (e_X10_advance s1 ) )
                refine ⟨fun (c14 : (f_X7_lacksRoomFor 52 (e_X10_advance s1 ) (f_X10_kind (e_X10_advance s1 ) )) = 0) => ?_, fun (c14 : ¬ (f_X7_lacksRoomFor 52 (e_X10_advance s1 ) (f_X10_kind (e_X10_advance s1 ) )) = 0) => ?_⟩
                · rw [if_pos c14] at ih1
                  refine sp_X7_note (by decide) (show ((e_X10_advance s1 ) 15 9) = 57 from by (try simp (disch := decide) only [gs_ne, gs_at_ne, fr_X10_advance, frp_X10_advance_20, fr_X7_begin, frp_X7_begin_15, frp_X7_begin_20, frp_X7_begin_c, fr_X7_note, frp_X7_note_15, frp_X7_note_c, fr_X7_stop, frp_X7_stop_15]); exact hp) (by (try simp (disch := decide) only [gs_ne, gs_at_ne, fr_X10_advance, frp_X10_advance_20, fr_X7_begin, frp_X7_begin_15, frp_X7_begin_20, frp_X7_begin_c, fr_X7_note, frp_X7_note_15, frp_X7_note_c, fr_X7_stop, frp_X7_stop_15]); exact h11) (by (try simp (disch := decide) only [gs_ne, gs_at_ne, fr_X10_advance, frp_X10_advance_20, fr_X7_begin, frp_X7_begin_15, frp_X7_begin_20, frp_X7_begin_c, fr_X7_note, frp_X7_note_15, frp_X7_note_c, fr_X7_stop, frp_X7_stop_15]); exact h12) (by (try simp (disch := decide) only [gs_ne, gs_at_ne, fr_X10_advance, frp_X10_advance_20, fr_X7_begin, frp_X7_begin_15, frp_X7_begin_20, frp_X7_begin_c, fr_X7_note, frp_X7_note_15, frp_X7_note_c, fr_X7_stop, frp_X7_stop_15]); exact hw) (insub (by decide)) ?_
                  refine (show W2 o_X7 M_X7_parse (inN [15, 16, 17, 18, 19, 20, 52, 53, 54, 55, 56, 57, 58, 59, 60, 61, 62, 63]) (d + 9) Q 96 [some (mR 20), some (mR 57), some (mI ((j1 : Nat) : Int)), some (mI (f_X10_kind (e_X10_advance s1 ) )), some (mI (f_X7_follow (e_X10_advance s1 ) (f_X10_kind (e_X10_advance s1 ) )))] [] (gs (e_X7_note 52 (e_X10_advance s1 ) (f_X10_kind (e_X10_advance s1 ) )) 15 8 (f_X7_follow (e_X10_advance s1 ) (f_X10_kind (e_X10_advance s1 ) ))) from ?_)
                  refine w2_vc [7, 96, 102] 400 oo_X7 q_X7_parse ?_
                  refine (show W2 o_X7 M_X7_parse (inN [15, 16, 17, 18, 19, 20, 52, 53, 54, 55, 56, 57, 58, 59, 60, 61, 62, 63]) (d + 9) Q 7 [some (mR 20), some (mR 57), some (mI (w32 (((j1 : Nat) : Int) + 1))), some (mI (f_X10_kind (e_X10_advance s1 ) )), some (mI (f_X7_follow (e_X10_advance s1 ) (f_X10_kind (e_X10_advance s1 ) )))] [] (gs (e_X7_note 52 (e_X10_advance s1 ) (f_X10_kind (e_X10_advance s1 ) )) 15 8 (f_X7_follow (e_X10_advance s1 ) (f_X10_kind (e_X10_advance s1 ) ))) from ?_)
                  refine WP.fg (L' := [some (mR 20), some (mR 57), some (mI (w32 (((j1 : Nat) : Int) + 1))), none, none]) ⟨rfl, rfl, rfl, trivial⟩ ?_
                  rw [w32_nat (by omega)]
                  exact ih1
                · rw [if_neg (c14)] at ih1
                  refine sp_X7_stop  (insub (by decide)) ?_
                  refine (show W2 o_X7 M_X7_parse (inN [15, 16, 17, 18, 19, 20, 52, 53, 54, 55, 56, 57, 58, 59, 60, 61, 62, 63]) (d + 9) Q 96 [some (mR 20), some (mR 57), some (mI ((j1 : Nat) : Int)), some (mI (f_X10_kind (e_X10_advance s1 ) )), some (mI (f_X7_follow (e_X10_advance s1 ) (f_X10_kind (e_X10_advance s1 ) )))] [] (e_X7_stop (e_X10_advance s1 ) 2) from ?_)
                  refine w2_vc [7, 96, 102] 400 oo_X7 q_X7_parse ?_
                  refine (show W2 o_X7 M_X7_parse (inN [15, 16, 17, 18, 19, 20, 52, 53, 54, 55, 56, 57, 58, 59, 60, 61, 62, 63]) (d + 9) Q 7 [some (mR 20), some (mR 57), some (mI (w32 (((j1 : Nat) : Int) + 1))), some (mI (f_X10_kind (e_X10_advance s1 ) )), some (mI (f_X7_follow (e_X10_advance s1 ) (f_X10_kind (e_X10_advance s1 ) )))] [] (e_X7_stop (e_X10_advance s1 ) 2) from ?_)
                  refine WP.fg (L' := [some (mR 20), some (mR 57), some (mI (w32 (((j1 : Nat) : Int) + 1))), none, none]) ⟨rfl, rfl, rfl, trivial⟩ ?_
                  rw [w32_nat (by omega)]
                  exact ih1
          · rw [if_neg (fun q => q c7)] at ih1
            refine sp_X7_stop  (insub (by decide)) ?_
            refine (show W2 o_X7 M_X7_parse (inN [15, 16, 17, 18, 19, 20, 52, 53, 54, 55, 56, 57, 58, 59, 60, 61, 62, 63]) (d + 9) Q 96 [some (mR 20), some (mR 57), some (mI ((j1 : Nat) : Int)), some (mI (f_X10_kind (e_X10_advance s1 ) )), some (mI (f_X7_follow (e_X10_advance s1 ) (f_X10_kind (e_X10_advance s1 ) )))] [] (e_X7_stop (e_X10_advance s1 ) 1) from ?_)
            refine w2_vc [7, 96, 102] 400 oo_X7 q_X7_parse ?_
            refine (show W2 o_X7 M_X7_parse (inN [15, 16, 17, 18, 19, 20, 52, 53, 54, 55, 56, 57, 58, 59, 60, 61, 62, 63]) (d + 9) Q 7 [some (mR 20), some (mR 57), some (mI (w32 (((j1 : Nat) : Int) + 1))), some (mI (f_X10_kind (e_X10_advance s1 ) )), some (mI (f_X7_follow (e_X10_advance s1 ) (f_X10_kind (e_X10_advance s1 ) )))] [] (e_X7_stop (e_X10_advance s1 ) 1) from ?_)
            refine WP.fg (L' := [some (mR 20), some (mR 57), some (mI (w32 (((j1 : Nat) : Int) + 1))), none, none]) ⟨rfl, rfl, rfl, trivial⟩ ?_
            rw [w32_nat (by omega)]
            exact ih1
    · skip
      have ih1 : W2 o_X7 M_X7_parse (inN [15, 16, 17, 18, 19, 20, 52, 53, 54, 55, 56, 57, 58, 59, 60, 61, 62, 63]) (d + 9) Q 102 [some (mR 20), some (mR 57), none, none, none] [] s1 := ih1
      refine (show W2 o_X7 M_X7_parse (inN [15, 16, 17, 18, 19, 20, 52, 53, 54, 55, 56, 57, 58, 59, 60, 61, 62, 63]) (d + 9) Q 7 [some (mR 20), some (mR 57), some (mI ((601 : Nat) : Int)), none, none] [] s1 from ?_)
      obtain ⟨hp, h11, h12, hw⟩ := hI1
      have hp : s1 15 9 = 57 := hp
      refine w2_vc [7, 96, 102] 400 oo_X7 q_X7_parse ?_
      refine ⟨fun (c18 : 600 < ((601 : Nat) : Int)) => ?_, fun (c18 : ((601 : Nat) : Int) ≤ 600) => ?_⟩
      · skip
        refine (show W2 o_X7 M_X7_parse (inN [15, 16, 17, 18, 19, 20, 52, 53, 54, 55, 56, 57, 58, 59, 60, 61, 62, 63]) (d + 9) Q 102 [some (mR 20), some (mR 57), some (mI ((601 : Nat) : Int)), none, none] [] s1 from ?_)
        refine WP.fg (L' := [some (mR 20), some (mR 57), none, none, none]) ⟨rfl, rfl, trivial⟩ ?_
        exact ih1
      · skip
        refine ⟨fun (c19 : (s1 15 8) ≤ 0) => ?_, fun (c19 : 0 < (s1 15 8)) => ?_⟩
        · skip
          refine (show W2 o_X7 M_X7_parse (inN [15, 16, 17, 18, 19, 20, 52, 53, 54, 55, 56, 57, 58, 59, 60, 61, 62, 63]) (d + 9) Q 102 [some (mR 20), some (mR 57), some (mI ((601 : Nat) : Int)), none, none] [] s1 from ?_)
          refine WP.fg (L' := [some (mR 20), some (mR 57), none, none, none]) ⟨rfl, rfl, trivial⟩ ?_
          exact ih1
        · skip
          exfalso; first | omega | (rw [w32_i (by omega) (by omega)] at c19; omega) | (simp (disch := omega) only [w32_i] at *; omega)
    · skip
      refine (show W2 o_X7 M_X7_parse (inN [15, 16, 17, 18, 19, 20, 52, 53, 54, 55, 56, 57, 58, 59, 60, 61, 62, 63]) (d + 9) Q 102 [some (mR 20), some (mR 57), none, none, none] [] (brk (fe (g_X7_parse_7 52 G) (e_X7_begin 52 G ) 601)) from ?_)
      generalize (brk (fe (g_X7_parse_7 52 G) (e_X7_begin 52 G ) 601)) = H1 at h hE ⊢
      obtain ⟨hp, h11, h12, hw⟩ := hE
      have hp : H1 15 9 = 57 := hp
      refine w2_vc [7, 96, 102] 400 oo_X7 q_X7_parse ?_
      refine ⟨fun (c20 : ¬ (H1 15 8) = 0) => ?_, fun (c20 : (H1 15 8) = 0) => ?_⟩
      · rw [if_pos c20] at h
        exact h
      · rw [if_neg (fun q => q c20)] at h
        refine sp_X7_settleRivals (by decide) (show (H1 15 9) = 57 from by (try simp (disch := decide) only [gs_ne, gs_at_ne, fr_X10_advance, frp_X10_advance_20, fr_X7_begin, frp_X7_begin_15, frp_X7_begin_20, frp_X7_begin_c, fr_X7_note, frp_X7_note_15, frp_X7_note_c, fr_X7_stop, frp_X7_stop_15]); exact hp) (by (try simp (disch := decide) only [gs_ne, gs_at_ne, fr_X10_advance, frp_X10_advance_20, fr_X7_begin, frp_X7_begin_15, frp_X7_begin_20, frp_X7_begin_c, fr_X7_note, frp_X7_note_15, frp_X7_note_c, fr_X7_stop, frp_X7_stop_15]); exact h11) (by (try simp (disch := decide) only [gs_ne, gs_at_ne, fr_X10_advance, frp_X10_advance_20, fr_X7_begin, frp_X7_begin_15, frp_X7_begin_20, frp_X7_begin_c, fr_X7_note, frp_X7_note_15, frp_X7_note_c, fr_X7_stop, frp_X7_stop_15]); exact h12) (insub (by decide)) ?_
        exact h
