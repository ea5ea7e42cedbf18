/-! ===== printed by wip/whole/gen26.py: the planner lists options ===== -/
def r_X8_suits (c : Nat) (G : mG) (w : Int) (b : Int) (f : Int) : Int × mG := (if ¬ (f_X1_kindOf c G w) = 18 then (0, G) else (if ¬ (f_X1_districtOf c G w) = (f_X0_districtOf G b) then (0, G) else (if (f_X1_isInForce c G (f_X1_ownerOf c G w) f) = 0 then (0, G) else (if ¬ (r_X5_firstHolding c G 21 (f_X1_ownerOf c G w)).1 = (-1) then (0, (r_X5_firstHolding c G 21 (f_X1_ownerOf c G w)).2) else (1, (r_X5_firstHolding c G 21 (f_X1_ownerOf c G w)).2)))))
theorem fr_X8_suits {c : Nat} {G : mG} {w : Int} {b : Int} {f : Int} {k : Nat} (hk : ∀ a ∈ ([25] : List Nat), k ≠ a) : (r_X8_suits c G w b f).2 k = G k := by
  unfold r_X8_suits
  repeat' with_reducible first | apply ite_f | apply ite_f2 | apply ite_p | apply ite_p2
  all_goals first | (simp only [gs_ne (hk (25) (by simp)), fr_X5_firstHolding (c := c) (fun a ha => hk a (by simp only [List.mem_cons, List.not_mem_nil, or_false] at ha ⊢; omega))]; done) | rfl
theorem sp_X8_suits {D : Nat → Bool} {d : Nat} {c : Nat} {G : mG} {w : Int} {b : Int} {f : Int} {Q : Option mV → mG → Prop} (hc : c = 40 ∨ c = 52) (hp : G 29 3 = ((c + 5 : Nat) : Int)) (h12 : G c 12 ≤ 40) (ha : cB c G) (hD : ∀ k, D k = false → inN [25] k = false) (h : Q (some (mI (r_X8_suits c G w b f).1)) (r_X8_suits c G w b f).2) : P2 D (d + 5) M_X8_suits [mR 34, mI w, mI b, mI f] G Q := by
  rcases hc with rfl | rfl
  · skip
    unfold r_X8_suits at h
    try simp only [Nat.reduceAdd, Nat.reduceSub] at h
    have hp : G 29 3 = 45 := hp
    refine MP.to (D2 := inN [25]) (Q2 := Q) ?_ hD (fun v G' q _ => q)
    refine (show P2 (inN [25]) (d + 5) M_X8_suits [mR 34, mI w, mI b, mI f] G Q from ?_)
    refine p2_vc [4, 14, 27, 46, 63] 400 oo_X8 q_X8_suits (by decide) rfl (Nat.le_of_ble_eq_true rfl) ?_
    refine (show W2 o_X8 M_X8_suits (inN [25]) (d + 5) Q 4 [some (mR 34), some (mI w), some (mI b), some (mI f), none] [mR (Int.toNat (G 29 3))] G from ?_)
    rw [hp]
    refine (show W2 o_X8 M_X8_suits (inN [25]) (d + 5) Q 4 [some (mR 34), some (mI w), some (mI b), some (mI f), none] [mR 45] G from ?_)
    refine w2_vc [4, 14, 27, 46, 63] 400 oo_X8 q_X8_suits ?_
    refine sp_X1_ownerOf (by decide) ?_
    refine (show W2 o_X8 M_X8_suits (inN [25]) (d + 5) Q 14 [some (mR 34), some (mI w), some (mI b), some (mI f), some (mI (f_X1_ownerOf 40 G w))] [mR (Int.toNat (G 29 3))] G from ?_)
    rw [hp]
    refine (show W2 o_X8 M_X8_suits (inN [25]) (d + 5) Q 14 [some (mR 34), some (mI w), some (mI b), some (mI f), some (mI (f_X1_ownerOf 40 G w))] [mR 45] G from ?_)
    refine w2_vc [4, 14, 27, 46, 63] 400 oo_X8 q_X8_suits ?_
    refine sp_X1_kindOf (by decide) ?_
    refine ⟨fun (c3 : ¬ (f_X1_kindOf 40 G w) = 18) => ?_, fun (c3 : (f_X1_kindOf 40 G w) = 18) => ?_⟩
    · rw [if_pos c3] at h
      exact ⟨by omega, h⟩
    · rw [if_neg (fun q => q c3)] at h
      refine (show W2 o_X8 M_X8_suits (inN [25]) (d + 5) Q 27 [some (mR 34), some (mI w), some (mI b), some (mI f), some (mI (f_X1_ownerOf 40 G w))] [mR (Int.toNat (G 29 3))] G from ?_)
      rw [hp]
      refine (show W2 o_X8 M_X8_suits (inN [25]) (d + 5) Q 27 [some (mR 34), some (mI w), some (mI b), some (mI f), some (mI (f_X1_ownerOf 40 G w))] [mR 45] G from ?_)
      refine w2_vc [4, 14, 27, 46, 63] 400 oo_X8 q_X8_suits ?_
      refine sp_X1_districtOf (by decide) ?_
      refine sp_X0_districtOf  ?_
      refine ⟨fun (c6 : ¬ (f_X1_districtOf 40 G w) = (f_X0_districtOf G b)) => ?_, fun (c6 : (f_X1_districtOf 40 G w) = (f_X0_districtOf G b)) => ?_⟩
      · rw [if_pos c6] at h
        exact ⟨by omega, h⟩
      · rw [if_neg (fun q => q c6)] at h
        refine (show W2 o_X8 M_X8_suits (inN [25]) (d + 5) Q 46 [some (mR 34), some (mI w), some (mI b), some (mI f), some (mI (f_X1_ownerOf 40 G w))] [mR (Int.toNat (G 29 3))] G from ?_)
        rw [hp]
        refine (show W2 o_X8 M_X8_suits (inN [25]) (d + 5) Q 46 [some (mR 34), some (mI w), some (mI b), some (mI f), some (mI (f_X1_ownerOf 40 G w))] [mR 45] G from ?_)
        refine w2_vc [4, 14, 27, 46, 63] 400 oo_X8 q_X8_suits ?_
        refine sp_X1_isInForce (by decide) ?_
        have c8 := fa_X1_isInForce 40 G (f_X1_ownerOf 40 G w) f
        refine ⟨fun (c9 : (f_X1_isInForce 40 G (f_X1_ownerOf 40 G w) f) = 0) => ?_, fun (c9 : ¬ (f_X1_isInForce 40 G (f_X1_ownerOf 40 G w) f) = 0) => ?_⟩
        · rw [if_pos c9] at h
          exact ⟨by omega, h⟩
        · rw [if_neg (c9)] at h
          refine (show W2 o_X8 M_X8_suits (inN [25]) (d + 5) Q 63 [some (mR 34), some (mI w), some (mI b), some (mI f), some (mI (f_X1_ownerOf 40 G w))] [mR (Int.toNat (G 29 3)), mR 29] G from ?_)
          rw [hp]
          refine (show W2 o_X8 M_X8_suits (inN [25]) (d + 5) Q 63 [some (mR 34), some (mI w), some (mI b), some (mI f), some (mI (f_X1_ownerOf 40 G w))] [mR 45, mR 29] G from ?_)
          refine w2_vc [4, 14, 27, 46, 63] 400 oo_X8 q_X8_suits ?_
          refine sp_X5_firstHolding (by decide) (h12) (ha) (insub (by decide)) ?_
          refine ⟨fun (c11 : ¬ (r_X5_firstHolding 40 G 21 (f_X1_ownerOf 40 G w)).1 = (-1)) => ?_, fun (c11 : (r_X5_firstHolding 40 G 21 (f_X1_ownerOf 40 G w)).1 = (-1)) => ?_⟩
          · rw [if_pos c11] at h
            exact ⟨by omega, h⟩
          · rw [if_neg (fun q => q c11)] at h
            exact ⟨by omega, h⟩
  · skip
    unfold r_X8_suits at h
    try simp only [Nat.reduceAdd, Nat.reduceSub] at h
    have hp : G 29 3 = 57 := hp
    refine MP.to (D2 := inN [25]) (Q2 := Q) ?_ hD (fun v G' q _ => q)
    refine (show P2 (inN [25]) (d + 5) M_X8_suits [mR 34, mI w, mI b, mI f] G Q from ?_)
    refine p2_vc [4, 14, 27, 46, 63] 400 oo_X8 q_X8_suits (by decide) rfl (Nat.le_of_ble_eq_true rfl) ?_
    refine (show W2 o_X8 M_X8_suits (inN [25]) (d + 5) Q 4 [some (mR 34), some (mI w), some (mI b), some (mI f), none] [mR (Int.toNat (G 29 3))] G from ?_)
    rw [hp]
    refine (show W2 o_X8 M_X8_suits (inN [25]) (d + 5) Q 4 [some (mR 34), some (mI w), some (mI b), some (mI f), none] [mR 57] G from ?_)
    refine w2_vc [4, 14, 27, 46, 63] 400 oo_X8 q_X8_suits ?_
    refine sp_X1_ownerOf (by decide) ?_
    refine (show W2 o_X8 M_X8_suits (inN [25]) (d + 5) Q 14 [some (mR 34), some (mI w), some (mI b), some (mI f), some (mI (f_X1_ownerOf 52 G w))] [mR (Int.toNat (G 29 3))] G from ?_)
    rw [hp]
    refine (show W2 o_X8 M_X8_suits (inN [25]) (d + 5) Q 14 [some (mR 34), some (mI w), some (mI b), some (mI f), some (mI (f_X1_ownerOf 52 G w))] [mR 57] G from ?_)
    refine w2_vc [4, 14, 27, 46, 63] 400 oo_X8 q_X8_suits ?_
    refine sp_X1_kindOf (by decide) ?_
    refine ⟨fun (c3 : ¬ (f_X1_kindOf 52 G w) = 18) => ?_, fun (c3 : (f_X1_kindOf 52 G w) = 18) => ?_⟩
    · rw [if_pos c3] at h
      exact ⟨by omega, h⟩
    · rw [if_neg (fun q => q c3)] at h
      refine (show W2 o_X8 M_X8_suits (inN [25]) (d + 5) Q 27 [some (mR 34), some (mI w), some (mI b), some (mI f), some (mI (f_X1_ownerOf 52 G w))] [mR (Int.toNat (G 29 3))] G from ?_)
      rw [hp]
      refine (show W2 o_X8 M_X8_suits (inN [25]) (d + 5) Q 27 [some (mR 34), some (mI w), some (mI b), some (mI f), some (mI (f_X1_ownerOf 52 G w))] [mR 57] G from ?_)
      refine w2_vc [4, 14, 27, 46, 63] 400 oo_X8 q_X8_suits ?_
      refine sp_X1_districtOf (by decide) ?_
      refine sp_X0_districtOf  ?_
      refine ⟨fun (c6 : ¬ (f_X1_districtOf 52 G w) = (f_X0_districtOf G b)) => ?_, fun (c6 : (f_X1_districtOf 52 G w) = (f_X0_districtOf G b)) => ?_⟩
      · rw [if_pos c6] at h
        exact ⟨by omega, h⟩
      · rw [if_neg (fun q => q c6)] at h
        refine (show W2 o_X8 M_X8_suits (inN [25]) (d + 5) Q 46 [some (mR 34), some (mI w), some (mI b), some (mI f), some (mI (f_X1_ownerOf 52 G w))] [mR (Int.toNat (G 29 3))] G from ?_)
        rw [hp]
        refine (show W2 o_X8 M_X8_suits (inN [25]) (d + 5) Q 46 [some (mR 34), some (mI w), some (mI b), some (mI f), some (mI (f_X1_ownerOf 52 G w))] [mR 57] G from ?_)
        refine w2_vc [4, 14, 27, 46, 63] 400 oo_X8 q_X8_suits ?_
        refine sp_X1_isInForce (by decide) ?_
        have c8 := fa_X1_isInForce 52 G (f_X1_ownerOf 52 G w) f
        refine ⟨fun (c9 : (f_X1_isInForce 52 G (f_X1_ownerOf 52 G w) f) = 0) => ?_, fun (c9 : ¬ (f_X1_isInForce 52 G (f_X1_ownerOf 52 G w) f) = 0) => ?_⟩
        · rw [if_pos c9] at h
          exact ⟨by omega, h⟩
        · rw [if_neg (c9)] at h
          refine (show W2 o_X8 M_X8_suits (inN [25]) (d + 5) Q 63 [some (mR 34), some (mI w), some (mI b), some (mI f), some (mI (f_X1_ownerOf 52 G w))] [mR (Int.toNat (G 29 3)), mR 29] G from ?_)
          rw [hp]
          refine (show W2 o_X8 M_X8_suits (inN [25]) (d + 5) Q 63 [some (mR 34), some (mI w), some (mI b), some (mI f), some (mI (f_X1_ownerOf 52 G w))] [mR 57, mR 29] G from ?_)
          refine w2_vc [4, 14, 27, 46, 63] 400 oo_X8 q_X8_suits ?_
          refine sp_X5_firstHolding (by decide) (h12) (ha) (insub (by decide)) ?_
          refine ⟨fun (c11 : ¬ (r_X5_firstHolding 52 G 21 (f_X1_ownerOf 52 G w)).1 = (-1)) => ?_, fun (c11 : (r_X5_firstHolding 52 G 21 (f_X1_ownerOf 52 G w)).1 = (-1)) => ?_⟩
          · rw [if_pos c11] at h
            exact ⟨by omega, h⟩
          · rw [if_neg (fun q => q c11)] at h
            exact ⟨by omega, h⟩
def f_X8_gainOf_0 (c : Nat) (G : mG) (w : Int) (b : Int) (f : Int) : Int := (w32 ((f_X1_worthOf c G w) * 16))
theorem sp_X8_gainOf_0 {D : Nat → Bool} {d : Nat} {c : Nat} {G : mG} {w : Int} {b : Int} {f : Int} {Q : Option mV → mG → Prop} (hc : c = 40 ∨ c = 52) (hp : G 29 3 = ((c + 5 : Nat) : Int)) (h : Q (some (mI (f_X8_gainOf_0 c G w b f))) G) : P2 D (d + 3) M_X8_gainOf [mR 34, mI w, mI b, mI f, mR 0] G Q := by
  rcases hc with rfl | rfl
  · skip
    unfold f_X8_gainOf_0 at h
    try simp only [Nat.reduceAdd, Nat.reduceSub] at h
    have hp : G 29 3 = 45 := hp
    refine (show P2 D (d + 3) M_X8_gainOf [mR 34, mI w, mI b, mI f, mR 0] G Q from ?_)
    refine p2_vc [4] 400 oo_X8 q_X8_gainOf (by decide) rfl (Nat.le_of_ble_eq_true rfl) ?_
    refine (show W2 o_X8 M_X8_gainOf D (d + 3) Q 4 [some (mR 34), some (mI w), some (mI b), some (mI f), some (mR 0), none] [mR (Int.toNat (G 29 3))] G from ?_)
    rw [hp]
    refine (show W2 o_X8 M_X8_gainOf D (d + 3) Q 4 [some (mR 34), some (mI w), some (mI b), some (mI f), some (mR 0), none] [mR 45] G from ?_)
    refine w2_vc [4] 400 oo_X8 q_X8_gainOf ?_
    refine sp_X1_worthOf (by decide) ?_
    exact h
  · skip
    unfold f_X8_gainOf_0 at h
    try simp only [Nat.reduceAdd, Nat.reduceSub] at h
    have hp : G 29 3 = 57 := hp
    refine (show P2 D (d + 3) M_X8_gainOf [mR 34, mI w, mI b, mI f, mR 0] G Q from ?_)
    refine p2_vc [4] 400 oo_X8 q_X8_gainOf (by decide) rfl (Nat.le_of_ble_eq_true rfl) ?_
    refine (show W2 o_X8 M_X8_gainOf D (d + 3) Q 4 [some (mR 34), some (mI w), some (mI b), some (mI f), some (mR 0), none] [mR (Int.toNat (G 29 3))] G from ?_)
    rw [hp]
    refine (show W2 o_X8 M_X8_gainOf D (d + 3) Q 4 [some (mR 34), some (mI w), some (mI b), some (mI f), some (mR 0), none] [mR 57] G from ?_)
    refine w2_vc [4] 400 oo_X8 q_X8_gainOf ?_
    refine sp_X1_worthOf (by decide) ?_
    exact h
def f_X8_gainOf_1 (c : Nat) (G : mG) (w : Int) (b : Int) (f : Int) : Int := (if ¬ (f_X4_clauseOf G b f) = w then (w32 ((w32 ((f_X1_worthOf c G w) * 16)) - 1)) else (w32 ((f_X1_worthOf c G w) * 16)))
theorem sp_X8_gainOf_1 {D : Nat → Bool} {d : Nat} {c : Nat} {G : mG} {w : Int} {b : Int} {f : Int} {Q : Option mV → mG → Prop} (hc : c = 40 ∨ c = 52) (hp : G 29 3 = ((c + 5 : Nat) : Int)) (h : Q (some (mI (f_X8_gainOf_1 c G w b f))) G) : P2 D (d + 4) M_X8_gainOf [mR 34, mI w, mI b, mI f, mR 26] G Q := by
  rcases hc with rfl | rfl
  · skip
    unfold f_X8_gainOf_1 at h
    try simp only [Nat.reduceAdd, Nat.reduceSub] at h
    have hp : G 29 3 = 45 := hp
    refine (show P2 D (d + 4) M_X8_gainOf [mR 34, mI w, mI b, mI f, mR 26] G Q from ?_)
    refine p2_vc [4, 25] 400 oo_X8 q_X8_gainOf (by decide) rfl (Nat.le_of_ble_eq_true rfl) ?_
    refine (show W2 o_X8 M_X8_gainOf D (d + 4) Q 4 [some (mR 34), some (mI w), some (mI b), some (mI f), some (mR 26), none] [mR (Int.toNat (G 29 3))] G from ?_)
    rw [hp]
    refine (show W2 o_X8 M_X8_gainOf D (d + 4) Q 4 [some (mR 34), some (mI w), some (mI b), some (mI f), some (mR 26), none] [mR 45] G from ?_)
    refine w2_vc [4, 25] 400 oo_X8 q_X8_gainOf ?_
    refine sp_X1_worthOf (by decide) ?_
    refine sp_X4_clauseOf  ?_
    refine (show W2 o_X8 M_X8_gainOf D (d + 4) Q 25 [some (mR 34), some (mI w), some (mI b), some (mI f), some (mR 26), some (mI (w32 ((f_X1_worthOf 40 G w) * 16)))] [mI (f_X4_clauseOf G b f)] G from ?_)
    refine w2_vc [4, 25] 400 oo_X8 q_X8_gainOf ?_
    refine ⟨fun (c3 : ¬ (f_X4_clauseOf G b f) = w) => ?_, fun (c3 : (f_X4_clauseOf G b f) = w) => ?_⟩
    · rw [if_pos c3] at h
      exact h
    · rw [if_neg (fun q => q c3)] at h
      exact h
  · skip
    unfold f_X8_gainOf_1 at h
    try simp only [Nat.reduceAdd, Nat.reduceSub] at h
    have hp : G 29 3 = 57 := hp
    refine (show P2 D (d + 4) M_X8_gainOf [mR 34, mI w, mI b, mI f, mR 26] G Q from ?_)
    refine p2_vc [4, 25] 400 oo_X8 q_X8_gainOf (by decide) rfl (Nat.le_of_ble_eq_true rfl) ?_
    refine (show W2 o_X8 M_X8_gainOf D (d + 4) Q 4 [some (mR 34), some (mI w), some (mI b), some (mI f), some (mR 26), none] [mR (Int.toNat (G 29 3))] G from ?_)
    rw [hp]
    refine (show W2 o_X8 M_X8_gainOf D (d + 4) Q 4 [some (mR 34), some (mI w), some (mI b), some (mI f), some (mR 26), none] [mR 57] G from ?_)
    refine w2_vc [4, 25] 400 oo_X8 q_X8_gainOf ?_
    refine sp_X1_worthOf (by decide) ?_
    refine sp_X4_clauseOf  ?_
    refine (show W2 o_X8 M_X8_gainOf D (d + 4) Q 25 [some (mR 34), some (mI w), some (mI b), some (mI f), some (mR 26), some (mI (w32 ((f_X1_worthOf 52 G w) * 16)))] [mI (f_X4_clauseOf G b f)] G from ?_)
    refine w2_vc [4, 25] 400 oo_X8 q_X8_gainOf ?_
    refine ⟨fun (c3 : ¬ (f_X4_clauseOf G b f) = w) => ?_, fun (c3 : (f_X4_clauseOf G b f) = w) => ?_⟩
    · rw [if_pos c3] at h
      exact h
    · rw [if_neg (fun q => q c3)] at h
      exact h
def e_X8_addOption (G : mG) (b : Int) (w : Int) (y : Int) : mG := (if b < 0 then G else (if 9 ≤ b then G else (if (G 30 (Int.toNat b)) < 0 then G else (if 5 ≤ (G 30 (Int.toNat b)) then G else (gs (gs (gs G 31 (Int.toNat (w32 ((w32 (b * 5)) + (G 30 (Int.toNat b))))) w) 32 (Int.toNat (w32 ((w32 (b * 5)) + (G 30 (Int.toNat b))))) y) 30 (Int.toNat b) (w32 ((G 30 (Int.toNat b)) + 1)))))))
theorem fr_X8_addOption {G : mG} {b : Int} {w : Int} {y : Int} {k : Nat} (hk : ∀ a ∈ ([30, 31, 32] : List Nat), k ≠ a) : (e_X8_addOption G b w y) k = G k := by
  unfold e_X8_addOption
  repeat' with_reducible first | apply ite_f | apply ite_f2 | apply ite_p | apply ite_p2
  all_goals first | (simp only [gs_ne (hk (30) (by simp)), gs_ne (hk (31) (by simp)), gs_ne (hk (32) (by simp))]; done) | rfl
theorem sp_X8_addOption {D : Nat → Bool} {d : Nat} {G : mG} {b : Int} {w : Int} {y : Int} {Q : Option mV → mG → Prop} (hD : ∀ k, D k = false → inN [30, 31, 32] k = false) (h : Q none (e_X8_addOption G b w y)) : P2 D (d + 1) M_X8_addOption [mR 34, mI b, mI w, mI y] G Q := by
  unfold e_X8_addOption at h
  refine MP.to (D2 := inN [30, 31, 32]) (Q2 := Q) ?_ hD (fun v G' q _ => q)
  refine p2_vc [45, 58, 61, 68, 71] 400 oo_X8 q_X8_addOption (by decide) rfl (Nat.le_of_ble_eq_true rfl) ?_
  refine ⟨fun (c1 : b < 0) => ?_, fun (c1 : 0 ≤ b) => ?_⟩
  · rw [if_pos c1] at h
    refine (show W2 o_X8 M_X8_addOption (inN [30, 31, 32]) (d + 1) Q 71 [some (mR 34), some (mI b), some (mI w), some (mI y)] [] G from ?_)
    refine w2_vc [45, 58, 61, 68, 71] 400 oo_X8 q_X8_addOption ?_
    exact h
  · rw [if_neg (Int.not_lt.mpr c1)] at h
    refine ⟨fun (c2 : 9 ≤ b) => ?_, fun (c2 : b < 9) => ?_⟩
    · rw [if_pos c2] at h
      refine (show W2 o_X8 M_X8_addOption (inN [30, 31, 32]) (d + 1) Q 71 [some (mR 34), some (mI b), some (mI w), some (mI y)] [] G from ?_)
      refine w2_vc [45, 58, 61, 68, 71] 400 oo_X8 q_X8_addOption ?_
      exact h
    · rw [if_neg (Int.not_le.mpr c2)] at h
      refine ⟨(show 0 ≤ b ∧ b < ((9 : Nat) : Int) from by first | omega | (simp (disch := omega) only [w32_i]; omega)), ?_⟩
      refine ⟨fun (c3 : (G 30 (Int.toNat b)) < 0) => ?_, fun (c3 : 0 ≤ (G 30 (Int.toNat b))) => ?_⟩
      · rw [if_pos c3] at h
        refine (show W2 o_X8 M_X8_addOption (inN [30, 31, 32]) (d + 1) Q 71 [some (mR 34), some (mI b), some (mI w), some (mI y)] [] G from ?_)
        refine w2_vc [45, 58, 61, 68, 71] 400 oo_X8 q_X8_addOption ?_
        exact h
      · rw [if_neg (Int.not_lt.mpr c3)] at h
        refine ⟨(show 0 ≤ b ∧ b < ((9 : Nat) : Int) from by first | omega | (simp (disch := omega) only [w32_i]; omega)), ?_⟩
        refine ⟨fun (c4 : 5 ≤ (G 30 (Int.toNat b))) => ?_, fun (c4 : (G 30 (Int.toNat b)) < 5) => ?_⟩
        · rw [if_pos c4] at h
          refine (show W2 o_X8 M_X8_addOption (inN [30, 31, 32]) (d + 1) Q 71 [some (mR 34), some (mI b), some (mI w), some (mI y)] [] G from ?_)
          refine w2_vc [45, 58, 61, 68, 71] 400 oo_X8 q_X8_addOption ?_
          exact h
        · rw [if_neg (Int.not_le.mpr c4)] at h
          refine ⟨(show 0 ≤ b ∧ b < ((9 : Nat) : Int) from by first | omega | (simp (disch := omega) only [w32_i]; omega)), ?_⟩
          refine ⟨(show 0 ≤ (w32 ((w32 (b * 5)) + (G 30 (Int.toNat b)))) ∧ (w32 ((w32 (b * 5)) + (G 30 (Int.toNat b)))) < ((45 : Nat) : Int) from by first | omega | (simp (disch := omega) only [w32_i]; omega)), ?_⟩
          refine (show W2 o_X8 M_X8_addOption (inN [30, 31, 32]) (d + 1) Q 45 [some (mR 34), some (mI b), some (mI w), some (mI y)] [] (gs G 31 (Int.toNat (w32 ((w32 (b * 5)) + (G 30 (Int.toNat b))))) w) from ?_)
          refine w2_vc [45, 58, 61, 68, 71] 400 oo_X8 q_X8_addOption ?_
          refine ⟨(show 0 ≤ b ∧ b < ((9 : Nat) : Int) from by first | omega | (simp (disch := omega) only [w32_i]; omega)), ?_⟩
          refine (show W2 o_X8 M_X8_addOption (inN [30, 31, 32]) (d + 1) Q 58 [some (mR 34), some (mI b), some (mI w), some (mI y)] [mI (G 30 (Int.toNat b)), mI (w32 (b * 5)), mR 37] (gs G 31 (Int.toNat (w32 ((w32 (b * 5)) + (G 30 (Int.toNat b))))) w) from ?_)
          refine w2_vc [45, 58, 61, 68, 71] 400 oo_X8 q_X8_addOption ?_
          refine ⟨(show 0 ≤ (w32 ((w32 (b * 5)) + (G 30 (Int.toNat b)))) ∧ (w32 ((w32 (b * 5)) + (G 30 (Int.toNat b)))) < ((45 : Nat) : Int) from by first | omega | (simp (disch := omega) only [w32_i]; omega)), ?_⟩
          refine (show W2 o_X8 M_X8_addOption (inN [30, 31, 32]) (d + 1) Q 61 [some (mR 34), some (mI b), some (mI w), some (mI y)] [] (gs (gs G 31 (Int.toNat (w32 ((w32 (b * 5)) + (G 30 (Int.toNat b))))) w) 32 (Int.toNat (w32 ((w32 (b * 5)) + (G 30 (Int.toNat b))))) y) from ?_)
          refine w2_vc [45, 58, 61, 68, 71] 400 oo_X8 q_X8_addOption ?_
          refine ⟨(show 0 ≤ b ∧ b < ((9 : Nat) : Int) from by first | omega | (simp (disch := omega) only [w32_i]; omega)), ?_⟩
          refine (show W2 o_X8 M_X8_addOption (inN [30, 31, 32]) (d + 1) Q 68 [some (mR 34), some (mI b), some (mI w), some (mI y)] [mI (G 30 (Int.toNat b)), mI b, mR 35] (gs (gs G 31 (Int.toNat (w32 ((w32 (b * 5)) + (G 30 (Int.toNat b))))) w) 32 (Int.toNat (w32 ((w32 (b * 5)) + (G 30 (Int.toNat b))))) y) from ?_)
          refine w2_vc [45, 58, 61, 68, 71] 400 oo_X8 q_X8_addOption ?_
          refine ⟨(show 0 ≤ b ∧ b < ((9 : Nat) : Int) from by first | omega | (simp (disch := omega) only [w32_i]; omega)), ?_⟩
          refine (show W2 o_X8 M_X8_addOption (inN [30, 31, 32]) (d + 1) Q 71 [some (mR 34), some (mI b), some (mI w), some (mI y)] [] (gs (gs (gs G 31 (Int.toNat (w32 ((w32 (b * 5)) + (G 30 (Int.toNat b))))) w) 32 (Int.toNat (w32 ((w32 (b * 5)) + (G 30 (Int.toNat b))))) y) 30 (Int.toNat b) (w32 ((G 30 (Int.toNat b)) + 1))) from ?_)
          refine w2_vc [45, 58, 61, 68, 71] 400 oo_X8 q_X8_addOption ?_
          exact h
def g_X8_listOptions_0_54 (c : Nat) (G : mG) (b : Int) (f : Int) (n : Int) : Nat → mG → mG := fun j1 s1 => (if (r_X8_suits c s1 ((j1 : Nat) : Int) b f).1 = 0 then (r_X8_suits c s1 ((j1 : Nat) : Int) b f).2 else (e_X8_addOption (r_X8_suits c s1 ((j1 : Nat) : Int) b f).2 b ((j1 : Nat) : Int) (f_X8_gainOf_0 c (r_X8_suits c s1 ((j1 : Nat) : Int) b f).2 ((j1 : Nat) : Int) b f)))
def e_X8_listOptions_0 (c : Nat) (G : mG) (b : Int) (f : Int) (n : Int) : mG := (if b < 0 then G else (if b < 9 then (if (f_X3_isLost (gs G 30 (Int.toNat b) 0) b f n) = 0 then (e_X8_addOption (fd (g_X8_listOptions_0_54 c G b f n) (e_X5_regard (gs G 30 (Int.toNat b) 0) b) (Int.toNat (G c 12))) b (-1) (f_X8_gainOf_0 c (fd (g_X8_listOptions_0_54 c G b f n) (e_X5_regard (gs G 30 (Int.toNat b) 0) b) (Int.toNat (G c 12))) (-1) b f)) else (e_X8_addOption (gs G 30 (Int.toNat b) 0) b (-1) 0)) else G))
theorem fr_g_X8_listOptions_0_54 (c : Nat) (G : mG) (b : Int) (f : Int) (n : Int) {k : Nat} (hk : ∀ a ∈ ([24, 25, 30, 31, 32] : List Nat), k ≠ a) (j : Nat) (s : mG) : (g_X8_listOptions_0_54 c G b f n j s) k = s k := by
  unfold g_X8_listOptions_0_54
  repeat' with_reducible first | apply ite_f | apply ite_f2 | apply ite_p | apply ite_p2
  all_goals first | (simp only [gs_ne (hk (24) (by simp)), gs_ne (hk (25) (by simp)), gs_ne (hk (30) (by simp)), gs_ne (hk (31) (by simp)), gs_ne (hk (32) (by simp)), fr_X5_regard (fun a ha => hk a (by simp only [List.mem_cons, List.not_mem_nil, or_false] at ha ⊢; omega)), fr_X8_addOption (fun a ha => hk a (by simp only [List.mem_cons, List.not_mem_nil, or_false] at ha ⊢; omega)), fr_X8_suits (c := c) (fun a ha => hk a (by simp only [List.mem_cons, List.not_mem_nil, or_false] at ha ⊢; omega))]; done) | rfl
theorem frp_g_X8_listOptions_0_54_24 (c : Nat) (G : mG) (b : Int) (f : Int) (n : Int) (hc : c = 40 ∨ c = 52) {i : Nat} (hj : ∀ a ∈ ([1, 2, 3, 4, 5, 6, 7] : List Nat), i ≠ a) (j : Nat) (s : mG) : (g_X8_listOptions_0_54 c G b f n j s) 24 i = s 24 i := by
  unfold g_X8_listOptions_0_54
  repeat' with_reducible first | apply ite_f | apply ite_f2 | apply ite_p | apply ite_p2
  all_goals first | (simp only [gs_at_ne (hj 1 (by simp)), gs_at_ne (hj 2 (by simp)), gs_at_ne (hj 3 (by simp)), gs_at_ne (hj 4 (by simp)), gs_at_ne (hj 5 (by simp)), gs_at_ne (hj 6 (by simp)), gs_at_ne (hj 7 (by simp)), gs_ne (show (24) ≠ (25) from by omega), gs_ne (show (24) ≠ (30) from by omega), gs_ne (show (24) ≠ (31) from by omega), gs_ne (show (24) ≠ (32) from by omega), frp_X5_regard_24 (fun a ha => hj a (by simp only [List.mem_cons, List.not_mem_nil, or_false] at ha ⊢; omega)), fr_X8_addOption (k := 24) (fun a ha => by simp only [List.mem_cons, List.not_mem_nil, or_false] at ha; omega), fr_X8_suits (c := c) (k := 24) (fun a ha => by simp only [List.mem_cons, List.not_mem_nil, or_false] at ha; omega)]; done) | rfl
theorem frp_X8_listOptions_0_24 {c : Nat} {G : mG} {b : Int} {f : Int} {n : Int} (hc : c = 40 ∨ c = 52) {i : Nat} (hj : ∀ a ∈ ([1, 2, 3, 4, 5, 6, 7] : List Nat), i ≠ a) : (e_X8_listOptions_0 c G b f n) 24 i = G 24 i := by
  unfold e_X8_listOptions_0
  repeat' with_reducible first | apply ite_f | apply ite_f2 | apply ite_p | apply ite_p2
  all_goals first | (simp only [gs_at_ne (hj 1 (by simp)), gs_at_ne (hj 2 (by simp)), gs_at_ne (hj 3 (by simp)), gs_at_ne (hj 4 (by simp)), gs_at_ne (hj 5 (by simp)), gs_at_ne (hj 6 (by simp)), gs_at_ne (hj 7 (by simp)), gs_ne (show (24) ≠ (25) from by omega), gs_ne (show (24) ≠ (30) from by omega), gs_ne (show (24) ≠ (31) from by omega), gs_ne (show (24) ≠ (32) from by omega), frp_X5_regard_24 (fun a ha => hj a (by simp only [List.mem_cons, List.not_mem_nil, or_false] at ha ⊢; omega)), fr_X8_addOption (k := 24) (fun a ha => by simp only [List.mem_cons, List.not_mem_nil, or_false] at ha; omega), fr_X8_suits (c := c) (k := 24) (fun a ha => by simp only [List.mem_cons, List.not_mem_nil, or_false] at ha; omega), fd_frp (frp_g_X8_listOptions_0_54_24 _ _ _ _ _ hc hj)]; done) | rfl
theorem fr_X8_listOptions_0 {c : Nat} {G : mG} {b : Int} {f : Int} {n : Int} {k : Nat} (hk : ∀ a ∈ ([24, 25, 30, 31, 32] : List Nat), k ≠ a) : (e_X8_listOptions_0 c G b f n) k = G k := by
  unfold e_X8_listOptions_0
  repeat' with_reducible first | apply ite_f | apply ite_f2 | apply ite_p | apply ite_p2
  all_goals first | (simp only [gs_ne (hk (24) (by simp)), gs_ne (hk (25) (by simp)), gs_ne (hk (30) (by simp)), gs_ne (hk (31) (by simp)), gs_ne (hk (32) (by simp)), fr_X5_regard (fun a ha => hk a (by simp only [List.mem_cons, List.not_mem_nil, or_false] at ha ⊢; omega)), fr_X8_addOption (fun a ha => hk a (by simp only [List.mem_cons, List.not_mem_nil, or_false] at ha ⊢; omega)), fr_X8_suits (c := c) (fun a ha => hk a (by simp only [List.mem_cons, List.not_mem_nil, or_false] at ha ⊢; omega)), fd_fr (fr_g_X8_listOptions_0_54 _ _ _ _ _ hk)]; done) | rfl
set_option maxHeartbeats 8000000 in
theorem sp_X8_listOptions_0 {D : Nat → Bool} {d : Nat} {c : Nat} {G : mG} {b : Int} {f : Int} {n : Int} {Q : Option mV → mG → Prop} (hc : c = 40 ∨ c = 52) (hp : G 29 3 = ((c + 5 : Nat) : Int)) (h12 : G c 12 ≤ 40) (ha : cB c G) (hk : 0 ≤ n ∧ n ≤ G 8 4) (hs : G 8 4 ≤ 300) (hD : ∀ k, D k = false → inN [24, 25, 30, 31, 32] k = false) (h : Q none (e_X8_listOptions_0 c G b f n)) : P2 D (d + 6) M_X8_listOptions [mR 34, mI b, mI f, mI n, mR 0] G Q := by
  rcases hc with rfl | rfl
  · skip
    unfold e_X8_listOptions_0 at h
    try simp only [Nat.reduceAdd, Nat.reduceSub] at h
    have hp : G 29 3 = 45 := hp
    refine MP.to (D2 := inN [24, 25, 30, 31, 32]) (Q2 := Q) ?_ hD (fun v G' q _ => q)
    refine (show P2 (inN [24, 25, 30, 31, 32]) (d + 6) M_X8_listOptions [mR 34, mI b, mI f, mI n, mR 0] G Q from ?_)
    refine p2_vc [18, 54, 60] 400 oo_X8 q_X8_listOptions (by decide) rfl (Nat.le_of_ble_eq_true rfl) ?_
    refine ⟨fun (c1 : b < 0) => ?_, fun (c1 : 0 ≤ b) => ?_⟩
    · rw [if_pos c1] at h
      exact h
    · rw [if_neg (Int.not_lt.mpr c1)] at h
      refine ⟨fun (c2 : b < 9) => ?_, fun (c2 : 9 ≤ b) => ?_⟩
      · rw [if_pos c2] at h
        refine ⟨(show 0 ≤ b ∧ b < ((9 : Nat) : Int) from by first | omega | (simp (disch := omega) only [w32_i]; omega)), ?_⟩
        refine (show W2 o_X8 M_X8_listOptions (inN [24, 25, 30, 31, 32]) (d + 6) Q 18 [some (mR 34), some (mI b), some (mI f), some (mI n), some (mR 0), none] [] (gs G 30 (Int.toNat b) 0) from ?_)
        refine w2_vc [18, 54, 60] 400 oo_X8 q_X8_listOptions ?_
        refine sp_X3_isLost (by (try simp (disch := decide) only [gs_ne, gs_at_ne]); exact hk) (by (try simp (disch := decide) only [gs_ne, gs_at_ne]); exact hs) ?_
        have c4 := fa_X3_isLost (gs G 30 (Int.toNat b) 0) b f n
        refine ⟨fun (c5 : (f_X3_isLost (gs G 30 (Int.toNat b) 0) b f n) = 0) => ?_, fun (c5 : ¬ (f_X3_isLost (gs G 30 (Int.toNat b) 0) b f n) = 0) => ?_⟩
        · rw [if_pos c5] at h
          refine sp_X5_regard  (insub (by decide)) ?_
          refine (show W2 o_X8 M_X8_listOptions (inN [24, 25, 30, 31, 32]) (d + 6) Q 54 [some (mR 34), some (mI b), some (mI f), some (mI n), some (mR 0), some (mI ((0 : Nat) : Int))] [] (e_X5_regard (gs G 30 (Int.toNat b) 0) b) from ?_)
          refine lupI (g_X8_listOptions_0_54 40 G b f n) (e_X5_regard (gs G 30 (Int.toNat b) 0) b) (fun j1 s1 => W2 o_X8 M_X8_listOptions (inN [24, 25, 30, 31, 32]) (d + 6) Q 54 [some (mR 34), some (mI b), some (mI f), some (mI n), some (mR 0), some (mI ((j1 : Nat) : Int))] [] s1) (fun (_ : Nat) s => (∀ k, (∀ a ∈ ([24, 25, 30, 31, 32] : List Nat), k ≠ a) → s k = (e_X5_regard (gs G 30 (Int.toNat b) 0) b) k) ∧ (∀ i, (∀ a ∈ ([1, 2, 3, 4, 5, 6, 7] : List Nat), i ≠ a) → s 24 i = (e_X5_regard (gs G 30 (Int.toNat b) 0) b) 24 i)) (Int.toNat (G 40 12)) ⟨⟨fun _ _ => rfl, fun _ _ => rfl⟩, fun j s _ hI => ⟨fun k hk => by rw [← hI.1 k hk]; exact fr_g_X8_listOptions_0_54 40 G b f n hk j s, fun i hi => by rw [← hI.2 i hi]; exact frp_g_X8_listOptions_0_54_24 40 G b f n (by decide) hi j s⟩⟩ (fun j1 s1 hj1 hI1 ih1 => ?_) (fun hI1 => ?_)
          · have ih1 : W2 o_X8 M_X8_listOptions (inN [24, 25, 30, 31, 32]) (d + 6) Q 54 [some (mR 34), some (mI b), some (mI f), some (mI n), some (mR 0), some (mI ((j1 + 1 : Nat) : Int))] [] (g_X8_listOptions_0_54 40 G b f n j1 s1) := ih1
            unfold g_X8_listOptions_0_54 at ih1
            try simp only [Nat.reduceAdd, Nat.reduceSub] at ih1
            have hF1 := hI1.1
            have hP1_24 := hI1.2
            have hI1c : s1 40 12 = G 40 12 := by simp (disch := decide) only [hF1, gs_ne, fr_X5_regard]
            refine w2_vc [18, 54, 60] 400 oo_X8 q_X8_listOptions ?_
            refine (show W2 o_X8 M_X8_listOptions (inN [24, 25, 30, 31, 32]) (d + 6) Q 60 [some (mR 34), some (mI b), some (mI f), some (mI n), some (mR 0), some (mI ((j1 : Nat) : Int))] [mR (Int.toNat (s1 29 3)), mI ((j1 : Nat) : Int)] s1 from ?_)
            rw [show (s1 29 3) = 45 from by (try simp (disch := decide) only [gs_ne, gs_at_ne, fr_X5_regard, frp_X5_regard_24, hF1, hP1_24]); exact hp]
            refine (show W2 o_X8 M_X8_listOptions (inN [24, 25, 30, 31, 32]) (d + 6) Q 60 [some (mR 34), some (mI b), some (mI f), some (mI n), some (mR 0), some (mI ((j1 : Nat) : Int))] [mR 45, mI ((j1 : Nat) : Int)] s1 from ?_)
            refine w2_vc [18, 54, 60] 400 oo_X8 q_X8_listOptions ?_
            refine sp_X1_clauses (by decide) ?_
            have c8 := (show f_X1_clauses 40 s1 = s1 40 12 from rfl)
            refine ⟨fun (c9 : (f_X1_clauses 40 s1 ) ≤ ((j1 : Nat) : Int)) => ?_, fun (c9 : ((j1 : Nat) : Int) < (f_X1_clauses 40 s1 )) => ?_⟩
            · skip
              exfalso; first | omega | (rw [w32_i (by omega) (by omega)] at c9; omega) | (simp (disch := omega) only [w32_i] at *; omega)
            · skip
              refine sp_X8_suits (by decide) (show (s1 29 3) = 45 from by (try simp (disch := decide) only [gs_ne, gs_at_ne, fr_X5_regard, frp_X5_regard_24, hF1, hP1_24]); exact hp) (by (try simp (disch := decide) only [gs_ne, gs_at_ne, fr_X5_regard, frp_X5_regard_24, hF1, hP1_24]); exact h12) (cB_to ha (show s1 40 = G 40 from by simp (disch := decide) only [gs_ne, gs_at_ne, fr_X5_regard, frp_X5_regard_24, hF1, hP1_24]) (show s1 49 = G 49 from by simp (disch := decide) only [gs_ne, gs_at_ne, fr_X5_regard, frp_X5_regard_24, hF1, hP1_24]) (show s1 50 = G 50 from by simp (disch := decide) only [gs_ne, gs_at_ne, fr_X5_regard, frp_X5_regard_24, hF1, hP1_24])) (insub (by decide)) ?_
              refine ⟨fun (c11 : (r_X8_suits 40 s1 ((j1 : Nat) : Int) b f).1 = 0) => ?_, fun (c11 : ¬ (r_X8_suits 40 s1 ((j1 : Nat) : Int) b f).1 = 0) => ?_⟩
              · rw [if_pos c11] at ih1
                refine (show W2 o_X8 M_X8_listOptions (inN [24, 25, 30, 31, 32]) (d + 6) Q 54 [some (mR 34), some (mI b), some (mI f), some (mI n), some (mR 0), some (mI (w32 (((j1 : Nat) : Int) + 1)))] [] (r_X8_suits 40 s1 ((j1 : Nat) : Int) b f).2 from ?_)
                rw [w32_nat (by omega)]
                exact ih1
              · rw [if_neg (c11)] at ih1
                refine sp_X8_gainOf_0 (by decide) (show ((r_X8_suits 40 s1 ((j1 : Nat) : Int) b f).2 29 3) = 45 from by (try simp (disch := decide) only [gs_ne, gs_at_ne, fr_X5_regard, frp_X5_regard_24, fr_X8_suits, hF1, hP1_24]); exact hp) ?_
                refine sp_X8_addOption  (insub (by decide)) ?_
                refine (show W2 o_X8 M_X8_listOptions (inN [24, 25, 30, 31, 32]) (d + 6) Q 54 [some (mR 34), some (mI b), some (mI f), some (mI n), some (mR 0), some (mI (w32 (((j1 : Nat) : Int) + 1)))] [] (e_X8_addOption (r_X8_suits 40 s1 ((j1 : Nat) : Int) b f).2 b ((j1 : Nat) : Int) (f_X8_gainOf_0 40 (r_X8_suits 40 s1 ((j1 : Nat) : Int) b f).2 ((j1 : Nat) : Int) b f)) from ?_)
                rw [w32_nat (by omega)]
                exact ih1
          · skip
            refine (show W2 o_X8 M_X8_listOptions (inN [24, 25, 30, 31, 32]) (d + 6) Q 54 [some (mR 34), some (mI b), some (mI f), some (mI n), some (mR 0), some (mI (((Int.toNat (G 40 12)) : Nat) : Int))] [] (fd (g_X8_listOptions_0_54 40 G b f n) (e_X5_regard (gs G 30 (Int.toNat b) 0) b) (Int.toNat (G 40 12))) from ?_)
            have hF1 := hI1.1
            have hP1_24 := hI1.2
            have hI1c : (fd (g_X8_listOptions_0_54 40 G b f n) (e_X5_regard (gs G 30 (Int.toNat b) 0) b) (Int.toNat (G 40 12))) 40 12 = G 40 12 := by simp (disch := decide) only [hF1, gs_ne, fr_X5_regard]
            refine w2_vc [18, 54, 60] 400 oo_X8 q_X8_listOptions ?_
            refine (show W2 o_X8 M_X8_listOptions (inN [24, 25, 30, 31, 32]) (d + 6) Q 60 [some (mR 34), some (mI b), some (mI f), some (mI n), some (mR 0), some (mI (((Int.toNat (G 40 12)) : Nat) : Int))] [mR (Int.toNat ((fd (g_X8_listOptions_0_54 40 G b f n) (e_X5_regard (gs G 30 (Int.toNat b) 0) b) (Int.toNat (G 40 12))) 29 3)), mI (((Int.toNat (G 40 12)) : Nat) : Int)] (fd (g_X8_listOptions_0_54 40 G b f n) (e_X5_regard (gs G 30 (Int.toNat b) 0) b) (Int.toNat (G 40 12))) from ?_)
            rw [show ((fd (g_X8_listOptions_0_54 40 G b f n) (e_X5_regard (gs G 30 (Int.toNat b) 0) b) (Int.toNat (G 40 12))) 29 3) = 45 from by (try simp (disch := decide) only [gs_ne, gs_at_ne, fr_X5_regard, frp_X5_regard_24, fr_X8_addOption, fr_X8_suits, hF1, hP1_24]); exact hp]
            refine (show W2 o_X8 M_X8_listOptions (inN [24, 25, 30, 31, 32]) (d + 6) Q 60 [some (mR 34), some (mI b), some (mI f), some (mI n), some (mR 0), some (mI (((Int.toNat (G 40 12)) : Nat) : Int))] [mR 45, mI (((Int.toNat (G 40 12)) : Nat) : Int)] (fd (g_X8_listOptions_0_54 40 G b f n) (e_X5_regard (gs G 30 (Int.toNat b) 0) b) (Int.toNat (G 40 12))) from ?_)
            refine w2_vc [18, 54, 60] 400 oo_X8 q_X8_listOptions ?_
            refine sp_X1_clauses (by decide) ?_
            have c15 := (show f_X1_clauses 40 (fd (g_X8_listOptions_0_54 40 G b f n) (e_X5_regard (gs G 30 (Int.toNat b) 0) b) (Int.toNat (G 40 12))) = (fd (g_X8_listOptions_0_54 40 G b f n) (e_X5_regard (gs G 30 (Int.toNat b) 0) b) (Int.toNat (G 40 12))) 40 12 from rfl)
            refine ⟨fun (c16 : (f_X1_clauses 40 (fd (g_X8_listOptions_0_54 40 G b f n) (e_X5_regard (gs G 30 (Int.toNat b) 0) b) (Int.toNat (G 40 12))) ) ≤ (((Int.toNat (G 40 12)) : Nat) : Int)) => ?_, fun (c16 : (((Int.toNat (G 40 12)) : Nat) : Int) < (f_X1_clauses 40 (fd (g_X8_listOptions_0_54 40 G b f n) (e_X5_regard (gs G 30 (Int.toNat b) 0) b) (Int.toNat (G 40 12))) )) => ?_⟩
            · skip
              refine sp_X8_gainOf_0 (by decide) (show ((fd (g_X8_listOptions_0_54 40 G b f n) (e_X5_regard (gs G 30 (Int.toNat b) 0) b) (Int.toNat (G 40 12))) 29 3) = 45 from by (try simp (disch := decide) only [gs_ne, gs_at_ne, fr_X5_regard, frp_X5_regard_24, fr_X8_addOption, fr_X8_suits, hF1, hP1_24]); exact hp) ?_
              refine sp_X8_addOption  (insub (by decide)) ?_
              exact h
            · skip
              exfalso; first | omega | (rw [w32_i (by omega) (by omega)] at c18; omega) | (simp (disch := omega) only [w32_i] at *; omega)
        · rw [if_neg (c5)] at h
          refine sp_X8_addOption  (insub (by decide)) ?_
          exact h
      · rw [if_neg (Int.not_lt.mpr c2)] at h
        exact h
  · skip
    unfold e_X8_listOptions_0 at h
    try simp only [Nat.reduceAdd, Nat.reduceSub] at h
    have hp : G 29 3 = 57 := hp
    refine MP.to (D2 := inN [24, 25, 30, 31, 32]) (Q2 := Q) ?_ hD (fun v G' q _ => q)
    refine (show P2 (inN [24, 25, 30, 31, 32]) (d + 6) M_X8_listOptions [mR 34, mI b, mI f, mI n, mR 0] G Q from ?_)
    refine p2_vc [18, 54, 60] 400 oo_X8 q_X8_listOptions (by decide) rfl (Nat.le_of_ble_eq_true rfl) ?_
    refine ⟨fun (c1 : b < 0) => ?_, fun (c1 : 0 ≤ b) => ?_⟩
    · rw [if_pos c1] at h
      exact h
    · rw [if_neg (Int.not_lt.mpr c1)] at h
      refine ⟨fun (c2 : b < 9) => ?_, fun (c2 : 9 ≤ b) => ?_⟩
      · rw [if_pos c2] at h
        refine ⟨(show 0 ≤ b ∧ b < ((9 : Nat) : Int) from by first | omega | (simp (disch := omega) only [w32_i]; omega)), ?_⟩
        refine (show W2 o_X8 M_X8_listOptions (inN [24, 25, 30, 31, 32]) (d + 6) Q 18 [some (mR 34), some (mI b), some (mI f), some (mI n), some (mR 0), none] [] (gs G 30 (Int.toNat b) 0) from ?_)
        refine w2_vc [18, 54, 60] 400 oo_X8 q_X8_listOptions ?_
        refine sp_X3_isLost (by (try simp (disch := decide) only [gs_ne, gs_at_ne]); exact hk) (by (try simp (disch := decide) only [gs_ne, gs_at_ne]); exact hs) ?_
        have c4 := fa_X3_isLost (gs G 30 (Int.toNat b) 0) b f n
        refine ⟨fun (c5 : (f_X3_isLost (gs G 30 (Int.toNat b) 0) b f n) = 0) => ?_, fun (c5 : ¬ (f_X3_isLost (gs G 30 (Int.toNat b) 0) b f n) = 0) => ?_⟩
        · rw [if_pos c5] at h
          refine sp_X5_regard  (insub (by decide)) ?_
          refine (show W2 o_X8 M_X8_listOptions (inN [24, 25, 30, 31, 32]) (d + 6) Q 54 [some (mR 34), some (mI b), some (mI f), some (mI n), some (mR 0), some (mI ((0 : Nat) : Int))] [] (e_X5_regard (gs G 30 (Int.toNat b) 0) b) from ?_)
          refine lupI (g_X8_listOptions_0_54 52 G b f n) (e_X5_regard (gs G 30 (Int.toNat b) 0) b) (fun j1 s1 => W2 o_X8 M_X8_listOptions (inN [24, 25, 30, 31, 32]) (d + 6) Q 54 [some (mR 34), some (mI b), some (mI f), some (mI n), some (mR 0), some (mI ((j1 : Nat) : Int))] [] s1) (fun (_ : Nat) s => (∀ k, (∀ a ∈ ([24, 25, 30, 31, 32] : List Nat), k ≠ a) → s k = (e_X5_regard (gs G 30 (Int.toNat b) 0) b) k) ∧ (∀ i, (∀ a ∈ ([1, 2, 3, 4, 5, 6, 7] : List Nat), i ≠ a) → s 24 i = (e_X5_regard (gs G 30 (Int.toNat b) 0) b) 24 i)) (Int.toNat (G 52 12)) ⟨⟨fun _ _ => rfl, fun _ _ => rfl⟩, fun j s _ hI => ⟨fun k hk => by rw [← hI.1 k hk]; exact fr_g_X8_listOptions_0_54 52 G b f n hk j s, fun i hi => by rw [← hI.2 i hi]; exact frp_g_X8_listOptions_0_54_24 52 G b f n (by decide) hi j s⟩⟩ (fun j1 s1 hj1 hI1 ih1 => ?_) (fun hI1 => ?_)
          · have ih1 : W2 o_X8 M_X8_listOptions (inN [24, 25, 30, 31, 32]) (d + 6) Q 54 [some (mR 34), some (mI b), some (mI f), some (mI n), some (mR 0), some (mI ((j1 + 1 : Nat) : Int))] [] (g_X8_listOptions_0_54 52 G b f n j1 s1) := ih1
            unfold g_X8_listOptions_0_54 at ih1
            try simp only [Nat.reduceAdd, Nat.reduceSub] at ih1
            have hF1 := hI1.1
            have hP1_24 := hI1.2
            have hI1c : s1 52 12 = G 52 12 := by simp (disch := decide) only [hF1, gs_ne, fr_X5_regard]
            refine w2_vc [18, 54, 60] 400 oo_X8 q_X8_listOptions ?_
            refine (show W2 o_X8 M_X8_listOptions (inN [24, 25, 30, 31, 32]) (d + 6) Q 60 [some (mR 34), some (mI b), some (mI f), some (mI n), some (mR 0), some (mI ((j1 : Nat) : Int))] [mR (Int.toNat (s1 29 3)), mI ((j1 : Nat) : Int)] s1 from ?_)
            rw [show (s1 29 3) = 57 from by (try simp (disch := decide) only [gs_ne, gs_at_ne, fr_X5_regard, frp_X5_regard_24, hF1, hP1_24]); exact hp]
            refine (show W2 o_X8 M_X8_listOptions (inN [24, 25, 30, 31, 32]) (d + 6) Q 60 [some (mR 34), some (mI b), some (mI f), some (mI n), some (mR 0), some (mI ((j1 : Nat) : Int))] [mR 57, mI ((j1 : Nat) : Int)] s1 from ?_)
            refine w2_vc [18, 54, 60] 400 oo_X8 q_X8_listOptions ?_
            refine sp_X1_clauses (by decide) ?_
            have c8 := (show f_X1_clauses 52 s1 = s1 52 12 from rfl)
            refine ⟨fun (c9 : (f_X1_clauses 52 s1 ) ≤ ((j1 : Nat) : Int)) => ?_, fun (c9 : ((j1 : Nat) : Int) < (f_X1_clauses 52 s1 )) => ?_⟩
            · skip
              exfalso; first | omega | (rw [w32_i (by omega) (by omega)] at c9; omega) | (simp (disch := omega) only [w32_i] at *; omega)
            · skip
              refine sp_X8_suits (by decide) (show (s1 29 3) = 57 from by (try simp (disch := decide) only [gs_ne, gs_at_ne, fr_X5_regard, frp_X5_regard_24, hF1, hP1_24]); exact hp) (by (try simp (disch := decide) only [gs_ne, gs_at_ne, fr_X5_regard, frp_X5_regard_24, hF1, hP1_24]); exact h12) (cB_to ha (show s1 52 = G 52 from by simp (disch := decide) only [gs_ne, gs_at_ne, fr_X5_regard, frp_X5_regard_24, hF1, hP1_24]) (show s1 61 = G 61 from by simp (disch := decide) only [gs_ne, gs_at_ne, fr_X5_regard, frp_X5_regard_24, hF1, hP1_24]) (show s1 62 = G 62 from by simp (disch := decide) only [gs_ne, gs_at_ne, fr_X5_regard, frp_X5_regard_24, hF1, hP1_24])) (insub (by decide)) ?_
              refine ⟨fun (c11 : (r_X8_suits 52 s1 ((j1 : Nat) : Int) b f).1 = 0) => ?_, fun (c11 : ¬ (r_X8_suits 52 s1 ((j1 : Nat) : Int) b f).1 = 0) => ?_⟩
              · rw [if_pos c11] at ih1
                refine (show W2 o_X8 M_X8_listOptions (inN [24, 25, 30, 31, 32]) (d + 6) Q 54 [some (mR 34), some (mI b), some (mI f), some (mI n), some (mR 0), some (mI (w32 (((j1 : Nat) : Int) + 1)))] [] (r_X8_suits 52 s1 ((j1 : Nat) : Int) b f).2 from ?_)
                rw [w32_nat (by omega)]
                exact ih1
              · rw [if_neg (c11)] at ih1
                refine sp_X8_gainOf_0 (by decide) (show ((r_X8_suits 52 s1 ((j1 : Nat) : Int) b f).2 29 3) = 57 from by (try simp (disch := decide) only [gs_ne, gs_at_ne, fr_X5_regard, frp_X5_regard_24, fr_X8_suits, hF1, hP1_24]); exact hp) ?_
                refine sp_X8_addOption  (insub (by decide)) ?_
                refine (show W2 o_X8 M_X8_listOptions (inN [24, 25, 30, 31, 32]) (d + 6) Q 54 [some (mR 34), some (mI b), some (mI f), some (mI n), some (mR 0), some (mI (w32 (((j1 : Nat) : Int) + 1)))] [] (e_X8_addOption (r_X8_suits 52 s1 ((j1 : Nat) : Int) b f).2 b ((j1 : Nat) : Int) (f_X8_gainOf_0 52 (r_X8_suits 52 s1 ((j1 : Nat) : Int) b f).2 ((j1 : Nat) : Int) b f)) from ?_)
                rw [w32_nat (by omega)]
                exact ih1
          · skip
            refine (show W2 o_X8 M_X8_listOptions (inN [24, 25, 30, 31, 32]) (d + 6) Q 54 [some (mR 34), some (mI b), some (mI f), some (mI n), some (mR 0), some (mI (((Int.toNat (G 52 12)) : Nat) : Int))] [] (fd (g_X8_listOptions_0_54 52 G b f n) (e_X5_regard (gs G 30 (Int.toNat b) 0) b) (Int.toNat (G 52 12))) from ?_)
            have hF1 := hI1.1
            have hP1_24 := hI1.2
            have hI1c : (fd (g_X8_listOptions_0_54 52 G b f n) (e_X5_regard (gs G 30 (Int.toNat b) 0) b) (Int.toNat (G 52 12))) 52 12 = G 52 12 := by simp (disch := decide) only [hF1, gs_ne, fr_X5_regard]
            refine w2_vc [18, 54, 60] 400 oo_X8 q_X8_listOptions ?_
            refine (show W2 o_X8 M_X8_listOptions (inN [24, 25, 30, 31, 32]) (d + 6) Q 60 [some (mR 34), some (mI b), some (mI f), some (mI n), some (mR 0), some (mI (((Int.toNat (G 52 12)) : Nat) : Int))] [mR (Int.toNat ((fd (g_X8_listOptions_0_54 52 G b f n) (e_X5_regard (gs G 30 (Int.toNat b) 0) b) (Int.toNat (G 52 12))) 29 3)), mI (((Int.toNat (G 52 12)) : Nat) : Int)] (fd (g_X8_listOptions_0_54 52 G b f n) (e_X5_regard (gs G 30 (Int.toNat b) 0) b) (Int.toNat (G 52 12))) from ?_)
            rw [show ((fd (g_X8_listOptions_0_54 52 G b f n) (e_X5_regard (gs G 30 (Int.toNat b) 0) b) (Int.toNat (G 52 12))) 29 3) = 57 from by (try simp (disch := decide) only [gs_ne, gs_at_ne, fr_X5_regard, frp_X5_regard_24, fr_X8_addOption, fr_X8_suits, hF1, hP1_24]); exact hp]
            refine (show W2 o_X8 M_X8_listOptions (inN [24, 25, 30, 31, 32]) (d + 6) Q 60 [some (mR 34), some (mI b), some (mI f), some (mI n), some (mR 0), some (mI (((Int.toNat (G 52 12)) : Nat) : Int))] [mR 57, mI (((Int.toNat (G 52 12)) : Nat) : Int)] (fd (g_X8_listOptions_0_54 52 G b f n) (e_X5_regard (gs G 30 (Int.toNat b) 0) b) (Int.toNat (G 52 12))) from ?_)
            refine w2_vc [18, 54, 60] 400 oo_X8 q_X8_listOptions ?_
            refine sp_X1_clauses (by decide) ?_
            have c15 := (show f_X1_clauses 52 (fd (g_X8_listOptions_0_54 52 G b f n) (e_X5_regard (gs G 30 (Int.toNat b) 0) b) (Int.toNat (G 52 12))) = (fd (g_X8_listOptions_0_54 52 G b f n) (e_X5_regard (gs G 30 (Int.toNat b) 0) b) (Int.toNat (G 52 12))) 52 12 from rfl)
            refine ⟨fun (c16 : (f_X1_clauses 52 (fd (g_X8_listOptions_0_54 52 G b f n) (e_X5_regard (gs G 30 (Int.toNat b) 0) b) (Int.toNat (G 52 12))) ) ≤ (((Int.toNat (G 52 12)) : Nat) : Int)) => ?_, fun (c16 : (((Int.toNat (G 52 12)) : Nat) : Int) < (f_X1_clauses 52 (fd (g_X8_listOptions_0_54 52 G b f n) (e_X5_regard (gs G 30 (Int.toNat b) 0) b) (Int.toNat (G 52 12))) )) => ?_⟩
            · skip
              refine sp_X8_gainOf_0 (by decide) (show ((fd (g_X8_listOptions_0_54 52 G b f n) (e_X5_regard (gs G 30 (Int.toNat b) 0) b) (Int.toNat (G 52 12))) 29 3) = 57 from by (try simp (disch := decide) only [gs_ne, gs_at_ne, fr_X5_regard, frp_X5_regard_24, fr_X8_addOption, fr_X8_suits, hF1, hP1_24]); exact hp) ?_
              refine sp_X8_addOption  (insub (by decide)) ?_
              exact h
            · skip
              exfalso; first | omega | (rw [w32_i (by omega) (by omega)] at c18; omega) | (simp (disch := omega) only [w32_i] at *; omega)
        · rw [if_neg (c5)] at h
          refine sp_X8_addOption  (insub (by decide)) ?_
          exact h
      · rw [if_neg (Int.not_lt.mpr c2)] at h
        exact h
def g_X8_listOptions_1_54 (c : Nat) (G : mG) (b : Int) (f : Int) (n : Int) : Nat → mG → mG := fun j1 s1 => (if (r_X8_suits c s1 ((j1 : Nat) : Int) b f).1 = 0 then (r_X8_suits c s1 ((j1 : Nat) : Int) b f).2 else (e_X8_addOption (r_X8_suits c s1 ((j1 : Nat) : Int) b f).2 b ((j1 : Nat) : Int) (f_X8_gainOf_1 c (r_X8_suits c s1 ((j1 : Nat) : Int) b f).2 ((j1 : Nat) : Int) b f)))
def e_X8_listOptions_1 (c : Nat) (G : mG) (b : Int) (f : Int) (n : Int) : mG := (if b < 0 then G else (if b < 9 then (if (f_X3_isLost (gs G 30 (Int.toNat b) 0) b f n) = 0 then (e_X8_addOption (fd (g_X8_listOptions_1_54 c G b f n) (e_X5_regard (gs G 30 (Int.toNat b) 0) b) (Int.toNat (G c 12))) b (-1) (f_X8_gainOf_1 c (fd (g_X8_listOptions_1_54 c G b f n) (e_X5_regard (gs G 30 (Int.toNat b) 0) b) (Int.toNat (G c 12))) (-1) b f)) else (e_X8_addOption (gs G 30 (Int.toNat b) 0) b (-1) 0)) else G))
theorem fr_g_X8_listOptions_1_54 (c : Nat) (G : mG) (b : Int) (f : Int) (n : Int) {k : Nat} (hk : ∀ a ∈ ([24, 25, 30, 31, 32] : List Nat), k ≠ a) (j : Nat) (s : mG) : (g_X8_listOptions_1_54 c G b f n j s) k = s k := by
  unfold g_X8_listOptions_1_54
  repeat' with_reducible first | apply ite_f | apply ite_f2 | apply ite_p | apply ite_p2
  all_goals first | (simp only [gs_ne (hk (24) (by simp)), gs_ne (hk (25) (by simp)), gs_ne (hk (30) (by simp)), gs_ne (hk (31) (by simp)), gs_ne (hk (32) (by simp)), fr_X5_regard (fun a ha => hk a (by simp only [List.mem_cons, List.not_mem_nil, or_false] at ha ⊢; omega)), fr_X8_addOption (fun a ha => hk a (by simp only [List.mem_cons, List.not_mem_nil, or_false] at ha ⊢; omega)), fr_X8_suits (c := c) (fun a ha => hk a (by simp only [List.mem_cons, List.not_mem_nil, or_false] at ha ⊢; omega))]; done) | rfl
theorem frp_g_X8_listOptions_1_54_24 (c : Nat) (G : mG) (b : Int) (f : Int) (n : Int) (hc : c = 40 ∨ c = 52) {i : Nat} (hj : ∀ a ∈ ([1, 2, 3, 4, 5, 6, 7] : List Nat), i ≠ a) (j : Nat) (s : mG) : (g_X8_listOptions_1_54 c G b f n j s) 24 i = s 24 i := by
  unfold g_X8_listOptions_1_54
  repeat' with_reducible first | apply ite_f | apply ite_f2 | apply ite_p | apply ite_p2
  all_goals first | (simp only [gs_at_ne (hj 1 (by simp)), gs_at_ne (hj 2 (by simp)), gs_at_ne (hj 3 (by simp)), gs_at_ne (hj 4 (by simp)), gs_at_ne (hj 5 (by simp)), gs_at_ne (hj 6 (by simp)), gs_at_ne (hj 7 (by simp)), gs_ne (show (24) ≠ (25) from by omega), gs_ne (show (24) ≠ (30) from by omega), gs_ne (show (24) ≠ (31) from by omega), gs_ne (show (24) ≠ (32) from by omega), frp_X5_regard_24 (fun a ha => hj a (by simp only [List.mem_cons, List.not_mem_nil, or_false] at ha ⊢; omega)), fr_X8_addOption (k := 24) (fun a ha => by simp only [List.mem_cons, List.not_mem_nil, or_false] at ha; omega), fr_X8_suits (c := c) (k := 24) (fun a ha => by simp only [List.mem_cons, List.not_mem_nil, or_false] at ha; omega)]; done) | rfl
theorem frp_X8_listOptions_1_24 {c : Nat} {G : mG} {b : Int} {f : Int} {n : Int} (hc : c = 40 ∨ c = 52) {i : Nat} (hj : ∀ a ∈ ([1, 2, 3, 4, 5, 6, 7] : List Nat), i ≠ a) : (e_X8_listOptions_1 c G b f n) 24 i = G 24 i := by
  unfold e_X8_listOptions_1
  repeat' with_reducible first | apply ite_f | apply ite_f2 | apply ite_p | apply ite_p2
  all_goals first | (simp only [gs_at_ne (hj 1 (by simp)), gs_at_ne (hj 2 (by simp)), gs_at_ne (hj 3 (by simp)), gs_at_ne (hj 4 (by simp)), gs_at_ne (hj 5 (by simp)), gs_at_ne (hj 6 (by simp)), gs_at_ne (hj 7 (by simp)), gs_ne (show (24) ≠ (25) from by omega), gs_ne (show (24) ≠ (30) from by omega), gs_ne (show (24) ≠ (31) from by omega), gs_ne (show (24) ≠ (32) from by omega), frp_X5_regard_24 (fun a ha => hj a (by simp only [List.mem_cons, List.not_mem_nil, or_false] at ha ⊢; omega)), fr_X8_addOption (k := 24) (fun a ha => by simp only [List.mem_cons, List.not_mem_nil, or_false] at ha; omega), fr_X8_suits (c := c) (k := 24) (fun a ha => by simp only [List.mem_cons, List.not_mem_nil, or_false] at ha; omega), fd_frp (frp_g_X8_listOptions_1_54_24 _ _ _ _ _ hc hj)]; done) | rfl
theorem fr_X8_listOptions_1 {c : Nat} {G : mG} {b : Int} {f : Int} {n : Int} {k : Nat} (hk : ∀ a ∈ ([24, 25, 30, 31, 32] : List Nat), k ≠ a) : (e_X8_listOptions_1 c G b f n) k = G k := by
  unfold e_X8_listOptions_1
  repeat' with_reducible first | apply ite_f | apply ite_f2 | apply ite_p | apply ite_p2
  all_goals first | (simp only [gs_ne (hk (24) (by simp)), gs_ne (hk (25) (by simp)), gs_ne (hk (30) (by simp)), gs_ne (hk (31) (by simp)), gs_ne (hk (32) (by simp)), fr_X5_regard (fun a ha => hk a (by simp only [List.mem_cons, List.not_mem_nil, or_false] at ha ⊢; omega)), fr_X8_addOption (fun a ha => hk a (by simp only [List.mem_cons, List.not_mem_nil, or_false] at ha ⊢; omega)), fr_X8_suits (c := c) (fun a ha => hk a (by simp only [List.mem_cons, List.not_mem_nil, or_false] at ha ⊢; omega)), fd_fr (fr_g_X8_listOptions_1_54 _ _ _ _ _ hk)]; done) | rfl
set_option maxHeartbeats 8000000 in
theorem sp_X8_listOptions_1 {D : Nat → Bool} {d : Nat} {c : Nat} {G : mG} {b : Int} {f : Int} {n : Int} {Q : Option mV → mG → Prop} (hc : c = 40 ∨ c = 52) (hp : G 29 3 = ((c + 5 : Nat) : Int)) (h12 : G c 12 ≤ 40) (ha : cB c G) (hk : 0 ≤ n ∧ n ≤ G 8 4) (hs : G 8 4 ≤ 300) (hD : ∀ k, D k = false → inN [24, 25, 30, 31, 32] k = false) (h : Q none (e_X8_listOptions_1 c G b f n)) : P2 D (d + 6) M_X8_listOptions [mR 34, mI b, mI f, mI n, mR 26] G Q := by
  rcases hc with rfl | rfl
  · skip
    unfold e_X8_listOptions_1 at h
    try simp only [Nat.reduceAdd, Nat.reduceSub] at h
    have hp : G 29 3 = 45 := hp
    refine MP.to (D2 := inN [24, 25, 30, 31, 32]) (Q2 := Q) ?_ hD (fun v G' q _ => q)
    refine (show P2 (inN [24, 25, 30, 31, 32]) (d + 6) M_X8_listOptions [mR 34, mI b, mI f, mI n, mR 26] G Q from ?_)
    refine p2_vc [18, 54, 60] 400 oo_X8 q_X8_listOptions (by decide) rfl (Nat.le_of_ble_eq_true rfl) ?_
    refine ⟨fun (c1 : b < 0) => ?_, fun (c1 : 0 ≤ b) => ?_⟩
    · rw [if_pos c1] at h
      exact h
    · rw [if_neg (Int.not_lt.mpr c1)] at h
      refine ⟨fun (c2 : b < 9) => ?_, fun (c2 : 9 ≤ b) => ?_⟩
      · rw [if_pos c2] at h
        refine ⟨(show 0 ≤ b ∧ b < ((9 : Nat) : Int) from by first | omega | (simp (disch := omega) only [w32_i]; omega)), ?_⟩
        refine (show W2 o_X8 M_X8_listOptions (inN [24, 25, 30, 31, 32]) (d + 6) Q 18 [some (mR 34), some (mI b), some (mI f), some (mI n), some (mR 26), none] [] (gs G 30 (Int.toNat b) 0) from ?_)
        refine w2_vc [18, 54, 60] 400 oo_X8 q_X8_listOptions ?_
        refine sp_X3_isLost (by (try simp (disch := decide) only [gs_ne, gs_at_ne]); exact hk) (by (try simp (disch := decide) only [gs_ne, gs_at_ne]); exact hs) ?_
        have c4 := fa_X3_isLost (gs G 30 (Int.toNat b) 0) b f n
        refine ⟨fun (c5 : (f_X3_isLost (gs G 30 (Int.toNat b) 0) b f n) = 0) => ?_, fun (c5 : ¬ (f_X3_isLost (gs G 30 (Int.toNat b) 0) b f n) = 0) => ?_⟩
        · rw [if_pos c5] at h
          refine sp_X5_regard  (insub (by decide)) ?_
          refine (show W2 o_X8 M_X8_listOptions (inN [24, 25, 30, 31, 32]) (d + 6) Q 54 [some (mR 34), some (mI b), some (mI f), some (mI n), some (mR 26), some (mI ((0 : Nat) : Int))] [] (e_X5_regard (gs G 30 (Int.toNat b) 0) b) from ?_)
          refine lupI (g_X8_listOptions_1_54 40 G b f n) (e_X5_regard (gs G 30 (Int.toNat b) 0) b) (fun j1 s1 => W2 o_X8 M_X8_listOptions (inN [24, 25, 30, 31, 32]) (d + 6) Q 54 [some (mR 34), some (mI b), some (mI f), some (mI n), some (mR 26), some (mI ((j1 : Nat) : Int))] [] s1) (fun (_ : Nat) s => (∀ k, (∀ a ∈ ([24, 25, 30, 31, 32] : List Nat), k ≠ a) → s k = (e_X5_regard (gs G 30 (Int.toNat b) 0) b) k) ∧ (∀ i, (∀ a ∈ ([1, 2, 3, 4, 5, 6, 7] : List Nat), i ≠ a) → s 24 i = (e_X5_regard (gs G 30 (Int.toNat b) 0) b) 24 i)) (Int.toNat (G 40 12)) ⟨⟨fun _ _ => rfl, fun _ _ => rfl⟩, fun j s _ hI => ⟨fun k hk => by rw [← hI.1 k hk]; exact fr_g_X8_listOptions_1_54 40 G b f n hk j s, fun i hi => by rw [← hI.2 i hi]; exact frp_g_X8_listOptions_1_54_24 40 G b f n (by decide) hi j s⟩⟩ (fun j1 s1 hj1 hI1 ih1 => ?_) (fun hI1 => ?_)
          · have ih1 : W2 o_X8 M_X8_listOptions (inN [24, 25, 30, 31, 32]) (d + 6) Q 54 [some (mR 34), some (mI b), some (mI f), some (mI n), some (mR 26), some (mI ((j1 + 1 : Nat) : Int))] [] (g_X8_listOptions_1_54 40 G b f n j1 s1) := ih1
            unfold g_X8_listOptions_1_54 at ih1
            try simp only [Nat.reduceAdd, Nat.reduceSub] at ih1
            have hF1 := hI1.1
            have hP1_24 := hI1.2
            have hI1c : s1 40 12 = G 40 12 := by simp (disch := decide) only [hF1, gs_ne, fr_X5_regard]
            refine w2_vc [18, 54, 60] 400 oo_X8 q_X8_listOptions ?_
            refine (show W2 o_X8 M_X8_listOptions (inN [24, 25, 30, 31, 32]) (d + 6) Q 60 [some (mR 34), some (mI b), some (mI f), some (mI n), some (mR 26), some (mI ((j1 : Nat) : Int))] [mR (Int.toNat (s1 29 3)), mI ((j1 : Nat) : Int)] s1 from ?_)
            rw [show (s1 29 3) = 45 from by (try simp (disch := decide) only [gs_ne, gs_at_ne, fr_X5_regard, frp_X5_regard_24, hF1, hP1_24]); exact hp]
            refine (show W2 o_X8 M_X8_listOptions (inN [24, 25, 30, 31, 32]) (d + 6) Q 60 [some (mR 34), some (mI b), some (mI f), some (mI n), some (mR 26), some (mI ((j1 : Nat) : Int))] [mR 45, mI ((j1 : Nat) : Int)] s1 from ?_)
            refine w2_vc [18, 54, 60] 400 oo_X8 q_X8_listOptions ?_
            refine sp_X1_clauses (by decide) ?_
            have c8 := (show f_X1_clauses 40 s1 = s1 40 12 from rfl)
            refine ⟨fun (c9 : (f_X1_clauses 40 s1 ) ≤ ((j1 : Nat) : Int)) => ?_, fun (c9 : ((j1 : Nat) : Int) < (f_X1_clauses 40 s1 )) => ?_⟩
            · skip
              exfalso; first | omega | (rw [w32_i (by omega) (by omega)] at c9; omega) | (simp (disch := omega) only [w32_i] at *; omega)
            · skip
              refine sp_X8_suits (by decide) (show (s1 29 3) = 45 from by (try simp (disch := decide) only [gs_ne, gs_at_ne, fr_X5_regard, frp_X5_regard_24, hF1, hP1_24]); exact hp) (by (try simp (disch := decide) only [gs_ne, gs_at_ne, fr_X5_regard, frp_X5_regard_24, hF1, hP1_24]); exact h12) (cB_to ha (show s1 40 = G 40 from by simp (disch := decide) only [gs_ne, gs_at_ne, fr_X5_regard, frp_X5_regard_24, hF1, hP1_24]) (show s1 49 = G 49 from by simp (disch := decide) only [gs_ne, gs_at_ne, fr_X5_regard, frp_X5_regard_24, hF1, hP1_24]) (show s1 50 = G 50 from by simp (disch := decide) only [gs_ne, gs_at_ne, fr_X5_regard, frp_X5_regard_24, hF1, hP1_24])) (insub (by decide)) ?_
              refine ⟨fun (c11 : (r_X8_suits 40 s1 ((j1 : Nat) : Int) b f).1 = 0) => ?_, fun (c11 : ¬ (r_X8_suits 40 s1 ((j1 : Nat) : Int) b f).1 = 0) => ?_⟩
              · rw [if_pos c11] at ih1
                refine (show W2 o_X8 M_X8_listOptions (inN [24, 25, 30, 31, 32]) (d + 6) Q 54 [some (mR 34), some (mI b), some (mI f), some (mI n), some (mR 26), some (mI (w32 (((j1 : Nat) : Int) + 1)))] [] (r_X8_suits 40 s1 ((j1 : Nat) : Int) b f).2 from ?_)
                rw [w32_nat (by omega)]
                exact ih1
              · rw [if_neg (c11)] at ih1
                refine sp_X8_gainOf_1 (by decide) (show ((r_X8_suits 40 s1 ((j1 : Nat) : Int) b f).2 29 3) = 45 from by (try simp (disch := decide) only [gs_ne, gs_at_ne, fr_X5_regard, frp_X5_regard_24, fr_X8_suits, hF1, hP1_24]); exact hp) ?_
                refine sp_X8_addOption  (insub (by decide)) ?_
                refine (show W2 o_X8 M_X8_listOptions (inN [24, 25, 30, 31, 32]) (d + 6) Q 54 [some (mR 34), some (mI b), some (mI f), some (mI n), some (mR 26), some (mI (w32 (((j1 : Nat) : Int) + 1)))] [] (e_X8_addOption (r_X8_suits 40 s1 ((j1 : Nat) : Int) b f).2 b ((j1 : Nat) : Int) (f_X8_gainOf_1 40 (r_X8_suits 40 s1 ((j1 : Nat) : Int) b f).2 ((j1 : Nat) : Int) b f)) from ?_)
                rw [w32_nat (by omega)]
                exact ih1
          · skip
            refine (show W2 o_X8 M_X8_listOptions (inN [24, 25, 30, 31, 32]) (d + 6) Q 54 [some (mR 34), some (mI b), some (mI f), some (mI n), some (mR 26), some (mI (((Int.toNat (G 40 12)) : Nat) : Int))] [] (fd (g_X8_listOptions_1_54 40 G b f n) (e_X5_regard (gs G 30 (Int.toNat b) 0) b) (Int.toNat (G 40 12))) from ?_)
            have hF1 := hI1.1
            have hP1_24 := hI1.2
            have hI1c : (fd (g_X8_listOptions_1_54 40 G b f n) (e_X5_regard (gs G 30 (Int.toNat b) 0) b) (Int.toNat (G 40 12))) 40 12 = G 40 12 := by simp (disch := decide) only [hF1, gs_ne, fr_X5_regard]
            refine w2_vc [18, 54, 60] 400 oo_X8 q_X8_listOptions ?_
            refine (show W2 o_X8 M_X8_listOptions (inN [24, 25, 30, 31, 32]) (d + 6) Q 60 [some (mR 34), some (mI b), some (mI f), some (mI n), some (mR 26), some (mI (((Int.toNat (G 40 12)) : Nat) : Int))] [mR (Int.toNat ((fd (g_X8_listOptions_1_54 40 G b f n) (e_X5_regard (gs G 30 (Int.toNat b) 0) b) (Int.toNat (G 40 12))) 29 3)), mI (((Int.toNat (G 40 12)) : Nat) : Int)] (fd (g_X8_listOptions_1_54 40 G b f n) (e_X5_regard (gs G 30 (Int.toNat b) 0) b) (Int.toNat (G 40 12))) from ?_)
            rw [show ((fd (g_X8_listOptions_1_54 40 G b f n) (e_X5_regard (gs G 30 (Int.toNat b) 0) b) (Int.toNat (G 40 12))) 29 3) = 45 from by (try simp (disch := decide) only [gs_ne, gs_at_ne, fr_X5_regard, frp_X5_regard_24, fr_X8_addOption, fr_X8_suits, hF1, hP1_24]); exact hp]
            refine (show W2 o_X8 M_X8_listOptions (inN [24, 25, 30, 31, 32]) (d + 6) Q 60 [some (mR 34), some (mI b), some (mI f), some (mI n), some (mR 26), some (mI (((Int.toNat (G 40 12)) : Nat) : Int))] [mR 45, mI (((Int.toNat (G 40 12)) : Nat) : Int)] (fd (g_X8_listOptions_1_54 40 G b f n) (e_X5_regard (gs G 30 (Int.toNat b) 0) b) (Int.toNat (G 40 12))) from ?_)
            refine w2_vc [18, 54, 60] 400 oo_X8 q_X8_listOptions ?_
            refine sp_X1_clauses (by decide) ?_
            have c15 := (show f_X1_clauses 40 (fd (g_X8_listOptions_1_54 40 G b f n) (e_X5_regard (gs G 30 (Int.toNat b) 0) b) (Int.toNat (G 40 12))) = (fd (g_X8_listOptions_1_54 40 G b f n) (e_X5_regard (gs G 30 (Int.toNat b) 0) b) (Int.toNat (G 40 12))) 40 12 from rfl)
            refine ⟨fun (c16 : (f_X1_clauses 40 (fd (g_X8_listOptions_1_54 40 G b f n) (e_X5_regard (gs G 30 (Int.toNat b) 0) b) (Int.toNat (G 40 12))) ) ≤ (((Int.toNat (G 40 12)) : Nat) : Int)) => ?_, fun (c16 : (((Int.toNat (G 40 12)) : Nat) : Int) < (f_X1_clauses 40 (fd (g_X8_listOptions_1_54 40 G b f n) (e_X5_regard (gs G 30 (Int.toNat b) 0) b) (Int.toNat (G 40 12))) )) => ?_⟩
            · skip
              refine sp_X8_gainOf_1 (by decide) (show ((fd (g_X8_listOptions_1_54 40 G b f n) (e_X5_regard (gs G 30 (Int.toNat b) 0) b) (Int.toNat (G 40 12))) 29 3) = 45 from by (try simp (disch := decide) only [gs_ne, gs_at_ne, fr_X5_regard, frp_X5_regard_24, fr_X8_addOption, fr_X8_suits, hF1, hP1_24]); exact hp) ?_
              refine sp_X8_addOption  (insub (by decide)) ?_
              exact h
            · skip
              exfalso; first | omega | (rw [w32_i (by omega) (by omega)] at c18; omega) | (simp (disch := omega) only [w32_i] at *; omega)
        · rw [if_neg (c5)] at h
          refine sp_X8_addOption  (insub (by decide)) ?_
          exact h
      · rw [if_neg (Int.not_lt.mpr c2)] at h
        exact h
  · skip
    unfold e_X8_listOptions_1 at h
    try simp only [Nat.reduceAdd, Nat.reduceSub] at h
    have hp : G 29 3 = 57 := hp
    refine MP.to (D2 := inN [24, 25, 30, 31, 32]) (Q2 := Q) ?_ hD (fun v G' q _ => q)
    refine (show P2 (inN [24, 25, 30, 31, 32]) (d + 6) M_X8_listOptions [mR 34, mI b, mI f, mI n, mR 26] G Q from ?_)
    refine p2_vc [18, 54, 60] 400 oo_X8 q_X8_listOptions (by decide) rfl (Nat.le_of_ble_eq_true rfl) ?_
    refine ⟨fun (c1 : b < 0) => ?_, fun (c1 : 0 ≤ b) => ?_⟩
    · rw [if_pos c1] at h
      exact h
    · rw [if_neg (Int.not_lt.mpr c1)] at h
      refine ⟨fun (c2 : b < 9) => ?_, fun (c2 : 9 ≤ b) => ?_⟩
      · rw [if_pos c2] at h
        refine ⟨(show 0 ≤ b ∧ b < ((9 : Nat) : Int) from by first | omega | (simp (disch := omega) only [w32_i]; omega)), ?_⟩
        refine (show W2 o_X8 M_X8_listOptions (inN [24, 25, 30, 31, 32]) (d + 6) Q 18 [some (mR 34), some (mI b), some (mI f), some (mI n), some (mR 26), none] [] (gs G 30 (Int.toNat b) 0) from ?_)
        refine w2_vc [18, 54, 60] 400 oo_X8 q_X8_listOptions ?_
        refine sp_X3_isLost (by (try simp (disch := decide) only [gs_ne, gs_at_ne]); exact hk) (by (try simp (disch := decide) only [gs_ne, gs_at_ne]); exact hs) ?_
        have c4 := fa_X3_isLost (gs G 30 (Int.toNat b) 0) b f n
        refine ⟨fun (c5 : (f_X3_isLost (gs G 30 (Int.toNat b) 0) b f n) = 0) => ?_, fun (c5 : ¬ (f_X3_isLost (gs G 30 (Int.toNat b) 0) b f n) = 0) => ?_⟩
        · rw [if_pos c5] at h
          refine sp_X5_regard  (insub (by decide)) ?_
          refine (show W2 o_X8 M_X8_listOptions (inN [24, 25, 30, 31, 32]) (d + 6) Q 54 [some (mR 34), some (mI b), some (mI f), some (mI n), some (mR 26), some (mI ((0 : Nat) : Int))] [] (e_X5_regard (gs G 30 (Int.toNat b) 0) b) from ?_)
          refine lupI (g_X8_listOptions_1_54 52 G b f n) (e_X5_regard (gs G 30 (Int.toNat b) 0) b) (fun j1 s1 => W2 o_X8 M_X8_listOptions (inN [24, 25, 30, 31, 32]) (d + 6) Q 54 [some (mR 34), some (mI b), some (mI f), some (mI n), some (mR 26), some (mI ((j1 : Nat) : Int))] [] s1) (fun (_ : Nat) s => (∀ k, (∀ a ∈ ([24, 25, 30, 31, 32] : List Nat), k ≠ a) → s k = (e_X5_regard (gs G 30 (Int.toNat b) 0) b) k) ∧ (∀ i, (∀ a ∈ ([1, 2, 3, 4, 5, 6, 7] : List Nat), i ≠ a) → s 24 i = (e_X5_regard (gs G 30 (Int.toNat b) 0) b) 24 i)) (Int.toNat (G 52 12)) ⟨⟨fun _ _ => rfl, fun _ _ => rfl⟩, fun j s _ hI => ⟨fun k hk => by rw [← hI.1 k hk]; exact fr_g_X8_listOptions_1_54 52 G b f n hk j s, fun i hi => by rw [← hI.2 i hi]; exact frp_g_X8_listOptions_1_54_24 52 G b f n (by decide) hi j s⟩⟩ (fun j1 s1 hj1 hI1 ih1 => ?_) (fun hI1 => ?_)
          · have ih1 : W2 o_X8 M_X8_listOptions (inN [24, 25, 30, 31, 32]) (d + 6) Q 54 [some (mR 34), some (mI b), some (mI f), some (mI n), some (mR 26), some (mI ((j1 + 1 : Nat) : Int))] [] (g_X8_listOptions_1_54 52 G b f n j1 s1) := ih1
            unfold g_X8_listOptions_1_54 at ih1
            try simp only [Nat.reduceAdd, Nat.reduceSub] at ih1
            have hF1 := hI1.1
            have hP1_24 := hI1.2
            have hI1c : s1 52 12 = G 52 12 := by simp (disch := decide) only [hF1, gs_ne, fr_X5_regard]
            refine w2_vc [18, 54, 60] 400 oo_X8 q_X8_listOptions ?_
            refine (show W2 o_X8 M_X8_listOptions (inN [24, 25, 30, 31, 32]) (d + 6) Q 60 [some (mR 34), some (mI b), some (mI f), some (mI n), some (mR 26), some (mI ((j1 : Nat) : Int))] [mR (Int.toNat (s1 29 3)), mI ((j1 : Nat) : Int)] s1 from ?_)
            rw [show (s1 29 3) = 57 from by (try simp (disch := decide) only [gs_ne, gs_at_ne, fr_X5_regard, frp_X5_regard_24, hF1, hP1_24]); exact hp]
            refine (show W2 o_X8 M_X8_listOptions (inN [24, 25, 30, 31, 32]) (d + 6) Q 60 [some (mR 34), some (mI b), some (mI f), some (mI n), some (mR 26), some (mI ((j1 : Nat) : Int))] [mR 57, mI ((j1 : Nat) : Int)] s1 from ?_)
            refine w2_vc [18, 54, 60] 400 oo_X8 q_X8_listOptions ?_
            refine sp_X1_clauses (by decide) ?_
            have c8 := (show f_X1_clauses 52 s1 = s1 52 12 from rfl)
            refine ⟨fun (c9 : (f_X1_clauses 52 s1 ) ≤ ((j1 : Nat) : Int)) => ?_, fun (c9 : ((j1 : Nat) : Int) < (f_X1_clauses 52 s1 )) => ?_⟩
            · skip
              exfalso; first | omega | (rw [w32_i (by omega) (by omega)] at c9; omega) | (simp (disch := omega) only [w32_i] at *; omega)
            · skip
              refine sp_X8_suits (by decide) (show (s1 29 3) = 57 from by (try simp (disch := decide) only [gs_ne, gs_at_ne, fr_X5_regard, frp_X5_regard_24, hF1, hP1_24]); exact hp) (by (try simp (disch := decide) only [gs_ne, gs_at_ne, fr_X5_regard, frp_X5_regard_24, hF1, hP1_24]); exact h12) (cB_to ha (show s1 52 = G 52 from by simp (disch := decide) only [gs_ne, gs_at_ne, fr_X5_regard, frp_X5_regard_24, hF1, hP1_24]) (show s1 61 = G 61 from by simp (disch := decide) only [gs_ne, gs_at_ne, fr_X5_regard, frp_X5_regard_24, hF1, hP1_24]) (show s1 62 = G 62 from by simp (disch := decide) only [gs_ne, gs_at_ne, fr_X5_regard, frp_X5_regard_24, hF1, hP1_24])) (insub (by decide)) ?_
              refine ⟨fun (c11 : (r_X8_suits 52 s1 ((j1 : Nat) : Int) b f).1 = 0) => ?_, fun (c11 : ¬ (r_X8_suits 52 s1 ((j1 : Nat) : Int) b f).1 = 0) => ?_⟩
              · rw [if_pos c11] at ih1
                refine (show W2 o_X8 M_X8_listOptions (inN [24, 25, 30, 31, 32]) (d + 6) Q 54 [some (mR 34), some (mI b), some (mI f), some (mI n), some (mR 26), some (mI (w32 (((j1 : Nat) : Int) + 1)))] [] (r_X8_suits 52 s1 ((j1 : Nat) : Int) b f).2 from ?_)
                rw [w32_nat (by omega)]
                exact ih1
              · rw [if_neg (c11)] at ih1
                refine sp_X8_gainOf_1 (by decide) (show ((r_X8_suits 52 s1 ((j1 : Nat) : Int) b f).2 29 3) = 57 from by (try simp (disch := decide) only [gs_ne, gs_at_ne, fr_X5_regard, frp_X5_regard_24, fr_X8_suits, hF1, hP1_24]); exact hp) ?_
                refine sp_X8_addOption  (insub (by decide)) ?_
                refine (show W2 o_X8 M_X8_listOptions (inN [24, 25, 30, 31, 32]) (d + 6) Q 54 [some (mR 34), some (mI b), some (mI f), some (mI n), some (mR 26), some (mI (w32 (((j1 : Nat) : Int) + 1)))] [] (e_X8_addOption (r_X8_suits 52 s1 ((j1 : Nat) : Int) b f).2 b ((j1 : Nat) : Int) (f_X8_gainOf_1 52 (r_X8_suits 52 s1 ((j1 : Nat) : Int) b f).2 ((j1 : Nat) : Int) b f)) from ?_)
                rw [w32_nat (by omega)]
                exact ih1
          · skip
            refine (show W2 o_X8 M_X8_listOptions (inN [24, 25, 30, 31, 32]) (d + 6) Q 54 [some (mR 34), some (mI b), some (mI f), some (mI n), some (mR 26), some (mI (((Int.toNat (G 52 12)) : Nat) : Int))] [] (fd (g_X8_listOptions_1_54 52 G b f n) (e_X5_regard (gs G 30 (Int.toNat b) 0) b) (Int.toNat (G 52 12))) from ?_)
            have hF1 := hI1.1
            have hP1_24 := hI1.2
            have hI1c : (fd (g_X8_listOptions_1_54 52 G b f n) (e_X5_regard (gs G 30 (Int.toNat b) 0) b) (Int.toNat (G 52 12))) 52 12 = G 52 12 := by simp (disch := decide) only [hF1, gs_ne, fr_X5_regard]
            refine w2_vc [18, 54, 60] 400 oo_X8 q_X8_listOptions ?_
            refine (show W2 o_X8 M_X8_listOptions (inN [24, 25, 30, 31, 32]) (d + 6) Q 60 [some (mR 34), some (mI b), some (mI f), some (mI n), some (mR 26), some (mI (((Int.toNat (G 52 12)) : Nat) : Int))] [mR (Int.toNat ((fd (g_X8_listOptions_1_54 52 G b f n) (e_X5_regard (gs G 30 (Int.toNat b) 0) b) (Int.toNat (G 52 12))) 29 3)), mI (((Int.toNat (G 52 12)) : Nat) : Int)] (fd (g_X8_listOptions_1_54 52 G b f n) (e_X5_regard (gs G 30 (Int.toNat b) 0) b) (Int.toNat (G 52 12))) from ?_)
            rw [show ((fd (g_X8_listOptions_1_54 52 G b f n) (e_X5_regard (gs G 30 (Int.toNat b) 0) b) (Int.toNat (G 52 12))) 29 3) = 57 from by (try simp (disch := decide) only [gs_ne, gs_at_ne, fr_X5_regard, frp_X5_regard_24, fr_X8_addOption, fr_X8_suits, hF1, hP1_24]); exact hp]
            refine (show W2 o_X8 M_X8_listOptions (inN [24, 25, 30, 31, 32]) (d + 6) Q 60 [some (mR 34), some (mI b), some (mI f), some (mI n), some (mR 26), some (mI (((Int.toNat (G 52 12)) : Nat) : Int))] [mR 57, mI (((Int.toNat (G 52 12)) : Nat) : Int)] (fd (g_X8_listOptions_1_54 52 G b f n) (e_X5_regard (gs G 30 (Int.toNat b) 0) b) (Int.toNat (G 52 12))) from ?_)
            refine w2_vc [18, 54, 60] 400 oo_X8 q_X8_listOptions ?_
            refine sp_X1_clauses (by decide) ?_
            have c15 := (show f_X1_clauses 52 (fd (g_X8_listOptions_1_54 52 G b f n) (e_X5_regard (gs G 30 (Int.toNat b) 0) b) (Int.toNat (G 52 12))) = (fd (g_X8_listOptions_1_54 52 G b f n) (e_X5_regard (gs G 30 (Int.toNat b) 0) b) (Int.toNat (G 52 12))) 52 12 from rfl)
            refine ⟨fun (c16 : (f_X1_clauses 52 (fd (g_X8_listOptions_1_54 52 G b f n) (e_X5_regard (gs G 30 (Int.toNat b) 0) b) (Int.toNat (G 52 12))) ) ≤ (((Int.toNat (G 52 12)) : Nat) : Int)) => ?_, fun (c16 : (((Int.toNat (G 52 12)) : Nat) : Int) < (f_X1_clauses 52 (fd (g_X8_listOptions_1_54 52 G b f n) (e_X5_regard (gs G 30 (Int.toNat b) 0) b) (Int.toNat (G 52 12))) )) => ?_⟩
            · skip
              refine sp_X8_gainOf_1 (by decide) (show ((fd (g_X8_listOptions_1_54 52 G b f n) (e_X5_regard (gs G 30 (Int.toNat b) 0) b) (Int.toNat (G 52 12))) 29 3) = 57 from by (try simp (disch := decide) only [gs_ne, gs_at_ne, fr_X5_regard, frp_X5_regard_24, fr_X8_addOption, fr_X8_suits, hF1, hP1_24]); exact hp) ?_
              refine sp_X8_addOption  (insub (by decide)) ?_
              exact h
            · skip
              exfalso; first | omega | (rw [w32_i (by omega) (by omega)] at c18; omega) | (simp (disch := omega) only [w32_i] at *; omega)
        · rw [if_neg (c5)] at h
          refine sp_X8_addOption  (insub (by decide)) ?_
          exact h
      · rw [if_neg (Int.not_lt.mpr c2)] at h
        exact h
