/-! ===== what holds along the class's parse ===== -/
theorem ite_P {p : Prop} [Decidable p] {α : Type} {a b : α} {P : α → Prop} (h1 : P a) (h2 : P b) : P (if p then a else b) := by
  by_cases h : p
  · rw [if_pos h]; exact h1
  · rw [if_neg h]; exact h2
theorem brk_P {α : Type} {g : Nat → α → α ⊕ α} {a : α} {n : Nat} {I : α → Prop} (h0 : I a) (hg : ∀ j s, I s → I (brk (g j s))) : I (brk (fe g a n)) := by
  induction n with
  | zero => exact h0
  | succ n ih =>
    rw [fe_s]
    cases h : fe g a n with
    | inl s => rw [h] at ih; exact hg n s ih
    | inr s => rw [h] at ih; exact ih
section KEEP
variable {c : Nat} {s z : mG} {x y : Int}
theorem pI_to (h : pI c s) (h9 : z 15 9 = s 15 9) (h11 : 0 ≤ z c 11 ∧ z c 11 ≤ 8) (h12 : z c 12 ≤ 40) (h5 : 0 ≤ z 15 5 ∧ z 15 5 ≤ 35) : pI c z := ⟨by rw [h9]; exact h.1, h11, h12, h5⟩
/-- cell 15 and cell c were not written -/
theorem pI_fr (h : pI c s) (h15 : z 15 = s 15) (hcc : z c = s c) : pI c z := by
  unfold pI
  rw [h15, hcc]
  exact h
theorem pI_blame (hc : c = 40 ∨ c = 52) (h : pI c s) : pI c (e_X7_blameIf s x y) := by
  have e : (e_X7_blameIf s x y) c = s c := fr_X7_blameIf (fun a ha => by simp only [List.mem_cons, List.not_mem_nil, or_false] at ha; omega)
  unfold pI
  rw [e, frp_X7_blameIf_15 (by decide), frp_X7_blameIf_15 (by decide)]
  exact h
theorem pI_code (hc : c = 40 ∨ c = 52) (h : pI c s) : pI c (e_X1_addCode c s x y) := by
  have e : (e_X1_addCode c s x y) 15 = s 15 := fr_X1_addCode (fun a ha => by simp only [List.mem_cons, List.not_mem_nil, or_false] at ha; omega)
  unfold pI
  rw [e, frp_X1_addCode_c hc (by decide), frp_X1_addCode_c hc (by decide)]
  exact h
theorem pI_hold (hc : c = 40 ∨ c = 52) (h : pI c s) : pI c (e_X7_hold s x) := by
  have e : (e_X7_hold s x) c = s c := fr_X7_hold (fun a ha => by simp only [List.mem_cons, List.not_mem_nil, or_false] at ha; omega)
  refine pI_to h (frp_X7_hold_15 (by decide)) (by rw [e]; exact h.2.1) (by rw [e]; exact h.2.2.1) ?_
  have h5 := h.2.2.2
  unfold e_X7_hold
  by_cases z1 : s 15 5 < 0
  · omega
  · rw [if_neg z1]
    by_cases z2 : ((35 : Nat) : Int) ≤ s 15 5
    · rw [if_pos z2]; exact h5
    · rw [if_neg z2, gs_at, w32_i (by omega) (by omega)]; omega
theorem pI_release (hc : c = 40 ∨ c = 52) (h : pI c s) : pI c (e_X7_release c s x) := by
  unfold e_X7_release
  refine brk_P (I := pI c) h (fun j z hz => ?_)
  unfold g_X7_release_7
  have h5 := h.2.2.2
  by_cases z1 : (w32 (s 15 5 - 1)) - ((j : Nat) : Int) < 0
  · rw [if_pos z1]; exact hz
  · rw [if_neg z1]
    by_cases z2 : ((35 : Nat) : Int) ≤ (w32 (s 15 5 - 1)) - ((j : Nat) : Int)
    · rw [if_pos z2]; exact hz
    · rw [if_neg z2]
      refine ite_P (P := fun q => pI c (brk q)) ?_ hz
      have hk := pI_code (x := z 19 (Int.toNat ((w32 (s 15 5 - 1)) - ((j : Nat) : Int)))) (y := 0) hc hz
      show pI c (gs (e_X1_addCode c z (z 19 (Int.toNat ((w32 (s 15 5 - 1)) - ((j : Nat) : Int)))) 0) 15 5 ((w32 (s 15 5 - 1)) - ((j : Nat) : Int)))
      generalize e_X1_addCode c z (z 19 (Int.toNat ((w32 (s 15 5 - 1)) - ((j : Nat) : Int)))) 0 = A at *
      generalize (w32 (s 15 5 - 1)) - ((j : Nat) : Int) = v at *
      refine pI_to hk (gs_at_ne (by decide)) (by rw [gs_ne (by omega)]; exact hk.2.1) (by rw [gs_ne (by omega)]; exact hk.2.2.1) (by rw [gs_at]; omega)
theorem pI_15 (hc : c = 40 ∨ c = 52) (h : pI c s) {i : Nat} {v : Int} (h5 : i ≠ 5) (h9 : i ≠ 9) : pI c (gs s 15 i v) :=
  pI_to h (gs_at_ne (fun q => h9 q.symm)) (by rw [gs_ne (by omega)]; exact h.2.1) (by rw [gs_ne (by omega)]; exact h.2.2.1) (by rw [gs_at_ne (fun q => h5 q.symm)]; exact h.2.2.2)
theorem pI_pop (hc : c = 40 ∨ c = 52) (h : pI c s) : pI c (gs s 15 5 (mMax 0 (w32 ((s 15 5) - 1)))) := by
  have h5 := h.2.2.2
  refine pI_to h (gs_at_ne (by decide)) (by rw [gs_ne (by omega)]; exact h.2.1) (by rw [gs_ne (by omega)]; exact h.2.2.1) ?_
  rw [gs_at, w32_i (by omega) (by omega)]
  unfold mMax
  by_cases z1 : (0 : Int) < s 15 5 - 1
  · rw [if_pos z1]; omega
  · rw [if_neg z1]; omega
theorem pI_behind (hc : c = 40 ∨ c = 52) (h : pI c s) : pI c (e_X7_noteBehind c s x) := by
  have hr := pI_release (x := mMax (f_X6_rankOf s x) 1) hc h
  unfold e_X7_noteBehind
  generalize e_X7_release c s (mMax (f_X6_rankOf s x) 1) = R at *
  have hh := pI_hold (x := x) hc hr
  have hp := pI_pop hc hr
  repeat' with_reducible apply ite_P
  all_goals first | exact hr | exact hh | exact pI_15 hc hr (by decide) (by decide) | exact pI_15 hc hh (by decide) (by decide) | exact pI_15 hc hp (by decide) (by decide) | exact pI_15 hc (pI_15 hc hp (by decide) (by decide)) (by decide) (by decide)
theorem pI_unit (hc : c = 40 ∨ c = 52) (h : pI c s) : pI c (e_X7_noteUnit c s x y) := by
  unfold e_X7_noteUnit
  repeat' with_reducible apply ite_P
  all_goals first | exact h | exact pI_code hc h | exact pI_15 hc (pI_hold hc h) (by decide) (by decide)
theorem pI_camp (hc : c = 40 ∨ c = 52) (h : pI c s) : pI c (r_X1_addCampaign c s).2 := by
  have e : (r_X1_addCampaign c s).2 15 = s 15 := fr_X1_addCampaign (fun a ha => by simp only [List.mem_cons, List.not_mem_nil, or_false] at ha; omega)
  refine pI_to h (by rw [e]) ?_ (by rw [frp_X1_addCampaign_c hc (by decide)]; exact h.2.2.1) (by rw [e]; exact h.2.2.2)
  have h11 := h.2.1
  unfold r_X1_addCampaign
  by_cases z1 : s c 11 < 0
  · omega
  · rw [if_neg z1]
    by_cases z2 : s c 11 < 8
    · rw [if_pos z2]
      show 0 ≤ (gs (gs (gs s (c + 1) (Int.toNat (s c 11)) 0) (c + 2) (Int.toNat (s c 11)) 0) c 11 (w32 (s c 11 + 1))) c 11 ∧ (gs (gs (gs s (c + 1) (Int.toNat (s c 11)) 0) (c + 2) (Int.toNat (s c 11)) 0) c 11 (w32 (s c 11 + 1))) c 11 ≤ 8
      rw [gs_at, w32_i (by omega) (by omega)]; omega
    · rw [if_neg z2]; exact h11
theorem pI_clause (hc : c = 40 ∨ c = 52) (h : pI c s) : pI c (r_X1_addClause c s x).2 := by
  have e : (r_X1_addClause c s x).2 15 = s 15 := fr_X1_addClause (fun a ha => by simp only [List.mem_cons, List.not_mem_nil, or_false] at ha; omega)
  refine pI_to h (by rw [e]) (by rw [frp_X1_addClause_c hc (by decide)]; exact h.2.1) ?_ (by rw [e]; exact h.2.2.2)
  have h12 := h.2.2.1
  unfold r_X1_addClause
  by_cases z1 : s c 12 < 0
  · rw [if_pos z1]; exact h12
  · rw [if_neg z1]
    by_cases z2 : s c 12 < 40
    · rw [if_pos z2]
      dsimp only
      rw [gs_at, w32_i (by omega) (by omega)]; omega
    · rw [if_neg z2]; exact h12
theorem pI_set (hc : c = 40 ∨ c = 52) (h : pI c s) : pI c (e_X1_setFrom c s x) ∧ pI c (e_X1_setUntil c s x) ∧ pI c (e_X1_setAmount c s x) ∧ pI c (e_X1_setDistrict c s x) ∧ pI c (e_X1_setWorth c s x) := by
  refine ⟨?_, ?_, ?_, ?_, ?_⟩
  · exact pI_fr h (fr_X1_setFrom (fun a ha => by simp only [List.mem_cons, List.not_mem_nil, or_false] at ha; omega)) (fr_X1_setFrom (fun a ha => by simp only [List.mem_cons, List.not_mem_nil, or_false] at ha; omega))
  · exact pI_fr h (fr_X1_setUntil (fun a ha => by simp only [List.mem_cons, List.not_mem_nil, or_false] at ha; omega)) (fr_X1_setUntil (fun a ha => by simp only [List.mem_cons, List.not_mem_nil, or_false] at ha; omega))
  · exact pI_fr h (fr_X1_setAmount (fun a ha => by simp only [List.mem_cons, List.not_mem_nil, or_false] at ha; omega)) (fr_X1_setAmount (fun a ha => by simp only [List.mem_cons, List.not_mem_nil, or_false] at ha; omega))
  · exact pI_fr h (fr_X1_setDistrict (fun a ha => by simp only [List.mem_cons, List.not_mem_nil, or_false] at ha; omega)) (fr_X1_setDistrict (fun a ha => by simp only [List.mem_cons, List.not_mem_nil, or_false] at ha; omega))
  · exact pI_fr h (fr_X1_setWorth (fun a ha => by simp only [List.mem_cons, List.not_mem_nil, or_false] at ha; omega)) (fr_X1_setWorth (fun a ha => by simp only [List.mem_cons, List.not_mem_nil, or_false] at ha; omega))
theorem pI_noteC (hc : c = 40 ∨ c = 52) (h : pI c s) : pI c (e_X7_noteCampaign c s) := by
  have h0 := pI_camp hc (pI_blame (x := 0) (y := 3) hc h)
  have h1 := pI_camp hc (pI_blame (x := 1) (y := 3) hc h)
  have g : ∀ (z : mG) (i : Nat) (v : Int), pI c z → pI c (gs z 16 i v) := fun z i v hz => pI_fr hz (gs_ne (by decide)) (gs_ne (by omega))
  unfold e_X7_noteCampaign
  generalize r_X1_addCampaign c (e_X7_blameIf s 0 3) = A at *
  generalize r_X1_addCampaign c (e_X7_blameIf s 1 3) = B at *
  repeat' with_reducible apply ite_P
  all_goals first | exact h0 | exact h1 | exact g _ _ _ h0 | exact g _ _ _ h1
theorem pI_note (hc : c = 40 ∨ c = 52) (h : pI c s) : pI c (e_X7_note c s x) := by
  have hb : ∀ a b : Int, pI c (e_X7_blameIf s a b) := fun a b => pI_blame hc h
  unfold e_X7_note
  repeat' with_reducible apply ite_P
  all_goals first
    | exact h
    | exact pI_noteC hc h
    | exact (pI_set hc h).1
    | exact (pI_set hc h).2.2.2.2
    | exact (pI_set hc (hb _ _)).2.2.1
    | exact pI_unit hc h
    | exact pI_behind hc h
    | exact pI_code hc (hb _ _)
    | skip
  · unfold e_X7_noteLast
    repeat' with_reducible apply ite_P
    all_goals exact (pI_set hc (hb _ _)).2.1
  · unfold e_X7_noteClause
    with_reducible apply ite_P
    · exact h
    · exact pI_15 hc (pI_clause hc h) (by decide) (by decide)
  · unfold e_X7_noteDistrict
    repeat' with_reducible apply ite_P
    all_goals exact (pI_set hc (pI_blame hc (hb _ _))).2.2.2.1
  · exact pI_fr h (fr_X7_noteRival (by decide)) (fr_X7_noteRival (fun a ha => by simp only [List.mem_cons, List.not_mem_nil, or_false] at ha; omega))
end KEEP
