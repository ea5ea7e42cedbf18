/-! ===== a campaign's head: the class ===== -/
/-- where the class writes in a campaign's head -/
def insW (c n a i : Nat) : Prop := a = 20 ∨ (a = 15 ∧ (i = 8 ∨ i = 10 ∨ i = 11)) ∨ (a = 16 ∧ i = n) ∨ ((a = c + 1 ∨ a = c + 2) ∧ i = n) ∨ (a = c ∧ i = 11)
def CW (c n : Nat) (s z : mG) (x1 x2 nm cnt : Int) (q : Int × Int) : Prop := frm (insW c n) s z ∧ (z (c + 1) n = x1 ∧ z (c + 2) n = x2 ∧ z 16 n = nm ∧ z c 11 = cnt) ∧ z 15 10 = q.1 ∧ z 15 11 = q.2
section CMW
variable {c n : Nat} {s z A : mG} {x1 x2 nm cnt v x y : Int} {q : Int × Int}
theorem CW_A (hc : c = 40 ∨ c = 52) (h : CW c n s z x1 x2 nm cnt q) (hA : ∀ k, k ≠ 20 → A k = z k) : CW c n s A x1 x2 nm cnt q := by
  obtain ⟨h1, ⟨h2, h3, h4, h5⟩, h6, h7⟩ := h
  refine ⟨frm_tr h1 (frm_row hA (fun _ => Or.inl rfl)), ⟨?_, ?_, ?_, ?_⟩, ?_, ?_⟩
  · rw [hA _ (by omega)]; exact h2
  · rw [hA _ (by omega)]; exact h3
  · rw [hA 16 (by decide)]; exact h4
  · rw [hA _ (by omega)]; exact h5
  · rw [hA 15 (by decide)]; exact h6
  · rw [hA 15 (by decide)]; exact h7
theorem CW_8 (hc : c = 40 ∨ c = 52) (h : CW c n s z x1 x2 nm cnt q) : CW c n s (gs z 15 8 x) x1 x2 nm cnt q := by
  obtain ⟨h1, ⟨h2, h3, h4, h5⟩, h6, h7⟩ := h
  refine ⟨frm_gs h1 (Or.inr (Or.inl ⟨rfl, Or.inl rfl⟩)), ⟨?_, ?_, ?_, ?_⟩, ?_, ?_⟩
  · rw [gs_ne (by omega)]; exact h2
  · rw [gs_ne (by omega)]; exact h3
  · rw [gs_ne (by decide)]; exact h4
  · rw [gs_ne (by omega)]; exact h5
  · rw [gs_at_ne (by decide)]; exact h6
  · rw [gs_at_ne (by decide)]; exact h7
theorem CW_bl (hc : c = 40 ∨ c = 52) (h : CW c n s z x1 x2 nm cnt q) : CW c n s (e_X7_blame z x y) x1 x2 nm cnt (bl q.1 q.2 x y) := by
  obtain ⟨h1, ⟨h2, h3, h4, h5⟩, h6, h7⟩ := h
  obtain ⟨p1, p2, p3, p4⟩ := blame_bl (G := z) (x := x) (y := y)
  rw [h6, h7] at p1 p2
  refine ⟨frm_tr h1 (fun a i hi => ?_), ⟨?_, ?_, ?_, ?_⟩, p1, p2⟩
  · by_cases w : a = 15
    · subst w
      exact p4 i (fun e => hi (Or.inr (Or.inl ⟨rfl, Or.inr (Or.inl e)⟩))) (fun e => hi (Or.inr (Or.inl ⟨rfl, Or.inr (Or.inr e)⟩)))
    · rw [p3 a w]
  · rw [p3 _ (by omega)]; exact h2
  · rw [p3 _ (by omega)]; exact h3
  · rw [p3 16 (by decide)]; exact h4
  · rw [p3 _ (by omega)]; exact h5
theorem CW_if (hc : c = 40 ∨ c = 52) {w : Bool} (h : CW c n s z x1 x2 nm cnt q) : CW c n s (e_X7_blameIf z (if w = true then 1 else 0) x) x1 x2 nm cnt (blP w q x (f_X10_start z)) := by
  cases w with
  | true => rw [if_pos rfl, blf_1]; exact CW_bl hc h
  | false => rw [if_neg (by decide), blf_0]; exact h
theorem CW_f (hc : c = 40 ∨ c = 52) (h : CW c n s z x1 x2 nm cnt q) : CW c n s (gs z (c + 1) n v) v x2 nm cnt q := by
  obtain ⟨h1, ⟨h2, h3, h4, h5⟩, h6, h7⟩ := h
  refine ⟨frm_gs h1 (by unfold insW; omega), ⟨gs_at _ _ _ _, ?_, ?_, ?_⟩, ?_, ?_⟩
  · rw [gs_ne (by omega)]; exact h3
  · rw [gs_ne (by omega)]; exact h4
  · rw [gs_ne (by omega)]; exact h5
  · rw [gs_ne (by omega)]; exact h6
  · rw [gs_ne (by omega)]; exact h7
theorem CW_u (hc : c = 40 ∨ c = 52) (h : CW c n s z x1 x2 nm cnt q) : CW c n s (gs z (c + 2) n v) x1 v nm cnt q := by
  obtain ⟨h1, ⟨h2, h3, h4, h5⟩, h6, h7⟩ := h
  refine ⟨frm_gs h1 (by unfold insW; omega), ⟨?_, gs_at _ _ _ _, ?_, ?_⟩, ?_, ?_⟩
  · rw [gs_ne (by omega)]; exact h2
  · rw [gs_ne (by omega)]; exact h4
  · rw [gs_ne (by omega)]; exact h5
  · rw [gs_ne (by omega)]; exact h6
  · rw [gs_ne (by omega)]; exact h7
theorem CW_n (hc : c = 40 ∨ c = 52) (h : CW c n s z x1 x2 nm cnt q) : CW c n s (gs z 16 n v) x1 x2 v cnt q := by
  obtain ⟨h1, ⟨h2, h3, h4, h5⟩, h6, h7⟩ := h
  refine ⟨frm_gs h1 (by unfold insW; omega), ⟨?_, ?_, gs_at _ _ _ _, ?_⟩, ?_, ?_⟩
  · rw [gs_ne (by omega)]; exact h2
  · rw [gs_ne (by omega)]; exact h3
  · rw [gs_ne (by omega)]; exact h5
  · rw [gs_ne (by omega)]; exact h6
  · rw [gs_ne (by omega)]; exact h7
theorem CW_c (hc : c = 40 ∨ c = 52) (h : CW c n s z x1 x2 nm cnt q) : CW c n s (gs z c 11 v) x1 x2 nm v q := by
  obtain ⟨h1, ⟨h2, h3, h4, h5⟩, h6, h7⟩ := h
  refine ⟨frm_gs h1 (by unfold insW; omega), ⟨?_, ?_, ?_, gs_at _ _ _ _⟩, ?_, ?_⟩
  · rw [gs_ne (by omega)]; exact h2
  · rw [gs_ne (by omega)]; exact h3
  · rw [gs_ne (by omega)]; exact h4
  · rw [gs_ne (by omega)]; exact h6
  · rw [gs_ne (by omega)]; exact h7
/-- a new campaign -/
def adN (c n : Nat) (v : Int) (s : mG) : mG := gs (gs (gs (gs s (c + 1) n 0) (c + 2) n 0) c 11 ((n + 1 : Nat) : Int)) 16 n v
theorem adN_CW (hc : c = 40 ∨ c = 52) (h : CW c n s z x1 x2 nm cnt q) : CW c n s (adN c n v z) 0 0 v ((n + 1 : Nat) : Int) q := CW_n hc (CW_c hc (CW_u hc (CW_f hc h)))
theorem adN_eq (h : z c 11 = (n : Int)) (hn : n < 8) : (if (r_X1_addCampaign c z).1 = 0 then (r_X1_addCampaign c z).2 else (if ((8 : Nat) : Int) ≤ (f_X1_campaigns c z) then (r_X1_addCampaign c z).2 else (gs (r_X1_addCampaign c z).2 16 (Int.toNat (f_X1_campaigns c z)) v))) = adN c n v z := by
  have e : r_X1_addCampaign c z = (1, (gs (gs (gs z (c + 1) n 0) (c + 2) n 0) c 11 ((n + 1 : Nat) : Int))) := by
    unfold r_X1_addCampaign
    rw [h, if_neg (by omega), if_pos (by omega), st_nat, w32_nat (by omega)]
  have e2 : f_X1_campaigns c z = (n : Int) := h
  rw [e, e2, if_neg (show ¬ (1 : Int) = 0 by decide), if_neg (by omega), st_nat]
  rfl
theorem bif_c (hc : c = 40 ∨ c = 52) {w : Int} : (e_X7_blameIf z w x) c = z c := by
  unfold e_X7_blameIf
  by_cases y : w = 0
  · rw [if_pos y]
  · rw [if_neg y]
    exact (blame_bl (G := z)).2.2.1 c (by omega)
theorem nc_eq (hc : c = 40 ∨ c = 52) (h : z c 11 = (n : Int)) (hn : n < 8) : e_X7_noteCampaign c z = adN c n (f_X10_name z) (e_X7_blameIf z (if decide (¬ f_X7_campaignOf c z (f_X10_name z) = -1) = true then 1 else 0) 3) := by
  unfold e_X7_noteCampaign
  by_cases y : f_X7_campaignOf c z (f_X10_name z) = -1
  · rw [if_pos y, adN_eq (by rw [bif_c hc]; exact h) hn, if_neg (show ¬ decide (¬ f_X7_campaignOf c z (f_X10_name z) = -1) = true from fun q => (of_decide_eq_true q) y)]
  · rw [if_neg y, adN_eq (by rw [bif_c hc]; exact h) hn, if_pos (show decide (¬ f_X7_campaignOf c z (f_X10_name z) = -1) = true from decide_eq_true y)]
theorem hasN (h : z c 11 = ((n + 1 : Nat) : Int)) (hn : n < 8) : w32 (z c 11 - 1) = ((n : Nat) : Int) ∧ f_X1_hasCampaign c z ((n : Nat) : Int) = 1 := by
  refine ⟨by rw [h, w32_i (by omega) (by omega)]; omega, ?_⟩
  unfold f_X1_hasCampaign
  rw [h, if_neg (by omega), if_neg (by omega), if_neg (by omega)]
theorem setF_eq (h : z c 11 = ((n + 1 : Nat) : Int)) (hn : n < 8) : e_X1_setFrom c z v = gs z (c + 1) n v := by
  obtain ⟨e1, e2⟩ := hasN h hn
  unfold e_X1_setFrom
  rw [e1, e2, if_neg (by decide), st_nat]
theorem setU_eq (h : z c 11 = ((n + 1 : Nat) : Int)) (hn : n < 8) : e_X1_setUntil c z v = gs z (c + 2) n v := by
  obtain ⟨e1, e2⟩ := hasN h hn
  unfold e_X1_setUntil
  rw [e1, e2, if_neg (by decide), st_nat]
theorem nl_eq (hc : c = 40 ∨ c = 52) (h : z c 11 = ((n + 1 : Nat) : Int)) (hn : n < 8) (hx : z (c + 1) n = x1) : e_X7_noteLast c z v = gs (e_X7_blameIf z (if decide (v ≤ x1 ∨ 26 < v) = true then 1 else 0) 5) (c + 2) n v := by
  obtain ⟨e1, e2⟩ := hasN h hn
  have ef : f_X1_firstOf c z (w32 ((f_X1_campaigns c z) - 1)) = x1 := by
    show f_X1_firstOf c z (w32 (z c 11 - 1)) = x1
    rw [e1]
    unfold f_X1_firstOf
    rw [e2, if_neg (by decide), st_nat]
    exact hx
  unfold e_X7_noteLast
  rw [ef]
  by_cases y : v ≤ x1
  · rw [if_pos y, setU_eq (by rw [bif_c hc]; exact h) hn, if_pos (decide_eq_true (Or.inl y))]
  · rw [if_neg y]
    by_cases y2 : v ≤ 26
    · rw [if_pos y2, setU_eq (by rw [bif_c hc]; exact h) hn, if_neg (fun q => absurd (of_decide_eq_true q) (by omega))]
    · rw [if_neg y2, setU_eq (by rw [bif_c hc]; exact h) hn, if_pos (decide_eq_true (Or.inr (by omega)))]
/-- the class looks for a campaign's name -/
theorem camp_fs (h : z c 11 = (n : Int)) : f_X7_campaignOf c z v = fs (fun j => decide (z 16 j = v)) n := by
  have hg : ∀ j, j < n → g_X7_campaignOf_2 c z v j () = bif decide (z 16 j = v) then Sum.inr ((j : Nat) : Int) else Sum.inl () := by
    intro j _
    unfold g_X7_campaignOf_2
    rw [st_nat]
    by_cases y : z 16 j = v
    · rw [if_neg (fun w => w (lcmp_e.mpr y)), decide_eq_true y]; rfl
    · rw [if_pos (fun w => y (lcmp_e.mp w)), decide_eq_false y]; rfl
  unfold f_X7_campaignOf
  rw [h, st_nat]
  rcases fe_fs (r := fun j => ((j : Nat) : Int)) hg with ⟨e1, e2⟩ | ⟨j, _, _, e1, e2⟩
  · rw [e1, e2]
    show (if _ then (-1 : Int) else -1) = -1
    by_cases y : f_X1_campaigns c z ≤ ((n : Nat) : Int)
    · rw [if_pos y]
    · rw [if_neg y]
  · rw [e1, e2]; rfl
/-- both look alike for a name that is there already -/
theorem name_dup {S : Nat} {W0 : mG} (h11 : z c 11 = (n : Int)) (hW : ∀ k, k < n → W0 73 (8 * S + k) = z 16 k) : decide (¬ f_X7_campaignOf c z v = -1) = dpN S W0 v n ∧ ((∃ i : Nat, i < n ∧ z 16 i = v) → dpN S W0 v n = true) := by
  rw [camp_fs h11]
  have k2 : (∃ i : Nat, i < n ∧ z 16 i = v) → dpN S W0 v n = true := fun ⟨i, i1, i2⟩ => dpN_i.mpr ⟨i, i1, by rw [hW i i1]; exact i2⟩
  refine ⟨?_, k2⟩
  cases hd : dpN S W0 v n with
  | true =>
    obtain ⟨k, k1, k3⟩ := dpN_i.mp hd
    rw [hW k k1] at k3
    refine decide_eq_true (fun q => ?_)
    have q2 := fs_none q k k1
    rw [decide_eq_true k3] at q2
    exact absurd q2 (by decide)
  | false =>
    refine decide_eq_false (fun q => q (fs_no (fun k hk => ?_)))
    by_cases y : z 16 k = v
    · rw [k2 ⟨k, hk, y⟩] at hd
      exact absurd hd (by decide)
    · exact decide_eq_false y
/-- the class's heap behind a campaign's head -/
theorem camp_cls {S : Nat} {A1 A2 A3 A4 A5 A6 A7 W0 : mG} {v1 v2 q1 q3 : Int} (hc : c = 40 ∨ c = 52) (hn : n < 8) (h11 : s c 11 = (n : Int)) (hW : ∀ k, k < n → W0 73 (8 * S + k) = s 16 k) (a1 : ∀ k, k ≠ 20 → A1 k = s k) (a2 : ∀ k, k ≠ 20 → A2 k = (gs A1 15 8 2) k) (st2 : f_X10_start A2 = q1) (nm2 : f_X10_name A2 = nm) (a3 : ∀ k, k ≠ 20 → A3 k = (gs (e_X7_noteCampaign c A2) 15 8 3) k) (a4 : ∀ k, k ≠ 20 → A4 k = (gs A3 15 8 4) k) (a5 : ∀ k, k ≠ 20 → A5 k = (gs (e_X1_setFrom c A4 v1) 15 8 5) k) (a6 : ∀ k, k ≠ 20 → A6 k = (gs A5 15 8 6) k) (st6 : f_X10_start A6 = q3) (a7 : ∀ k, k ≠ 20 → A7 k = (gs (e_X7_noteLast c A6 v2) 15 8 7) k) : CW c n s (gs A7 15 8 8) v1 v2 nm ((n + 1 : Nat) : Int) (blP (decide (v2 ≤ v1 ∨ 26 < v2)) (blP (dpN S W0 nm n) (s 15 10, s 15 11) 3 q1) 5 q3) ∧ ((∃ i : Nat, i < n ∧ s 16 i = nm) → dpN S W0 nm n = true) := by
  have w0 : CW c n s s (s (c + 1) n) (s (c + 2) n) (s 16 n) (n : Int) (s 15 10, s 15 11) := ⟨frm_rf, ⟨rfl, rfl, rfl, h11⟩, rfl, rfl⟩
  have w2 := CW_A hc (CW_8 (x := 2) hc (CW_A hc w0 a1)) a2
  have e16 : ∀ k, k < n → A2 16 k = s 16 k := fun k hk => w2.1 16 k (by unfold insW; omega)
  have hd := name_dup (S := S) (W0 := W0) (v := nm) w2.2.1.2.2.2 (fun k hk => by rw [hW k hk, e16 k hk])
  rw [nc_eq hc w2.2.1.2.2.2 hn, nm2, hd.1] at a3
  have w2b := CW_if (w := dpN S W0 nm n) (x := 3) hc w2
  rw [st2] at w2b
  have w3 := CW_A hc (CW_8 (x := 3) hc (adN_CW (v := nm) hc w2b)) a3
  have w4 := CW_A hc (CW_8 (x := 4) hc w3) a4
  rw [setF_eq w4.2.1.2.2.2 hn] at a5
  have w5 := CW_A hc (CW_8 (x := 5) hc (CW_f (v := v1) hc w4)) a5
  have w6 := CW_A hc (CW_8 (x := 6) hc w5) a6
  rw [nl_eq hc w6.2.1.2.2.2 hn w6.2.1.1] at a7
  have w6b := CW_if (w := decide (v2 ≤ v1 ∨ 26 < v2)) (x := 5) hc w6
  rw [st6] at w6b
  have w7 := CW_A hc (CW_8 (x := 7) hc (CW_u (v := v2) hc w6b)) a7
  exact ⟨CW_8 (x := 8) hc w7, fun ⟨i, i1, i2⟩ => hd.2 ⟨i, i1, by rw [e16 i i1]; exact i2⟩⟩
end CMW
