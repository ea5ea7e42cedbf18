/-! ===== wip/whole/gen86g.py: want, walked ===== -/
section CLV
variable {c : Nat} {L : Int} {r : Nat → Int} {F : mG} {K S : Nat} {G0 : mG} {t n m p l qq q : Nat} {s H s1 H1 : mG} {Q : Option mV → mG → Prop} {cp : Int}
theorem WC_v6 (hc : c = 40 ∨ c = 52) {z : mG} {v6 v7 v8 f p v : Int} (h : WC c m s1 z v6 v7 v8 f p) : WC c m s1 (gs z (c + 6) m v) v v7 v8 f p := by
  have := WC_v (b := 6) (v := v) hc (Or.inl rfl) h
  rw [if_pos rfl, if_neg (by decide), if_neg (by decide)] at this
  exact this
theorem WC_v7 (hc : c = 40 ∨ c = 52) {z : mG} {v6 v7 v8 f p v : Int} (h : WC c m s1 z v6 v7 v8 f p) : WC c m s1 (gs z (c + 7) m v) v6 v v8 f p := by
  have := WC_v (b := 7) (v := v) hc (Or.inr (Or.inl rfl)) h
  rw [if_pos rfl, if_neg (by decide), if_neg (by decide)] at this
  exact this
theorem WC_v8 (hc : c = 40 ∨ c = 52) {z : mG} {v6 v7 v8 f p v : Int} (h : WC c m s1 z v6 v7 v8 f p) : WC c m s1 (gs z (c + 8) m v) v6 v7 v f p := by
  have := WC_v (b := 8) (v := v) hc (Or.inr (Or.inr rfl)) h
  rw [if_pos rfl, if_neg (by decide), if_neg (by decide)] at this
  exact this
theorem WC_cn (hc : c = 40 ∨ c = 52) : c ≠ 15 ∧ c ≠ 20 ∧ c ≠ c + 6 ∧ c ≠ c + 7 ∧ c ≠ c + 8 := by omega
theorem WC_cj (hc : c = 40 ∨ c = 52) : ∀ j, j < 12 → j < 6 ∨ 8 < j → c + j ≠ 15 ∧ c + j ≠ 20 ∧ c + j ≠ c + 6 ∧ c + j ≠ c + 7 ∧ c + j ≠ c + 8 := fun j _ _ => by omega
theorem WC_12 (hc : c = 40 ∨ c = 52) {z : mG} {a b d f g : Int} (h : WC c m s1 z a b d f g) : z c = s1 c := h.1 c (WC_cn hc).1 (WC_cn hc).2.1 (WC_cn hc).2.2.1 (WC_cn hc).2.2.2.1 (WC_cn hc).2.2.2.2
theorem OC_fs (hc : c = 40 ∨ c = 52) {x X : Int} (ho : OC c n m p x X s s1) {k j : Nat} (hk : k < m) (hj : j = 4 ∨ j = 5 ∨ j = 7) : s1 (c + j) k = s (c + j) k := ho.fs _ _ (by unfold insK; omega)
theorem OH_fs {so : Int} (hh : OH S n m l qq so H H1) {a k : Nat} (hk : k < m) (ha : a = 77 ∨ a = 78 ∨ a = 80) : H1 a (40 * S + k) = H a (40 * S + k) := hh.fh _ _ (by unfold insQ; omega)
theorem n9_eq {A : mG} {v : Int} : (if v = 0 then e_X1_setAmount c (e_X7_blameIf A 1 5) v else (if v ≤ 9 then e_X1_setAmount c (e_X7_blameIf A 0 5) v else e_X1_setAmount c (e_X7_blameIf A 1 5) v)) = e_X1_setAmount c (e_X7_blameIf A (if decide (v = 0 ∨ 9 < v) = true then 1 else 0) 5) v := by
  by_cases z : v = 0
  · rw [if_pos z, if_pos (decide_eq_true (Or.inl z))]
  · rw [if_neg z]
    by_cases z2 : v ≤ 9
    · rw [if_pos z2, if_neg (fun q => absurd (of_decide_eq_true q) (by omega))]
    · rw [if_neg z2, if_pos (decide_eq_true (Or.inr (by omega)))]
theorem nd_eq {A : mG} {v : Int} : e_X7_noteDistrict c A v = e_X1_setDistrict c (e_X7_blameIf (e_X7_blameIf A (if decide (¬ f_X1_wantOf c A (w32 (A c 11 - 1)) v = -1) = true then 1 else 0) 3) (if decide (v < 0 ∨ 6 ≤ v) = true then 1 else 0) 5) v := by
  have hd : ∀ M : mG, (f_X0_isDistrict M v = 0 ↔ (v < 0 ∨ 6 ≤ v)) := by
    intro M
    unfold f_X0_isDistrict
    by_cases z : v < 0
    · rw [if_pos z]; exact ⟨fun _ => Or.inl z, fun _ => rfl⟩
    · rw [if_neg z]
      by_cases z2 : 6 ≤ v
      · rw [if_pos z2]; exact ⟨fun _ => Or.inr z2, fun _ => rfl⟩
      · rw [if_neg z2]; exact ⟨fun q => absurd q (by decide), fun q => absurd q (by omega)⟩
  unfold e_X7_noteDistrict
  have ec : f_X1_campaigns c A = A c 11 := rfl
  rw [ec]
  generalize f_X1_wantOf c A (w32 (A c 11 - 1)) v = wt
  by_cases z : wt = -1
  · rw [if_pos z, if_neg (show ¬ decide (¬ wt = -1) = true from fun q => (of_decide_eq_true q) z)]
    by_cases y : v < 0 ∨ 6 ≤ v
    · rw [if_neg (show ¬ ¬ f_X0_isDistrict (e_X7_blameIf A 0 3) v = 0 from fun q => q ((hd _).mpr y)), if_pos (decide_eq_true y)]
    · rw [if_pos (show ¬ f_X0_isDistrict (e_X7_blameIf A 0 3) v = 0 from fun q => y ((hd _).mp q)), if_neg (show ¬ decide (v < 0 ∨ 6 ≤ v) = true from fun q => y (of_decide_eq_true q))]
  · rw [if_neg z, if_pos (show decide (¬ wt = -1) = true from decide_eq_true z)]
    by_cases y : v < 0 ∨ 6 ≤ v
    · rw [if_neg (show ¬ ¬ f_X0_isDistrict (e_X7_blameIf A 1 3) v = 0 from fun q => q ((hd _).mpr y)), if_pos (decide_eq_true y)]
    · rw [if_pos (show ¬ f_X0_isDistrict (e_X7_blameIf A 1 3) v = 0 from fun q => y ((hd _).mp q)), if_neg (show ¬ decide (v < 0 ∨ 6 ≤ v) = true from fun q => y (of_decide_eq_true q))]
/-- both look alike for a want that is there already -/
theorem want_dup (hc : c = 40 ∨ c = 52) (hm : m < 40) (h : J8 8 c L r F K S G0 t n m p l qq s H) {A W0 : mG} {v cp : Int} (hcp : cp = (n : Int) - 1) (hn1 : 1 ≤ n) (hA4 : ∀ k, k < m → A (c + 4) k = s (c + 4) k ∧ A (c + 5) k = s (c + 5) k ∧ A (c + 7) k = s (c + 7) k) (hA7 : ¬ A (c + 7) m = v) (hA11 : A c 11 = (n : Int)) (hA12 : A c 12 = ((m + 1 : Nat) : Int)) (hW : ∀ a k, k < m → (a = 77 ∨ a = 78 ∨ a = 80) → W0 a (40 * S + k) = H a (40 * S + k)) : decide (¬ f_X1_wantOf c A (w32 (A c 11 - 1)) v = -1) = dpW S m W0 cp v m ∧ (dpW S m W0 cp v m = false → ∀ k, k < m → s (c + 4) k = 18 → s (c + 5) k = (n : Int) - 1 → s (c + 7) k = v → False) := by
  have hj := h.jb
  have hn8 := hj.hn
  have ew : w32 (A c 11 - 1) = cp := by rw [hA11, hcp, w32_i (by omega) (by omega)]
  have hwe := want_eq (c := c) (G := A) (nk := m + 1) hA12.symm (by rw [hA12]; omega) (H := A) (fun _ _ => rfl) cp v
  rw [ew, hwe]
  have key : dpW S m W0 cp v m = true ↔ ∃ k, k < m ∧ s (c + 4) k = 18 ∧ s (c + 5) k = (n : Int) - 1 ∧ s (c + 7) k = v := by
    rw [dpW_i]
    constructor
    · rintro ⟨k, k1, k2, k3, k4⟩
      rw [hW 77 k k1 (Or.inl rfl)] at k2
      rw [hW 78 k k1 (Or.inr (Or.inl rfl))] at k3
      rw [hW 80 k k1 (Or.inr (Or.inr rfl))] at k4
      have hk := hj.cla k k1
      rw [hk.own.1] at k3
      rcases hk.srt with ⟨q1, q2, q3, q4, _⟩ | ⟨q1, _⟩ | ⟨q1, _⟩ | ⟨q1, _⟩
      · exact ⟨k, k1, q2, by omega, by rw [← q4]; exact k4⟩
      · omega
      · omega
      · omega
    · rintro ⟨k, k1, k2, k3, k4⟩
      have hk := hj.cla k k1
      refine ⟨k, k1, ?_, ?_, ?_⟩
      · rw [hW 77 k k1 (Or.inl rfl)]
        rcases hk.srt with ⟨q1, _⟩ | ⟨_, q2, _⟩ | ⟨_, q2, _⟩ | ⟨_, q2, _⟩
        · exact q1
        · omega
        · omega
        · omega
      · rw [hW 78 k k1 (Or.inr (Or.inl rfl)), hk.own.1]; omega
      · rw [hW 80 k k1 (Or.inr (Or.inr rfl))]
        rcases hk.srt with ⟨q1, q2, q3, q4, _⟩ | ⟨_, q2, _⟩ | ⟨_, q2, _⟩ | ⟨_, q2, _⟩
        · rw [q4]; exact k4
        · omega
        · omega
        · omega
  refine ⟨?_, fun hf k k1 k2 k3 k4 => ?_⟩
  · cases hd : dpW S m W0 cp v m with
    | true =>
      obtain ⟨k, k1, k2, k3, k4⟩ := key.mp hd
      refine decide_eq_true (fun q => ?_)
      have q2 := fs_none q k (by omega)
      unfold wnP at q2
      rw [(hA4 k k1).1, (hA4 k k1).2.1, (hA4 k k1).2.2, decide_eq_true k2, decide_eq_true (show s (c + 5) k = cp by omega), decide_eq_true k4] at q2
      exact absurd q2 (by decide)
    | false =>
      refine decide_eq_false (fun q => q (fs_no (fun k hk => ?_)))
      unfold wnP
      by_cases z : k = m
      · subst z
        rw [decide_eq_false hA7, Bool.and_false, Bool.and_false]
      · have k1 : k < m := by omega
        rw [(hA4 k k1).1, (hA4 k k1).2.1, (hA4 k k1).2.2]
        by_cases y1 : s (c + 4) k = 18
        · by_cases y2 : s (c + 5) k = cp
          · by_cases y3 : s (c + 7) k = v
            · exfalso
              rw [key.mpr ⟨k, k1, y1, by omega, y3⟩] at hd
              exact absurd hd (by decide)
            · rw [decide_eq_false y3, Bool.and_false, Bool.and_false]
          · rw [decide_eq_false y2, Bool.false_and, Bool.and_false]
        · rw [decide_eq_false y1, Bool.false_and]
  · rw [key.mpr ⟨k, k1, k2, k3, k4⟩] at hf
    exact absurd hf (by decide)
/-- a want's end: both behind its last number -/
theorem want_end {s6 W0 : mG} {t6 : Nat} {v1 v2 v3 q1 q2 : Int} {dd : Bool} (hc : c = 40 ∨ c = 52) (hS : S ≤ 1) (hm : m < 40) (hn1 : 1 ≤ n) (h : J8 8 c L r F K S G0 t n m p l qq s H) (ho : OC c n m p 18 9 s s1) (hh : OH S n m l qq 0 H H1) (ht6 : t < t6) (wc9 : WC c m s1 s6 v1 v2 v3 (blP (decide (v2 < 0 ∨ 6 ≤ v2)) (blP dd (blP (decide (v1 = 0 ∨ 9 < v1)) (s1 15 10, s1 15 11) 5 q1) 3 q2) 5 q2).1 (blP (decide (v2 < 0 ∨ 6 ≤ v2)) (blP dd (blP (decide (v1 = 0 ∨ 9 < v1)) (s1 15 10, s1 15 11) 5 q1) 3 q2) 5 q2).2) (Wsm : SM c L r F K t6 7 s6 W0) (v1r : 0 ≤ v1) (v2r : 0 ≤ v2) (v3r : 0 ≤ v3 ∧ v3 ≤ 9999) (W79 : W0 79 (40 * S + m) = v1) (W80 : W0 80 (40 * S + m) = v2) (W81 : W0 81 (40 * S + m) = v3) (Wrow : ∀ a, a ≠ 64 → a ≠ 79 → a ≠ 80 → a ≠ 81 → W0 a = H1 a) (W64 : ∀ i, i ≠ 11 → W0 64 i = H1 64 i) (Wfh : frm (insQ S m l qq) H W0) (hdp : dd = false → ∀ k, k < m → s (c + 4) k = 18 → s (c + 5) k = (n : Int) - 1 → s (c + 7) k = v2 → False) (hB : ∀ H', BadF F S G0 H' → Q none H') (hQ : ∀ (t' p' l' qq' : Nat) (s' H' : mG), t < t' → J8 8 c L r F K S G0 t' n (m + 1) p' l' qq' s' H' → Q none H') : ∀ M : mG, (∀ a, a ≠ 64 → M a = W0 a) → (∀ i, i ≠ 15 → i ≠ 16 → M 64 i = W0 64 i) → (M 64 15, M 64 16) = blP dd (blP (decide (v2 < 0 ∨ 6 ≤ v2)) (blP (decide (v1 = 0 ∨ 9 < v1)) (H1 64 15, H1 64 16) 5 q1) 5 q2) 3 q2 → W2 o_X12 M_X12_tellClause (inN [64, 72, 73, 74, 75, 76, 77, 78, 79, 80, 81, 82, 83, 84, 85, 86, 87, 88, 89, 90, 91, 92, 93]) (q + 12) Q 494 [some (mR 69), some (mI cp), none, some (mI ((40 * S + m : Nat) : Int)), none, none, none, none] [] M := by
  have hj := h.jb
  have cn := WC_cn hc
  have hbq0 := hj.bqq
  have p10 := ho.b10
  have p15 := hh.b15
  obtain ⟨z1, z2, ⟨z3, z4, z5⟩, z6, z7, z8⟩ := wc9
  have hb0 : bq (s1 15 10) (s1 15 11) (H1 64 15) (H1 64 16) := by rw [p10.1, p10.2, p15.1, p15.2]; exact hbq0
  have l1 := blP_le (w := decide (v1 = 0 ∨ 9 < v1)) (q := (s1 15 10, s1 15 11)) (x := 5) (y := q1) hb0.2.2 (by decide)
  have l2 := blP_le (w := dd) (q := blP (decide (v1 = 0 ∨ 9 < v1)) (s1 15 10, s1 15 11) 5 q1) (x := 3) (y := q2) l1.1 (by decide)
  have l3 := blP_le (w := decide (v2 < 0 ∨ 6 ≤ v2)) (q := blP (dd) (blP (decide (v1 = 0 ∨ 9 < v1)) (s1 15 10, s1 15 11) 5 q1) 3 q2) (x := 5) (y := q2) l2.1 (by decide)
  have q6 : s6 15 10 = 0 → decide (v1 = 0 ∨ 9 < v1) = false ∧ dd = false ∧ decide (v2 < 0 ∨ 6 ≤ v2) = false ∧ s1 15 10 = 0 := by
    intro z
    rw [z7] at z
    have u3 := l3.2.1 z
    have u2 := l2.2.1 u3.2
    have u1 := l1.2.1 u2.2
    exact ⟨u1.1, u2.1, u3.1, u1.2⟩
  have hbm : bmn s s6 := by
    refine ⟨fun z => by rw [← p10.1]; exact (q6 z).2.2.2, fun z => ?_⟩
    rw [← p10.1] at z
    rw [z8, ← p10.2]
    have n1 : ¬ (blP (decide (v1 = 0 ∨ 9 < v1)) (s1 15 10, s1 15 11) 5 q1).1 = 0 := fun y => z (l1.2.1 y).2
    have n2 : ¬ (blP (dd) (blP (decide (v1 = 0 ∨ 9 < v1)) (s1 15 10, s1 15 11) 5 q1) 3 q2).1 = 0 := fun y => n1 (l2.2.1 y).2
    exact Int.le_trans (l3.2.2 n2) (Int.le_trans (l2.2.2 n1) (l1.2.2 z))
  have hc1 := WC_cj hc
  have zc : ∀ j, j < 12 → j < 6 ∨ 8 < j → s6 (c + j) = s1 (c + j) := fun j w1 w2 => z1 _ (hc1 j w1 w2).1 (hc1 j w1 w2).2.1 (hc1 j w1 w2).2.2.1 (hc1 j w1 w2).2.2.2.1 (hc1 j w1 w2).2.2.2.2
  have zc0 : s6 c = s1 c := z1 c cn.1 cn.2.1 cn.2.2.1 cn.2.2.2.1 cn.2.2.2.2
  have zfs : frm (insK c m p) s s6 := by
    refine frm_tr ho.fs (fun a i hi => ?_)
    by_cases w15 : a = 15
    · subst w15
      have hi2 : i ≠ 8 ∧ i ≠ 10 ∧ i ≠ 11 := by unfold insK at hi; omega
      exact z6 i hi2.1 hi2.2.1 hi2.2.2
    · by_cases w20 : a = 20
      · exact absurd (Or.inl w20) hi
      · by_cases w68 : a = c + 6 ∨ a = c + 7 ∨ a = c + 8
        · have hi2 : i ≠ m := by unfold insK at hi; omega
          rcases w68 with w | w | w <;> subst w
          · exact z2 6 i (by decide) (by decide) hi2
          · exact z2 7 i (by decide) (by decide) hi2
          · exact z2 8 i (by decide) (by decide) hi2
        · rw [z1 a w15 w20 (fun q => w68 (Or.inl q)) (fun q => w68 (Or.inr (Or.inl q))) (fun q => w68 (Or.inr (Or.inr q)))]
  intro M w1 w2 w3
  have e15 : M 64 15 = (blP (dd) (blP (decide (v2 < 0 ∨ 6 ≤ v2)) (blP (decide (v1 = 0 ∨ 9 < v1)) (H1 64 15, H1 64 16) 5 q1) 5 q2) 3 q2).1 := congrArg Prod.fst w3
  have e16 : M 64 16 = (blP (dd) (blP (decide (v2 < 0 ∨ 6 ≤ v2)) (blP (decide (v1 = 0 ∨ 9 < v1)) (H1 64 15, H1 64 16) 5 q1) 5 q2) 3 q2).2 := congrArg Prod.snd w3
  have w64 : ∀ i, i ≠ 11 → i ≠ 15 → i ≠ 16 → M 64 i = H1 64 i := fun i u1 u2 u3 => by rw [w2 i u2 u3]; exact W64 i u1
  have wr : ∀ a, a ≠ 64 → a ≠ 79 → a ≠ 80 → a ≠ 81 → M a = H1 a := fun a u1 u2 u3 u4 => by rw [w1 a u1]; exact Wrow a u1 u2 u3 u4
  refine od_494 (s1 := s6) (t1 := t6) hc hS hm hn1 h ⟨SM_to Wsm (fun k u1 u2 => w1 k (by omega)) (w2 11 (by decide) (by decide)) (w2 13 (by decide) (by decide)), ?_, ?_, ?_, by rw [zc0]; exact ho.c11, by rw [zc0]; exact ho.c12, by rw [zc0]; exact ho.c13, by rw [z6 5 (by decide) (by decide) (by decide)]; exact ho.w5, by rw [z6 6 (by decide) (by decide) (by decide)]; exact ho.w6, zfs, hbm, ?_, ?_, ?_, ?_, ?_, ?_, ?_, ?_, Or.inl ⟨?_, ?_, ?_, ?_, ?_, ?_, ?_, ?_, ?_, fun z => ?_⟩, fun z _ k k1 k2 k3 k4 => ?_, fun z => ?_⟩ ht6 hB hQ
  · rw [zc 5 (by decide) (by decide)]; exact ho.k5
  · rw [zc 9 (by decide) (by decide)]; exact ho.k9
  · rw [zc 10 (by decide) (by decide)]; exact ho.k10
  · rw [z7, z8, e15, e16, blP_c (by decide) (by decide)]
    exact blP_bq (blP_bq (blP_bq hb0 (by decide)) (by decide)) (by decide)
  · rw [wr 78 (by decide) (by decide) (by decide) (by decide)]; exact hh.r78
  · rw [wr 82 (by decide) (by decide) (by decide) (by decide)]; exact hh.r82
  · refine frm_tr Wfh (fun a i hi => ?_)
    by_cases u1 : a = 64
    · subst u1
      exact w2 i (fun z => hi (insQ_64 (by omega))) (fun z => hi (insQ_64 (by omega)))
    · rw [w1 a u1]
  · rw [w64 39 (by decide) (by decide) (by decide)]; exact hh.r39
  · rw [w64 12 (by decide) (by decide) (by decide)]; exact hh.r12
  · rw [wr 85 (by decide) (by decide) (by decide) (by decide)]; exact hh.r85
  · rw [wr 76 (by decide) (by decide) (by decide) (by decide)]; exact hh.r76
  · rw [wr 77 (by decide) (by decide) (by decide) (by decide)]; exact hh.r77
  · rw [zc 4 (by decide) (by decide)]; exact ho.k4
  · rw [w1 79 (by decide), W79, z3]
  · rw [w1 80 (by decide), W80, z4]
  · rw [w1 81 (by decide), W81, z5]
  · rw [z3]; exact v1r
  · rw [z4]; exact v2r
  · rw [z5]; exact v3r.1
  · rw [z5]; exact v3r.2
  · obtain ⟨u1, u2, u3, u4⟩ := q6 z
    have t1' := of_decide_eq_false u1
    have t3' := of_decide_eq_false u3
    rw [z3, z4]
    omega
  · obtain ⟨u1, u2, u3, u4⟩ := q6 z
    rw [zc 5 (by decide) (by decide), ho.k5] at k3
    rw [z4] at k4
    exact hdp u2 k k1 k2 k3 k4
  · rw [zc 4 (by decide) (by decide), ho.k4] at z
    exact absurd z (by decide)
/-- the loop over the wants before -/
theorem want_341 {W0 : mG} {v1 v2 q1 q2 : Int} {b0 : Int × Int} (hS : S ≤ 1) (hm : m < 40) (ht3 : t + 1 + 1 + 1 + 1 + 1 ≤ 600) (m19 : W0 64 19 = (S : Int)) (W13 : W0 64 13 = 0) (W68b : W0 68 (t + 1 + 1 + 1) = q2) (W80 : W0 80 (40 * S + m) = v2) (hEnd : ∀ M : mG, (∀ a, a ≠ 64 → M a = W0 a) → (∀ i, i ≠ 15 → i ≠ 16 → M 64 i = W0 64 i) → (M 64 15, M 64 16) = blP (dpW S m W0 cp v2 m) (blP (decide (v2 < 0 ∨ 6 ≤ v2)) (blP (decide (v1 = 0 ∨ 9 < v1)) b0 5 q1) 5 q2) 3 q2 → W2 o_X12 M_X12_tellClause (inN [64, 72, 73, 74, 75, 76, 77, 78, 79, 80, 81, 82, 83, 84, 85, 86, 87, 88, 89, 90, 91, 92, 93]) (q + 12) Q 494 [some (mR 69), some (mI cp), none, some (mI ((40 * S + m : Nat) : Int)), none, none, none, none] [] M) : ∀ M : mG, (∀ a, a ≠ 64 → M a = W0 a) → (∀ i, i ≠ 15 → i ≠ 16 → M 64 i = W0 64 i) → (M 64 15, M 64 16) = blP (decide (v2 < 0 ∨ 6 ≤ v2)) (blP (decide (v1 = 0 ∨ 9 < v1)) b0 5 q1) 5 q2 → W2 o_X12 M_X12_tellClause (inN [64, 72, 73, 74, 75, 76, 77, 78, 79, 80, 81, 82, 83, 84, 85, 86, 87, 88, 89, 90, 91, 92, 93]) (q + 12) Q 341 [some (mR 69), some (mI cp), none, some (mI ((40 * S + m : Nat) : Int)), some (mI ((t + 1 : Nat) : Int)), some (mI ((t + 1 + 1 + 1 : Nat) : Int)), some (mI ((t + 1 + 1 + 1 + 1 + 1 : Nat) : Int)), none] [] M := by
  intro M w1 w2 w3
  have k19 : M 64 19 = (S : Int) := by rw [w2 19 (by decide) (by decide)]; exact m19
  refine tl_341 k19 ?_
  rw [k19, w32_i (x := 40 * ((S : Nat) : Int)) (by omega) (by omega), show 40 * ((S : Nat) : Int) = ((40 * S + 0 : Nat) : Int) from by omega]
  exact want_loop (v := v2) (y := q2) (b0 := blP (decide (v2 < 0 ∨ 6 ≤ v2)) (blP (decide (v1 = 0 ∨ 9 < v1)) b0 5 q1) 5 q2) hS hm (by omega) W68b W80 W13 hEnd m 0 (by omega) M w1 w2 w3
/-- the blame for the district -/
theorem want_324 {W0 : mG} {v1 v2 q1 q2 : Int} {b0 : Int × Int} (hS : S ≤ 1) (hm : m < 40) (ht3 : t + 1 + 1 + 1 + 1 + 1 ≤ 600) (m19 : W0 64 19 = (S : Int)) (W13 : W0 64 13 = 0) (W68b : W0 68 (t + 1 + 1 + 1) = q2) (W80 : W0 80 (40 * S + m) = v2) (v2r : 0 ≤ v2) (hEnd : ∀ M : mG, (∀ a, a ≠ 64 → M a = W0 a) → (∀ i, i ≠ 15 → i ≠ 16 → M 64 i = W0 64 i) → (M 64 15, M 64 16) = blP (dpW S m W0 cp v2 m) (blP (decide (v2 < 0 ∨ 6 ≤ v2)) (blP (decide (v1 = 0 ∨ 9 < v1)) b0 5 q1) 5 q2) 3 q2 → W2 o_X12 M_X12_tellClause (inN [64, 72, 73, 74, 75, 76, 77, 78, 79, 80, 81, 82, 83, 84, 85, 86, 87, 88, 89, 90, 91, 92, 93]) (q + 12) Q 494 [some (mR 69), some (mI cp), none, some (mI ((40 * S + m : Nat) : Int)), none, none, none, none] [] M) : ∀ M : mG, (∀ a, a ≠ 64 → M a = W0 a) → (∀ i, i ≠ 15 → i ≠ 16 → M 64 i = W0 64 i) → (M 64 15, M 64 16) = blP (decide (v1 = 0 ∨ 9 < v1)) b0 5 q1 → W2 o_X12 M_X12_tellClause (inN [64, 72, 73, 74, 75, 76, 77, 78, 79, 80, 81, 82, 83, 84, 85, 86, 87, 88, 89, 90, 91, 92, 93]) (q + 12) Q 324 [some (mR 69), some (mI cp), none, some (mI ((40 * S + m : Nat) : Int)), some (mI ((t + 1 : Nat) : Int)), some (mI ((t + 1 + 1 + 1 : Nat) : Int)), some (mI ((t + 1 + 1 + 1 + 1 + 1 : Nat) : Int)), none] [] M := by
  have hLp := want_341 hS hm ht3 m19 W13 W68b W80 hEnd
  intro M w1 w2 w3
  have m80 : M 80 (Int.toNat ((40 * S + m : Nat) : Int)) = v2 := by rw [st_nat, w1 80 (by decide)]; exact W80
  have M13 : M 64 13 = 0 := by rw [w2 13 (by decide) (by decide)]; exact W13
  refine tl_324 (by omega) (by omega) (fun z => ?_) (fun z => ?_)
  · rw [m80] at z
    obtain ⟨g1, g2⟩ := fx_wrong M 5 ((t + 1 + 1 + 1 : Nat) : Int)
    obtain ⟨o1, o2⟩ := wrong_bl (x := 5) (y := ((t + 1 + 1 + 1 : Nat) : Int)) M13
    rw [st_nat, w1 68 (by decide), W68b] at o1 o2
    refine hLp _ (fun a u => by rw [g1 a u]; exact w1 a u) (fun i u1 u2 => by rw [g2 i u1 u2]; exact w2 i u1 u2) ?_
    rw [o1, o2, ← w3, decide_eq_true (show v2 < 0 ∨ 6 ≤ v2 by omega)]
    rfl
  · rw [m80] at z
    refine hLp M w1 w2 ?_
    rw [w3, decide_eq_false (show ¬ (v2 < 0 ∨ 6 ≤ v2) by omega)]
    rfl
/-- what the reference says of a want's numbers -/
theorem want_296 {W0 : mG} {v1 v2 q1 q2 : Int} {b0 : Int × Int} (hS : S ≤ 1) (hm : m < 40) (ht3 : t + 1 + 1 + 1 + 1 + 1 ≤ 600) (m19 : W0 64 19 = (S : Int)) (W13 : W0 64 13 = 0) (W68a : W0 68 (t + 1) = q1) (W68b : W0 68 (t + 1 + 1 + 1) = q2) (W79 : W0 79 (40 * S + m) = v1) (W80 : W0 80 (40 * S + m) = v2) (v1r : 0 ≤ v1) (v2r : 0 ≤ v2) (Wb : (W0 64 15, W0 64 16) = b0) (hEnd : ∀ M : mG, (∀ a, a ≠ 64 → M a = W0 a) → (∀ i, i ≠ 15 → i ≠ 16 → M 64 i = W0 64 i) → (M 64 15, M 64 16) = blP (dpW S m W0 cp v2 m) (blP (decide (v2 < 0 ∨ 6 ≤ v2)) (blP (decide (v1 = 0 ∨ 9 < v1)) b0 5 q1) 5 q2) 3 q2 → W2 o_X12 M_X12_tellClause (inN [64, 72, 73, 74, 75, 76, 77, 78, 79, 80, 81, 82, 83, 84, 85, 86, 87, 88, 89, 90, 91, 92, 93]) (q + 12) Q 494 [some (mR 69), some (mI cp), none, some (mI ((40 * S + m : Nat) : Int)), none, none, none, none] [] M) : W2 o_X12 M_X12_tellClause (inN [64, 72, 73, 74, 75, 76, 77, 78, 79, 80, 81, 82, 83, 84, 85, 86, 87, 88, 89, 90, 91, 92, 93]) (q + 12) Q 296 [some (mR 69), some (mI cp), none, some (mI ((40 * S + m : Nat) : Int)), some (mI ((t + 1 : Nat) : Int)), some (mI ((t + 1 + 1 + 1 : Nat) : Int)), some (mI ((t + 1 + 1 + 1 + 1 + 1 : Nat) : Int)), none] [] W0 := by
  have h324 := want_324 hS hm ht3 m19 W13 W68b W80 v2r hEnd
  have m79 : W0 79 (Int.toNat ((40 * S + m : Nat) : Int)) = v1 := by rw [st_nat]; exact W79
  refine tl_296 (by omega) (by omega) (fun z => ?_) (fun z => ?_)
  · rw [m79] at z
    obtain ⟨g1, g2⟩ := fx_wrong W0 5 ((t + 1 : Nat) : Int)
    obtain ⟨o1, o2⟩ := wrong_bl (x := 5) (y := ((t + 1 : Nat) : Int)) W13
    rw [st_nat, W68a] at o1 o2
    refine h324 _ g1 g2 ?_
    rw [o1, o2, ← Wb, decide_eq_true (show v1 = 0 ∨ 9 < v1 by omega)]
    rfl
  · rw [m79] at z
    refine h324 W0 (fun _ _ => rfl) (fun _ _ _ => rfl) ?_
    rw [Wb, decide_eq_false (show ¬ (v1 = 0 ∨ 9 < v1) by omega)]
    rfl
/-- the class's heap behind a want's numbers -/
theorem want_cls {A1 A2 A3 A4 A5 W0 : mG} {v1 v2 v3 q1 q2 : Int} (hc : c = 40 ∨ c = 52) (hm : m < 40) (hn1 : 1 ≤ n) (hcp : cp = (n : Int) - 1) (h : J8 8 c L r F K S G0 t n m p l qq s H) (ho : OC c n m p 18 9 s s1) (a1 : ∀ k, k ≠ 20 → A1 k = s1 k) (st1 : f_X10_start A1 = q1) (b1 : ∀ k, k ≠ 20 → A2 k = (gs (e_X1_setAmount c (e_X7_blameIf A1 (if decide (v1 = 0 ∨ 9 < v1) = true then 1 else 0) 5) v1) 15 8 10) k) (c1 : ∀ k, k ≠ 20 → A3 k = (gs A2 15 8 11) k) (st3 : f_X10_start A3 = q2) (d1 : ∀ k, k ≠ 20 → A4 k = (gs (e_X1_setDistrict c (e_X7_blameIf (e_X7_blameIf A3 (if decide (¬ f_X1_wantOf c A3 (w32 (A3 c 11 - 1)) v2 = -1) = true then 1 else 0) 3) (if decide (v2 < 0 ∨ 6 ≤ v2) = true then 1 else 0) 5) v2) 15 8 12) k) (m1 : ∀ k, k ≠ 20 → A5 k = (gs A4 15 8 13) k) (v2r : 0 ≤ v2) (hW : ∀ a k, k < m → (a = 77 ∨ a = 78 ∨ a = 80) → W0 a (40 * S + k) = H a (40 * S + k)) : WC c m s1 (gs (e_X1_setWorth c A5 v3) 15 8 7) v1 v2 v3 (blP (decide (v2 < 0 ∨ 6 ≤ v2)) (blP (dpW S m W0 cp v2 m) (blP (decide (v1 = 0 ∨ 9 < v1)) (s1 15 10, s1 15 11) 5 q1) 3 q2) 5 q2).1 (blP (decide (v2 < 0 ∨ 6 ≤ v2)) (blP (dpW S m W0 cp v2 m) (blP (decide (v1 = 0 ∨ 9 < v1)) (s1 15 10, s1 15 11) 5 q1) 3 q2) 5 q2).2 ∧ (dpW S m W0 cp v2 m = false → ∀ k, k < m → s (c + 4) k = 18 → s (c + 5) k = (n : Int) - 1 → s (c + 7) k = v2 → False) := by
  have wc0 : WC c m s1 s1 0 (-1) (s1 (c + 8) m) (s1 15 10, s1 15 11).1 (s1 15 10, s1 15 11).2 := ⟨fun _ _ _ _ _ _ => rfl, fun _ _ _ _ _ => rfl, ⟨ho.k6, ho.k7, rfl⟩, fun _ _ _ _ => rfl, rfl, rfl⟩
  have wc1 := WC_if (w := decide (v1 = 0 ∨ 9 < v1)) (q := (s1 15 10, s1 15 11)) (x := 5) hc (WC_A hc wc0 a1)
  rw [st1] at wc1
  rw [setA_eq (show _ = ((m + 1 : Nat) : Int) from by rw [WC_12 hc wc1]; exact ho.c12) hm] at b1
  have wc2 := WC_A hc (WC_8 (x := 10) hc (WC_v6 (v := v1) hc wc1)) b1
  have wc3 := WC_A hc (WC_8 (x := 11) hc wc2) c1
  have hwd := want_dup (A := A3) (W0 := W0) (v := v2) hc hm h hcp hn1 (fun k hk => ⟨?_, ?_, ?_⟩) ?_ ?_ (by rw [WC_12 hc wc3]; exact ho.c12) hW
  · have wc4 := WC_if (w := decide (¬ f_X1_wantOf c A3 (w32 (A3 c 11 - 1)) v2 = -1)) (q := blP (decide (v1 = 0 ∨ 9 < v1)) (s1 15 10, s1 15 11) 5 q1) (x := 3) hc wc3
    rw [st3, hwd.1] at wc4
    have st4 : ∀ w : Int, f_X10_start (e_X7_blameIf A3 w 3) = q2 := by
      intro w
      unfold e_X7_blameIf
      by_cases z : w = 0
      · rw [if_pos z]; exact st3
      · rw [if_neg z]
        unfold f_X10_start
        rw [(blame_bl (G := A3)).2.2.1 20 (by decide)]
        exact st3
    have wc5 := WC_if (w := decide (v2 < 0 ∨ 6 ≤ v2)) (q := blP (dpW S m W0 cp v2 m) (blP (decide (v1 = 0 ∨ 9 < v1)) (s1 15 10, s1 15 11) 5 q1) 3 q2) (x := 5) hc wc4
    rw [st4] at wc5
    rw [hwd.1, setD_eq (show _ = ((m + 1 : Nat) : Int) from by rw [WC_12 hc wc5]; exact ho.c12) hm] at d1
    have wc6 := WC_A hc (WC_8 (x := 12) hc (WC_v7 (v := v2) hc wc5)) d1
    have wc7 := WC_A hc (WC_8 (x := 13) hc wc6) m1
    have wc8 := WC_8 (x := 7) hc (WC_v8 (v := v3) hc wc7)
    rw [← setW_eq (show _ = ((m + 1 : Nat) : Int) from by rw [WC_12 hc wc7]; exact ho.c12) hm] at wc8
    exact ⟨wc8, hwd.2⟩
  · rw [wc3.1 (c + 4) (WC_cj hc 4 (by decide) (by decide)).1 (WC_cj hc 4 (by decide) (by decide)).2.1 (WC_cj hc 4 (by decide) (by decide)).2.2.1 (WC_cj hc 4 (by decide) (by decide)).2.2.2.1 (WC_cj hc 4 (by decide) (by decide)).2.2.2.2]; exact OC_fs hc ho hk (Or.inl rfl)
  · rw [wc3.1 (c + 5) (WC_cj hc 5 (by decide) (by decide)).1 (WC_cj hc 5 (by decide) (by decide)).2.1 (WC_cj hc 5 (by decide) (by decide)).2.2.1 (WC_cj hc 5 (by decide) (by decide)).2.2.2.1 (WC_cj hc 5 (by decide) (by decide)).2.2.2.2]; exact OC_fs hc ho hk (Or.inr (Or.inl rfl))
  · rw [wc3.2.1 7 k (by decide) (by decide) (Nat.ne_of_lt hk)]; exact OC_fs hc ho hk (Or.inr (Or.inr rfl))
  · rw [wc3.2.2.1.2.1]
    intro q
    rw [← q] at v2r
    exact absurd v2r (by decide)
  · rw [WC_12 hc wc3]; exact ho.c11
end CLV
