/-! ===== wip/whole/gen86f.py: want ===== -/
set_option maxHeartbeats 8000000 in
theorem tl_249b {q : Nat} {H : mG} {Q : Option mV → mG → Prop} {cp x4 x5 x6 : Int} {e : Nat} (hf : 0 < H 64 13) (h : Q none H) : W2 o_X12 M_X12_tellClause (inN [64, 72, 73, 74, 75, 76, 77, 78, 79, 80, 81, 82, 83, 84, 85, 86, 87, 88, 89, 90, 91, 92, 93]) (q + 12) Q 249 [some (mR 69), some (mI cp), none, some (mI ((e : Nat) : Int)), some (mI x4), some (mI x5), some (mI x6), none] [] H := by
  refine w2_vc [257] 400 oo_X12 q_X12_tellClause ?_
  refine ⟨fun (c1 : (H 64 13) ≤ 0) => ?_, fun (c1 : 0 < (H 64 13)) => ?_⟩
  · skip
    refine (show W2 o_X12 M_X12_tellClause (inN [64, 72, 73, 74, 75, 76, 77, 78, 79, 80, 81, 82, 83, 84, 85, 86, 87, 88, 89, 90, 91, 92, 93]) (q + 12) Q 257 [some (mR 69), some (mI cp), none, some (mI ((e : Nat) : Int)), some (mI x4), some (mI x5), some (mI x6), none] [] H from ?_)
    exfalso; omega
  · skip
    exact h
/-- the class within a want: what it may have changed -/
def WC (c m : Nat) (s1 z : mG) (v6 v7 v8 f p : Int) : Prop := (∀ a, a ≠ 15 → a ≠ 20 → a ≠ c + 6 → a ≠ c + 7 → a ≠ c + 8 → z a = s1 a) ∧ (∀ j i, 6 ≤ j → j ≤ 8 → i ≠ m → z (c + j) i = s1 (c + j) i) ∧ (z (c + 6) m = v6 ∧ z (c + 7) m = v7 ∧ z (c + 8) m = v8) ∧ (∀ i, i ≠ 8 → i ≠ 10 → i ≠ 11 → z 15 i = s1 15 i) ∧ z 15 10 = f ∧ z 15 11 = p
section WCS
variable {c m : Nat} {s1 z A : mG} {v6 v7 v8 f p v x y : Int}
theorem WC_A (hc : c = 40 ∨ c = 52) (h : WC c m s1 z v6 v7 v8 f p) (hA : ∀ k, k ≠ 20 → A k = z k) : WC c m s1 A v6 v7 v8 f p := by
  obtain ⟨h1, h2, ⟨h3, h4, h5⟩, h6, h7, h8⟩ := h
  have hn : ∀ j, c + j ≠ 20 ∨ 12 ≤ j := fun j => by omega
  refine ⟨fun a y1 y2 y3 y4 y5 => by rw [hA a y2]; exact h1 a y1 y2 y3 y4 y5, fun j i y1 y2 y3 => ?_, ⟨?_, ?_, ?_⟩, fun i y1 y2 y3 => by rw [hA 15 (by decide)]; exact h6 i y1 y2 y3, by rw [hA 15 (by decide)]; exact h7, by rw [hA 15 (by decide)]; exact h8⟩
  · rw [hA _ (by omega)]; exact h2 j i y1 y2 y3
  · rw [hA _ (by omega)]; exact h3
  · rw [hA _ (by omega)]; exact h4
  · rw [hA _ (by omega)]; exact h5
theorem WC_8 (hc : c = 40 ∨ c = 52) (h : WC c m s1 z v6 v7 v8 f p) : WC c m s1 (gs z 15 8 x) v6 v7 v8 f p := by
  obtain ⟨h1, h2, ⟨h3, h4, h5⟩, h6, h7, h8⟩ := h
  refine ⟨fun a y1 y2 y3 y4 y5 => by rw [gs_ne y1]; exact h1 a y1 y2 y3 y4 y5, fun j i y1 y2 y3 => ?_, ⟨?_, ?_, ?_⟩, fun i y1 y2 y3 => by rw [gs_at_ne y1]; exact h6 i y1 y2 y3, by rw [gs_at_ne (by decide)]; exact h7, by rw [gs_at_ne (by decide)]; exact h8⟩
  · rw [gs_ne (by omega)]; exact h2 j i y1 y2 y3
  · rw [gs_ne (by omega)]; exact h3
  · rw [gs_ne (by omega)]; exact h4
  · rw [gs_ne (by omega)]; exact h5
theorem WC_v (hc : c = 40 ∨ c = 52) {b : Nat} (hb : b = 6 ∨ b = 7 ∨ b = 8) (h : WC c m s1 z v6 v7 v8 f p) : WC c m s1 (gs z (c + b) m v) (if b = 6 then v else v6) (if b = 7 then v else v7) (if b = 8 then v else v8) f p := by
  obtain ⟨h1, h2, ⟨h3, h4, h5⟩, h6, h7, h8⟩ := h
  have ne15 : (15 : Nat) ≠ c + b := by omega
  refine ⟨fun a y1 y2 y3 y4 y5 => by rw [gs_ne (by omega)]; exact h1 a y1 y2 y3 y4 y5, fun j i y1 y2 y3 => ?_, ⟨?_, ?_, ?_⟩, fun i y1 y2 y3 => by rw [gs_ne ne15]; exact h6 i y1 y2 y3, by rw [gs_ne ne15]; exact h7, by rw [gs_ne ne15]; exact h8⟩
  · by_cases q : c + j = c + b
    · rw [q, gs_at_ne y3, ← q]; exact h2 j i y1 y2 y3
    · rw [gs_ne q]; exact h2 j i y1 y2 y3
  · by_cases q : b = 6
    · subst q; rw [gs_at, if_pos rfl]
    · rw [gs_ne (by omega), if_neg q]; exact h3
  · by_cases q : b = 7
    · subst q; rw [gs_at, if_pos rfl]
    · rw [gs_ne (by omega), if_neg q]; exact h4
  · by_cases q : b = 8
    · subst q; rw [gs_at, if_pos rfl]
    · rw [gs_ne (by omega), if_neg q]; exact h5
theorem WC_bl (hc : c = 40 ∨ c = 52) (h : WC c m s1 z v6 v7 v8 f p) : WC c m s1 (e_X7_blame z x y) v6 v7 v8 (bl f p x y).1 (bl f p x y).2 := by
  obtain ⟨h1, h2, ⟨h3, h4, h5⟩, h6, h7, h8⟩ := h
  obtain ⟨p1, p2, p3, p4⟩ := blame_bl (G := z) (x := x) (y := y)
  rw [h7, h8] at p1 p2
  refine ⟨fun a y1 y2 y3 y4 y5 => by rw [p3 a y1]; exact h1 a y1 y2 y3 y4 y5, fun j i y1 y2 y3 => ?_, ⟨?_, ?_, ?_⟩, fun i y1 y2 y3 => by rw [p4 i y2 y3]; exact h6 i y1 y2 y3, p1, p2⟩
  · rw [p3 _ (by omega)]; exact h2 j i y1 y2 y3
  · rw [p3 _ (by omega)]; exact h3
  · rw [p3 _ (by omega)]; exact h4
  · rw [p3 _ (by omega)]; exact h5
/-- a blame, if -/
def blP (w : Bool) (q : Int × Int) (x y : Int) : Int × Int := if w = true then bl q.1 q.2 x y else q
theorem WC_if (hc : c = 40 ∨ c = 52) {w : Bool} {q : Int × Int} (h : WC c m s1 z v6 v7 v8 q.1 q.2) : WC c m s1 (e_X7_blameIf z (if w = true then 1 else 0) x) v6 v7 v8 (blP w q x (f_X10_start z)).1 (blP w q x (f_X10_start z)).2 := by
  cases w with
  | true => rw [if_pos rfl, blf_1]; exact WC_bl hc h
  | false => rw [if_neg (by decide), blf_0]; exact h
theorem blP_le {w : Bool} {q : Int × Int} (hq : 0 ≤ q.1) (hx : 0 < x) : 0 ≤ (blP w q x y).1 ∧ ((blP w q x y).1 = 0 → w = false ∧ q.1 = 0) ∧ (¬ q.1 = 0 → (blP w q x y).2 ≤ q.2) := by
  cases w with
  | true =>
    have := bl_le (f := q.1) (p := q.2) (x := x) (y := y) hq hx
    refine ⟨?_, fun z => ?_, fun z => ?_⟩
    · show 0 ≤ (bl q.1 q.2 x y).1; omega
    · have z2 : (bl q.1 q.2 x y).1 = 0 := z
      omega
    · exact this.2.2 z
  | false => exact ⟨hq, fun z => ⟨rfl, z⟩, fun _ => Int.le_refl _⟩
theorem blP_bq {w : Bool} {q q' : Int × Int} (h : bq q.1 q.2 q'.1 q'.2) (hx : 0 < x) : bq (blP w q x y).1 (blP w q x y).2 (blP w q' x y).1 (blP w q' x y).2 := by
  cases w with
  | true => exact bl_bq h hx
  | false => exact h
theorem blP_c {w w' : Bool} {q : Int × Int} {x' y' : Int} (hx : 0 < x) (hx' : 0 < x') : blP w (blP w' q x' y') x y = blP w' (blP w q x y) x' y' := by
  cases w with
  | true =>
    cases w' with
    | true => exact bl_c hx' hx
    | false => rfl
  | false => rfl
end WCS
section CLW
variable {c : Nat} {L : Int} {r : Nat → Int} {F : mG} {K S : Nat} {G0 : mG} {t n m p l qq q : Nat} {s H s1 H1 : mG} {Q : Option mV → mG → Prop} {cp : Int}
/-- is there a want of this campaign in this district already -/
def dpW (S m : Nat) (H : mG) (cp v : Int) : Nat → Bool
  | 0 => false
  | j + 1 => dpW S m H cp v j || decide (H 77 (40 * S + j) = 0 ∧ H 78 (40 * S + j) = cp ∧ H 80 (40 * S + j) = v)
theorem dpW_i {v : Int} {j : Nat} : dpW S m H cp v j = true ↔ ∃ k, k < j ∧ H 77 (40 * S + k) = 0 ∧ H 78 (40 * S + k) = cp ∧ H 80 (40 * S + k) = v := by
  induction j with
  | zero => exact ⟨fun h => absurd (show false = true from h) (by decide), fun ⟨k, hk, _⟩ => absurd hk (by omega)⟩
  | succ j ih =>
    show (dpW S m H cp v j || decide (H 77 (40 * S + j) = 0 ∧ H 78 (40 * S + j) = cp ∧ H 80 (40 * S + j) = v)) = true ↔ _
    rw [Bool.or_eq_true, ih, decide_eq_true_iff]
    refine ⟨fun h => ?_, fun ⟨k, hk, hh⟩ => ?_⟩
    · rcases h with ⟨k, hk, hh⟩ | hh
      · exact ⟨k, by omega, hh⟩
      · exact ⟨j, by omega, hh⟩
    · by_cases z : k = j
      · subst z; exact Or.inr hh
      · exact Or.inl ⟨k, by omega, hh⟩
/-- the reference looks through the wants before -/
theorem want_loop {W0 : mG} {i1 i2 i3 : Nat} {v y : Int} {b0 : Int × Int} (hS : S ≤ 1) (hm : m < 40) (hi : i2 ≤ 600) (hy : W0 68 i2 = y) (hv : W0 80 (40 * S + m) = v) (h13 : W0 64 13 = 0) (hE : ∀ M : mG, (∀ a, a ≠ 64 → M a = W0 a) → (∀ i, i ≠ 15 → i ≠ 16 → M 64 i = W0 64 i) → (M 64 15, M 64 16) = blP (dpW S m W0 cp v m) b0 3 y → W2 o_X12 M_X12_tellClause (inN [64, 72, 73, 74, 75, 76, 77, 78, 79, 80, 81, 82, 83, 84, 85, 86, 87, 88, 89, 90, 91, 92, 93]) (q + 12) Q 494 [some (mR 69), some (mI cp), none, some (mI ((40 * S + m : Nat) : Int)), none, none, none, none] [] M) : ∀ d j : Nat, j + d = m → ∀ M : mG, (∀ a, a ≠ 64 → M a = W0 a) → (∀ i, i ≠ 15 → i ≠ 16 → M 64 i = W0 64 i) → (M 64 15, M 64 16) = blP (dpW S m W0 cp v j) b0 3 y → W2 o_X12 M_X12_tellClause (inN [64, 72, 73, 74, 75, 76, 77, 78, 79, 80, 81, 82, 83, 84, 85, 86, 87, 88, 89, 90, 91, 92, 93]) (q + 12) Q 350 [some (mR 69), some (mI cp), none, some (mI ((40 * S + m : Nat) : Int)), some (mI ((i1 : Nat) : Int)), some (mI ((i2 : Nat) : Int)), some (mI ((i3 : Nat) : Int)), some (mI ((40 * S + j : Nat) : Int))] [] M := by
  intro d
  induction d with
  | zero =>
    intro j hj M h1 h2 h3
    have e : j = m := by omega
    subst e
    exact tl_350 (by omega) hi (fun _ => hE M h1 h2 h3) (fun q => absurd q (by omega)) (fun q => absurd q (by omega))
  | succ d ih =>
    intro j hj M h1 h2 h3
    have m13 : M 64 13 = 0 := by rw [h2 13 (by decide) (by decide)]; exact h13
    have m68 : M 68 i2 = y := by rw [h1 68 (by decide)]; exact hy
    have es : ∀ w : Bool, dpW S m W0 cp v (j + 1) = (dpW S m W0 cp v j || decide (W0 77 (40 * S + j) = 0 ∧ W0 78 (40 * S + j) = cp ∧ W0 80 (40 * S + j) = v)) := fun _ => rfl
    refine tl_350 (by omega) hi (fun q => absurd q (by omega)) (fun _ y2 => ?_) (fun _ y2 => ?_)
    · rw [st_nat, st_nat, h1 77 (by decide), h1 78 (by decide), h1 80 (by decide), hv] at y2
      obtain ⟨w1, w2⟩ := fx_wrong M 3 ((i2 : Nat) : Int)
      obtain ⟨u1, u2⟩ := wrong_bl (x := 3) (y := ((i2 : Nat) : Int)) m13
      rw [st_nat, m68] at u1 u2
      refine ih (j + 1) (by omega) _ (fun a ha => by rw [w1 a ha]; exact h1 a ha) (fun i z1 z2 => by rw [w2 i z1 z2]; exact h2 i z1 z2) ?_
      have e1 : M 64 15 = (blP (dpW S m W0 cp v j) b0 3 y).1 := congrArg Prod.fst h3
      have e2 : M 64 16 = (blP (dpW S m W0 cp v j) b0 3 y).2 := congrArg Prod.snd h3
      rw [u1, u2, e1, e2, es true, decide_eq_true y2, Bool.or_true]
      cases dpW S m W0 cp v j with
      | true => show bl (bl b0.1 b0.2 3 y).1 (bl b0.1 b0.2 3 y).2 3 y = bl b0.1 b0.2 3 y; exact bl_i (by decide)
      | false => rfl
    · rw [st_nat, st_nat, h1 77 (by decide), h1 78 (by decide), h1 80 (by decide), hv] at y2
      refine ih (j + 1) (by omega) M h1 h2 ?_
      rw [h3, es true, decide_eq_false y2, Bool.or_false]
end CLW
