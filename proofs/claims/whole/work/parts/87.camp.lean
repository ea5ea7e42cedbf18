/-! ===== a campaign's head: the reference ===== -/
section CMR
variable {S n q : Nat} {H : mG} {Q : Option mV → mG → Prop}
set_option maxHeartbeats 8000000 in
theorem tm_81b {x1 x2 x3 : Int} (hf : 0 < H 64 13) (h : Q none H) : W2 o_X12 M_X12_tellCampaign (inN [64, 72, 73, 74, 75, 76, 77, 78, 79, 80, 81, 82, 83, 84, 85, 86, 87, 88, 89, 90, 91, 92, 93]) (q + 14) Q 81 [some (mR 69), some (mI x1), some (mI x2), some (mI x3), none, none] [] H := by
  refine w2_vc [89] 400 oo_X12 q_X12_tellCampaign ?_
  refine ⟨fun (c1 : (H 64 13) ≤ 0) => ?_, fun (c1 : 0 < (H 64 13)) => ?_⟩
  · exfalso; omega
  · exact h
/-- is there a campaign of this name already -/
def dpN (S : Nat) (H : mG) (v : Int) : Nat → Bool
  | 0 => false
  | j + 1 => dpN S H v j || decide (H 73 (8 * S + j) = v)
theorem dpN_i {v : Int} {j : Nat} : dpN S H v j = true ↔ ∃ k, k < j ∧ H 73 (8 * S + k) = v := by
  induction j with
  | zero => exact ⟨fun h => absurd (show false = true from h) (by decide), fun ⟨k, hk, _⟩ => absurd hk (by omega)⟩
  | succ j ih =>
    show (dpN S H v j || decide (H 73 (8 * S + j) = v)) = true ↔ _
    rw [Bool.or_eq_true, ih, decide_eq_true_iff]
    refine ⟨fun h => ?_, fun ⟨k, hk, hh⟩ => ?_⟩
    · rcases h with ⟨k, hk, hh⟩ | hh
      · exact ⟨k, by omega, hh⟩
      · exact ⟨j, by omega, hh⟩
    · by_cases z : k = j
      · subst z; exact Or.inr hh
      · exact Or.inl ⟨k, by omega, hh⟩
/-- the reference looks through the names before -/
theorem name_loop {W0 : mG} {i1 i2 i3 : Nat} {v y : Int} {b0 : Int × Int} (hS : S ≤ 1) (hn : n ≤ 8) (hi : i1 ≤ 600) (hy : W0 68 i1 = y) (hv : W0 70 i1 = v) (h13 : W0 64 13 = 0) (hE : ∀ M : mG, (∀ a, a ≠ 64 → M a = W0 a) → (∀ i, i ≠ 15 → i ≠ 16 → M 64 i = W0 64 i) → (M 64 15, M 64 16) = blP (dpN S W0 v n) b0 3 y → W2 o_X12 M_X12_tellCampaign (inN [64, 72, 73, 74, 75, 76, 77, 78, 79, 80, 81, 82, 83, 84, 85, 86, 87, 88, 89, 90, 91, 92, 93]) (q + 14) Q 153 [some (mR 69), some (mI ((i1 : Nat) : Int)), some (mI ((i2 : Nat) : Int)), some (mI ((i3 : Nat) : Int)), some (mI ((8 * S + n : Nat) : Int)), none] [] M) : ∀ d j : Nat, j + d = n → ∀ M : mG, (∀ a, a ≠ 64 → M a = W0 a) → (∀ i, i ≠ 15 → i ≠ 16 → M 64 i = W0 64 i) → (M 64 15, M 64 16) = blP (dpN S W0 v j) b0 3 y → W2 o_X12 M_X12_tellCampaign (inN [64, 72, 73, 74, 75, 76, 77, 78, 79, 80, 81, 82, 83, 84, 85, 86, 87, 88, 89, 90, 91, 92, 93]) (q + 14) Q 117 [some (mR 69), some (mI ((i1 : Nat) : Int)), some (mI ((i2 : Nat) : Int)), some (mI ((i3 : Nat) : Int)), some (mI ((8 * S + n : Nat) : Int)), some (mI ((8 * S + j : Nat) : Int))] [] M := by
  intro d
  induction d with
  | zero =>
    intro j hj M h1 h2 h3
    have e : j = n := by omega
    subst e
    exact tm_117 (by omega) hi (fun _ => hE M h1 h2 h3) (fun q => absurd q (by omega)) (fun q => absurd q (by omega))
  | succ d ih =>
    intro j hj M h1 h2 h3
    have m13 : M 64 13 = 0 := by rw [h2 13 (by decide) (by decide)]; exact h13
    have m68 : M 68 i1 = y := by rw [h1 68 (by decide)]; exact hy
    have es : ∀ w : Bool, dpN S W0 v (j + 1) = (dpN S W0 v j || decide (W0 73 (8 * S + j) = v)) := fun _ => rfl
    refine tm_117 (by omega) hi (fun q => absurd q (by omega)) (fun _ y2 => ?_) (fun _ y2 => ?_)
    · rw [st_nat, st_nat, h1 73 (by decide), h1 70 (by decide), hv] at y2
      obtain ⟨w1, w2⟩ := fx_wrong M 3 ((i1 : Nat) : Int)
      obtain ⟨u1, u2⟩ := wrong_bl (x := 3) (y := ((i1 : Nat) : Int)) m13
      rw [st_nat, m68] at u1 u2
      refine ih (j + 1) (by omega) _ (fun a ha => by rw [w1 a ha]; exact h1 a ha) (fun i z1 z2 => by rw [w2 i z1 z2]; exact h2 i z1 z2) ?_
      have e1 : M 64 15 = (blP (dpN S W0 v j) b0 3 y).1 := congrArg Prod.fst h3
      have e2 : M 64 16 = (blP (dpN S W0 v j) b0 3 y).2 := congrArg Prod.snd h3
      rw [u1, u2, e1, e2, es true, decide_eq_true y2, Bool.or_true]
      cases dpN S W0 v j with
      | true => show bl (bl b0.1 b0.2 3 y).1 (bl b0.1 b0.2 3 y).2 3 y = bl b0.1 b0.2 3 y; exact bl_i (by decide)
      | false => rfl
    · rw [st_nat, st_nat, h1 73 (by decide), h1 70 (by decide), hv] at y2
      refine ih (j + 1) (by omega) M h1 h2 ?_
      rw [h3, es true, decide_eq_false y2, Bool.or_false]
/-- a campaign told: what the reference wrote -/
def RC (S n : Nat) (W0 V : mG) (nm v1 v2 : Int) (bp : Int × Int) : Prop := (∀ a, a ≠ 64 → a ≠ 72 → a ≠ 73 → a ≠ 74 → a ≠ 75 → V a = W0 a) ∧ (∀ i, i ≠ 15 → i ≠ 16 → V 64 i = W0 64 i) ∧ (V 72 S = ((n + 1 : Nat) : Int) ∧ V 73 (8 * S + n) = nm ∧ V 74 (8 * S + n) = v1 ∧ V 75 (8 * S + n) = v2) ∧ (∀ i, i ≠ S → V 72 i = W0 72 i) ∧ (∀ i, i ≠ 8 * S + n → V 73 i = W0 73 i ∧ V 74 i = W0 74 i ∧ V 75 i = W0 75 i) ∧ (V 64 15, V 64 16) = bp
set_option maxHeartbeats 8000000 in
theorem camp_117 {W0 : mG} {i1 i2 i3 : Nat} {nm v1 v2 y1 y3 : Int} (hS : S ≤ 1) (hn : n < 8) (hi : i1 ≤ 600 ∧ i2 ≤ 600 ∧ i3 ≤ 600) (h13 : W0 64 13 = 0) (h19 : W0 64 19 = (S : Int)) (h72 : W0 72 S = (n : Int)) (e1 : W0 68 i1 = y1) (e2 : W0 70 i1 = nm) (e3 : W0 69 i2 = v1) (e4 : W0 69 i3 = v2) (e5 : W0 68 i3 = y3) (hE : ∀ V : mG, RC S n W0 V nm v1 v2 (blP (decide (v2 ≤ v1 ∨ 26 < v2)) (blP (dpN S W0 nm n) (W0 64 15, W0 64 16) 3 y1) 5 y3) → W2 o_X12 M_X12_tellCampaign (inN [64, 72, 73, 74, 75, 76, 77, 78, 79, 80, 81, 82, 83, 84, 85, 86, 87, 88, 89, 90, 91, 92, 93]) (q + 14) Q 237 [some (mR 69), none, none, none, none, none] [] V) : W2 o_X12 M_X12_tellCampaign (inN [64, 72, 73, 74, 75, 76, 77, 78, 79, 80, 81, 82, 83, 84, 85, 86, 87, 88, 89, 90, 91, 92, 93]) (q + 14) Q 117 [some (mR 69), some (mI ((i1 : Nat) : Int)), some (mI ((i2 : Nat) : Int)), some (mI ((i3 : Nat) : Int)), some (mI ((8 * S + n : Nat) : Int)), some (mI ((8 * S + 0 : Nat) : Int))] [] W0 := by
  refine name_loop (y := y1) (v := nm) (b0 := (W0 64 15, W0 64 16)) hS (by omega) hi.1 e1 e2 h13 ?_ n 0 (by omega) W0 (fun _ _ => rfl) (fun _ _ _ => rfl) rfl
  intro M w1 w2 w3
  refine tm_153 (by omega) hi ?_
  rw [w1 70 (by decide), w1 69 (by decide), e2, e3, e4]
  -- the rows written
  have x69 : ∀ i, (gs (gs (gs M 73 (8 * S + n) nm) 74 (8 * S + n) v1) 75 (8 * S + n) v2) 69 i = W0 69 i := fun i => by rw [gs_ne (by decide), gs_ne (by decide), gs_ne (by decide), w1 69 (by decide)]
  have x68 : ∀ i, (gs (gs (gs M 73 (8 * S + n) nm) 74 (8 * S + n) v1) 75 (8 * S + n) v2) 68 i = W0 68 i := fun i => by rw [gs_ne (by decide), gs_ne (by decide), gs_ne (by decide), w1 68 (by decide)]
  have x64 : ∀ i, (gs (gs (gs M 73 (8 * S + n) nm) 74 (8 * S + n) v1) 75 (8 * S + n) v2) 64 i = M 64 i := fun i => by rw [gs_ne (by decide), gs_ne (by decide), gs_ne (by decide)]
  have x72 : ∀ i, (gs (gs (gs M 73 (8 * S + n) nm) 74 (8 * S + n) v1) 75 (8 * S + n) v2) 72 i = W0 72 i := fun i => by rw [gs_ne (by decide), gs_ne (by decide), gs_ne (by decide), w1 72 (by decide)]
  have xa : ∀ a, a ≠ 64 → a ≠ 73 → a ≠ 74 → a ≠ 75 → (gs (gs (gs M 73 (8 * S + n) nm) 74 (8 * S + n) v1) 75 (8 * S + n) v2) a = W0 a := fun a z1 z2 z3 z4 => by rw [gs_ne z4, gs_ne z3, gs_ne z2, w1 a z1]
  have xr : ((gs (gs (gs M 73 (8 * S + n) nm) 74 (8 * S + n) v1) 75 (8 * S + n) v2) 73 (8 * S + n) = nm ∧ (gs (gs (gs M 73 (8 * S + n) nm) 74 (8 * S + n) v1) 75 (8 * S + n) v2) 74 (8 * S + n) = v1 ∧ (gs (gs (gs M 73 (8 * S + n) nm) 74 (8 * S + n) v1) 75 (8 * S + n) v2) 75 (8 * S + n) = v2) := ⟨by rw [gs_ne (by decide), gs_ne (by decide), gs_at], by rw [gs_ne (by decide), gs_at], gs_at _ _ _ _⟩
  have xo : ∀ i, i ≠ 8 * S + n → (gs (gs (gs M 73 (8 * S + n) nm) 74 (8 * S + n) v1) 75 (8 * S + n) v2) 73 i = W0 73 i ∧ (gs (gs (gs M 73 (8 * S + n) nm) 74 (8 * S + n) v1) 75 (8 * S + n) v2) 74 i = W0 74 i ∧ (gs (gs (gs M 73 (8 * S + n) nm) 74 (8 * S + n) v1) 75 (8 * S + n) v2) 75 i = W0 75 i := fun i hi => ⟨by rw [gs_ne (by decide), gs_ne (by decide), gs_at_ne hi, w1 73 (by decide)], by rw [gs_ne (by decide), gs_at_ne hi, gs_ne (by decide), w1 74 (by decide)], by rw [gs_at_ne hi, gs_ne (by decide), gs_ne (by decide), w1 75 (by decide)]⟩
  generalize (gs (gs (gs M 73 (8 * S + n) nm) 74 (8 * S + n) v1) 75 (8 * S + n) v2) = V0 at *
  have fin : ∀ V : mG, (∀ a, a ≠ 64 → V a = V0 a) → (∀ i, i ≠ 15 → i ≠ 16 → V 64 i = V0 64 i) → (V 64 15, V 64 16) = blP (decide (v2 ≤ v1 ∨ 26 < v2)) (blP (dpN S W0 nm n) (W0 64 15, W0 64 16) 3 y1) 5 y3 → W2 o_X12 M_X12_tellCampaign (inN [64, 72, 73, 74, 75, 76, 77, 78, 79, 80, 81, 82, 83, 84, 85, 86, 87, 88, 89, 90, 91, 92, 93]) (q + 14) Q 224 [some (mR 69), none, none, none, none, none] [] V := by
    intro V q1 q2 q3
    have k19 : V 64 19 = (S : Int) := by rw [q2 19 (by decide) (by decide), x64, w2 19 (by decide) (by decide)]; exact h19
    have k72 : V 72 S = (n : Int) := by rw [q1 72 (by decide), x72]; exact h72
    refine tm_224 (by omega) ?_
    rw [k19, st_nat, k72, w32_nat (by omega)]
    refine hE _ ⟨fun a z1 z2 z3 z4 z5 => by rw [gs_ne z2, q1 a z1, xa a z1 z3 z4 z5], fun i z1 z2 => by rw [gs_ne (by decide), q2 i z1 z2, x64, w2 i z1 z2], ⟨gs_at _ _ _ _, ?_, ?_, ?_⟩, fun i hi => by rw [gs_at_ne hi, q1 72 (by decide), x72], fun i hi => ?_, ?_⟩
    · rw [gs_ne (by decide), q1 73 (by decide)]; exact xr.1
    · rw [gs_ne (by decide), q1 74 (by decide)]; exact xr.2.1
    · rw [gs_ne (by decide), q1 75 (by decide)]; exact xr.2.2
    · rw [gs_ne (by decide), gs_ne (by decide), gs_ne (by decide), q1 73 (by decide), q1 74 (by decide), q1 75 (by decide)]; exact xo i hi
    · rw [gs_ne (by decide)]; exact q3
  have v13 : V0 64 13 = 0 := by rw [x64, w2 13 (by decide) (by decide)]; exact h13
  refine tm_192 hi.2 (fun z => ?_) (fun z => ?_)
  · rw [st_nat, st_nat, x69, x69, e3, e4] at z
    obtain ⟨g1, g2⟩ := fx_wrong V0 5 ((i3 : Nat) : Int)
    obtain ⟨o1, o2⟩ := wrong_bl (x := 5) (y := ((i3 : Nat) : Int)) v13
    rw [st_nat, x68, e5, x64, x64] at o1 o2
    refine fin _ g1 g2 ?_
    rw [o1, o2, ← w3, decide_eq_true z]
    rfl
  · rw [st_nat, st_nat, x69, x69, e3, e4] at z
    refine fin V0 (fun _ _ => rfl) (fun _ _ _ => rfl) ?_
    rw [x64, x64, w3, decide_eq_false z]
    rfl
end CMR
