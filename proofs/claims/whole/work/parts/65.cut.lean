/-! ===== printed by wip/whole/gen65.py: the reference cuts its text, piece by piece ===== -/
theorem w32_pj {x y : Int} (h : 0 ≤ x ∧ 0 ≤ y ∧ x + y ≤ 100000) : 0 ≤ w32 (x + y) := by rw [w32_i (by omega) (by omega)]; omega
set_option maxHeartbeats 8000000 in
theorem cu_7 {q p : Nat} {H : mG} {Q : Option mV → mG → Prop} (hz : H 64 4 ≤ 3000) (hp : p ≤ 3000) (hk : 0 ≤ H 64 10 ∧ H 64 10 ≤ 601) (h1 : 600 < H 64 10 → Q none H) (h2 : H 64 10 ≤ 600 → H 64 4 ≤ (p : Int) → Q none (e_X12_token H 0 (H 64 4) 0 0)) (h3 : H 64 10 ≤ 600 → (p : Int) < H 64 4 → ((f_X12_at H ((p : Nat) : Int)) = 9 ∨ (f_X12_at H ((p : Nat) : Int)) = 10 ∨ (f_X12_at H ((p : Nat) : Int)) = 13 ∨ (f_X12_at H ((p : Nat) : Int)) = 32) → W2 o_X12 M_X12_cut (inN [64, 67, 68, 69, 70]) (q + 10) Q 7 [some (mR 69), some (mI ((p + 1 : Nat) : Int)), none, none, none, none, none, none] [] H) (h4 : H 64 10 ≤ 600 → (p : Int) < H 64 4 → ¬ ((f_X12_at H ((p : Nat) : Int)) = 9 ∨ (f_X12_at H ((p : Nat) : Int)) = 10 ∨ (f_X12_at H ((p : Nat) : Int)) = 13 ∨ (f_X12_at H ((p : Nat) : Int)) = 32) → W2 o_X12 M_X12_cut (inN [64, 67, 68, 69, 70]) (q + 10) Q 73 [some (mR 69), some (mI ((p : Nat) : Int)), some (mI (f_X12_at H ((p : Nat) : Int))), none, none, none, none, none] [] H) : W2 o_X12 M_X12_cut (inN [64, 67, 68, 69, 70]) (q + 10) Q 7 [some (mR 69), some (mI ((p : Nat) : Int)), none, none, none, none, none, none] [] H := by
  refine w2_vc [7, 73] 400 oo_X12 q_X12_cut ?_
  refine ⟨fun (c1 : 600 < (H 64 10)) => ?_, fun (c1 : (H 64 10) ≤ 600) => ?_⟩
  · skip
    exact h1 (by omega)
  · skip
    refine sp_X12_at (by first | omega | exact w32_pj (by omega)) (hz) ?_
    refine ⟨fun (c3 : ((p : Nat) : Int) < (H 64 4)) => ?_, fun (c3 : (H 64 4) ≤ ((p : Nat) : Int)) => ?_⟩
    · skip
      refine ⟨fun (c4 : (f_X12_at H ((p : Nat) : Int)) = 9) => ?_, fun (c4 : ¬ (f_X12_at H ((p : Nat) : Int)) = 9) => ?_⟩
      · skip
        refine (show W2 o_X12 M_X12_cut (inN [64, 67, 68, 69, 70]) (q + 10) Q 7 [some (mR 69), some (mI (w32 (((p : Nat) : Int) + 1))), some (mI (f_X12_at H ((p : Nat) : Int))), none, none, none, none, none] [] H from ?_)
        rw [w32_nat (by omega)]
        refine WP.fg (L' := [some (mR 69), some (mI ((p + 1 : Nat) : Int)), none, none, none, none, none, none]) ⟨rfl, rfl, trivial⟩ ?_
        exact h3 (by omega) (by omega) (by omega)
      · skip
        refine ⟨fun (c5 : (f_X12_at H ((p : Nat) : Int)) = 10) => ?_, fun (c5 : ¬ (f_X12_at H ((p : Nat) : Int)) = 10) => ?_⟩
        · skip
          refine (show W2 o_X12 M_X12_cut (inN [64, 67, 68, 69, 70]) (q + 10) Q 7 [some (mR 69), some (mI (w32 (((p : Nat) : Int) + 1))), some (mI (f_X12_at H ((p : Nat) : Int))), none, none, none, none, none] [] H from ?_)
          rw [w32_nat (by omega)]
          refine WP.fg (L' := [some (mR 69), some (mI ((p + 1 : Nat) : Int)), none, none, none, none, none, none]) ⟨rfl, rfl, trivial⟩ ?_
          exact h3 (by omega) (by omega) (by omega)
        · skip
          refine ⟨fun (c6 : (f_X12_at H ((p : Nat) : Int)) = 13) => ?_, fun (c6 : ¬ (f_X12_at H ((p : Nat) : Int)) = 13) => ?_⟩
          · skip
            refine (show W2 o_X12 M_X12_cut (inN [64, 67, 68, 69, 70]) (q + 10) Q 7 [some (mR 69), some (mI (w32 (((p : Nat) : Int) + 1))), some (mI (f_X12_at H ((p : Nat) : Int))), none, none, none, none, none] [] H from ?_)
            rw [w32_nat (by omega)]
            refine WP.fg (L' := [some (mR 69), some (mI ((p + 1 : Nat) : Int)), none, none, none, none, none, none]) ⟨rfl, rfl, trivial⟩ ?_
            exact h3 (by omega) (by omega) (by omega)
          · skip
            refine ⟨fun (c7 : ¬ (f_X12_at H ((p : Nat) : Int)) = 32) => ?_, fun (c7 : (f_X12_at H ((p : Nat) : Int)) = 32) => ?_⟩
            · skip
              refine (show W2 o_X12 M_X12_cut (inN [64, 67, 68, 69, 70]) (q + 10) Q 73 [some (mR 69), some (mI ((p : Nat) : Int)), some (mI (f_X12_at H ((p : Nat) : Int))), none, none, none, none, none] [] H from ?_)
              exact h4 (by omega) (by omega) (by omega)
            · skip
              refine (show W2 o_X12 M_X12_cut (inN [64, 67, 68, 69, 70]) (q + 10) Q 7 [some (mR 69), some (mI (w32 (((p : Nat) : Int) + 1))), some (mI (f_X12_at H ((p : Nat) : Int))), none, none, none, none, none] [] H from ?_)
              rw [w32_nat (by omega)]
              refine WP.fg (L' := [some (mR 69), some (mI ((p + 1 : Nat) : Int)), none, none, none, none, none, none]) ⟨rfl, rfl, trivial⟩ ?_
              exact h3 (by omega) (by omega) (by omega)
    · skip
      refine sp_X12_token (by omega) (insub (by decide)) ?_
      exact h2 (by omega) (by omega)
set_option maxHeartbeats 8000000 in
theorem cu_73 {q p : Nat} {H : mG} {Q : Option mV → mG → Prop} (hz : H 64 4 ≤ 3000) (hp : p ≤ 3000) (hk : 0 ≤ H 64 10 ∧ H 64 10 ≤ 601) {x : Int} (h1 : 97 ≤ x ∧ x ≤ 122 → W2 o_X12 M_X12_cut (inN [64, 67, 68, 69, 70]) (q + 10) Q 85 [some (mR 69), some (mI ((p : Nat) : Int)), none, some (mI 0), some (mJ 0), none, none, none] [] H) (h2 : ¬ (97 ≤ x ∧ x ≤ 122) → W2 o_X12 M_X12_cut (inN [64, 67, 68, 69, 70]) (q + 10) Q 196 [some (mR 69), some (mI ((p : Nat) : Int)), some (mI x), none, none, none, none, none] [] H) : W2 o_X12 M_X12_cut (inN [64, 67, 68, 69, 70]) (q + 10) Q 73 [some (mR 69), some (mI ((p : Nat) : Int)), some (mI x), none, none, none, none, none] [] H := by
  refine w2_vc [85, 196] 400 oo_X12 q_X12_cut ?_
  refine sp_X12_isLetter  ?_
  have c2 := fa_X12_isLetter H x
  refine ⟨fun (c3 : (f_X12_isLetter H x) = 0) => ?_, fun (c3 : ¬ (f_X12_isLetter H x) = 0) => ?_⟩
  · skip
    refine (show W2 o_X12 M_X12_cut (inN [64, 67, 68, 69, 70]) (q + 10) Q 196 [some (mR 69), some (mI ((p : Nat) : Int)), some (mI x), none, none, none, none, none] [] H from ?_)
    exact h2 (by omega)
  · skip
    refine (show W2 o_X12 M_X12_cut (inN [64, 67, 68, 69, 70]) (q + 10) Q 85 [some (mR 69), some (mI ((p : Nat) : Int)), some (mI x), some (mI 0), some (mJ 0), none, none, none] [] H from ?_)
    refine WP.fg (L' := [some (mR 69), some (mI ((p : Nat) : Int)), none, some (mI 0), some (mJ 0), none, none, none]) ⟨rfl, rfl, rfl, rfl, trivial⟩ ?_
    exact h1 (by omega)
set_option maxHeartbeats 8000000 in
theorem cu_196 {q p : Nat} {H : mG} {Q : Option mV → mG → Prop} (hz : H 64 4 ≤ 3000) (hp : p ≤ 3000) (hk : 0 ≤ H 64 10 ∧ H 64 10 ≤ 601) {x : Int} (h1 : 48 ≤ x ∧ x ≤ 57 → W2 o_X12 M_X12_cut (inN [64, 67, 68, 69, 70]) (q + 10) Q 208 [some (mR 69), some (mI ((p : Nat) : Int)), none, some (mI 0), some (mI 0), none, none, none] [] H) (h2 : ¬ (48 ≤ x ∧ x ≤ 57) → W2 o_X12 M_X12_cut (inN [64, 67, 68, 69, 70]) (q + 10) Q 275 [some (mR 69), some (mI ((p : Nat) : Int)), some (mI x), none, none, none, none, none] [] H) : W2 o_X12 M_X12_cut (inN [64, 67, 68, 69, 70]) (q + 10) Q 196 [some (mR 69), some (mI ((p : Nat) : Int)), some (mI x), none, none, none, none, none] [] H := by
  refine w2_vc [208, 275] 400 oo_X12 q_X12_cut ?_
  refine sp_X12_isDigit  ?_
  have c2 := fa_X12_isDigit H x
  refine ⟨fun (c3 : (f_X12_isDigit H x) = 0) => ?_, fun (c3 : ¬ (f_X12_isDigit H x) = 0) => ?_⟩
  · skip
    refine (show W2 o_X12 M_X12_cut (inN [64, 67, 68, 69, 70]) (q + 10) Q 275 [some (mR 69), some (mI ((p : Nat) : Int)), some (mI x), none, none, none, none, none] [] H from ?_)
    exact h2 (by omega)
  · skip
    refine (show W2 o_X12 M_X12_cut (inN [64, 67, 68, 69, 70]) (q + 10) Q 208 [some (mR 69), some (mI ((p : Nat) : Int)), some (mI x), some (mI 0), some (mI 0), none, none, none] [] H from ?_)
    refine WP.fg (L' := [some (mR 69), some (mI ((p : Nat) : Int)), none, some (mI 0), some (mI 0), none, none, none]) ⟨rfl, rfl, rfl, rfl, trivial⟩ ?_
    exact h1 (by omega)
set_option maxHeartbeats 8000000 in
theorem cu_275 {q p : Nat} {H : mG} {Q : Option mV → mG → Prop} (hz : H 64 4 ≤ 3000) (hp : p ≤ 3000) (hk : 0 ≤ H 64 10 ∧ H 64 10 ≤ 601) {x y : Int} (hk6 : H 64 10 ≤ 600) (hy : f_X12_at H (w32 (((p : Nat) : Int) + 1)) = y) (h : ∀ sg : Int × mG, r_X12_sign H ((p : Nat) : Int) x y = sg → W2 o_X12 M_X12_cut (inN [64, 67, 68, 69, 70]) (q + 10) Q 7 [some (mR 69), some (mI (w32 (((p : Nat) : Int) + sg.1))), none, none, none, none, none, none] [] sg.2) : W2 o_X12 M_X12_cut (inN [64, 67, 68, 69, 70]) (q + 10) Q 275 [some (mR 69), some (mI ((p : Nat) : Int)), some (mI x), none, none, none, none, none] [] H := by
  refine w2_vc [7, 289] 400 oo_X12 q_X12_cut ?_
  refine sp_X12_at (by first | omega | exact w32_pj (by omega)) (hz) ?_
  rw [hy]
  refine sp_X12_sign (by omega) (insub (by decide)) ?_
  generalize hsg : r_X12_sign H ((p : Nat) : Int) x y = sg
  refine (show W2 o_X12 M_X12_cut (inN [64, 67, 68, 69, 70]) (q + 10) Q 289 [some (mR 69), some (mI ((p : Nat) : Int)), some (mI x), none, none, none, none, none] [mI sg.1, mI ((p : Nat) : Int)] sg.2 from ?_)
  refine w2_vc [7, 289] 400 oo_X12 q_X12_cut ?_
  refine (show W2 o_X12 M_X12_cut (inN [64, 67, 68, 69, 70]) (q + 10) Q 7 [some (mR 69), some (mI (w32 (((p : Nat) : Int) + sg.1))), some (mI x), none, none, none, none, none] [] sg.2 from ?_)
  refine WP.fg (L' := [some (mR 69), some (mI (w32 (((p : Nat) : Int) + sg.1))), none, none, none, none, none, none]) ⟨rfl, rfl, trivial⟩ ?_
  exact h sg hsg
set_option maxHeartbeats 8000000 in
theorem cu_85 {q p : Nat} {H : mG} {Q : Option mV → mG → Prop} (hz : H 64 4 ≤ 3000) (hp : p ≤ 3000) (hk : 0 ≤ H 64 10 ∧ H 64 10 ≤ 601) {nm : Int} {j : Nat} {x : Int} (hj : j ≤ 3000) (hx : f_X12_at H (w32 (((p : Nat) : Int) + ((j : Nat) : Int))) = x) (h1 : 97 ≤ x ∧ x ≤ 122 → j < 8 → W2 o_X12 M_X12_cut (inN [64, 67, 68, 69, 70]) (q + 10) Q 85 [some (mR 69), some (mI ((p : Nat) : Int)), none, some (mI ((j + 1 : Nat) : Int)), some (mJ (f_X12_more H nm x)), none, none, none] [] H) (h2 : 97 ≤ x ∧ x ≤ 122 → 8 ≤ j → W2 o_X12 M_X12_cut (inN [64, 67, 68, 69, 70]) (q + 10) Q 85 [some (mR 69), some (mI ((p : Nat) : Int)), none, some (mI ((j + 1 : Nat) : Int)), some (mJ nm), none, none, none] [] H) (h3 : ¬ (97 ≤ x ∧ x ≤ 122) → W2 o_X12 M_X12_cut (inN [64, 67, 68, 69, 70]) (q + 10) Q 124 [some (mR 69), some (mI ((p : Nat) : Int)), none, some (mI ((j : Nat) : Int)), some (mJ nm), none, none, none] [] H) : W2 o_X12 M_X12_cut (inN [64, 67, 68, 69, 70]) (q + 10) Q 85 [some (mR 69), some (mI ((p : Nat) : Int)), none, some (mI ((j : Nat) : Int)), some (mJ nm), none, none, none] [] H := by
  refine w2_vc [85, 124] 400 oo_X12 q_X12_cut ?_
  refine sp_X12_at (by first | omega | exact w32_pj (by omega)) (hz) ?_
  refine sp_X12_isLetter  ?_
  have c3 := fa_X12_isLetter H (f_X12_at H (w32 (((p : Nat) : Int) + ((j : Nat) : Int))))
  refine ⟨fun (c4 : (f_X12_isLetter H (f_X12_at H (w32 (((p : Nat) : Int) + ((j : Nat) : Int))))) = 0) => ?_, fun (c4 : ¬ (f_X12_isLetter H (f_X12_at H (w32 (((p : Nat) : Int) + ((j : Nat) : Int))))) = 0) => ?_⟩
  · skip
    refine (show W2 o_X12 M_X12_cut (inN [64, 67, 68, 69, 70]) (q + 10) Q 124 [some (mR 69), some (mI ((p : Nat) : Int)), none, some (mI ((j : Nat) : Int)), some (mJ nm), none, none, none] [] H from ?_)
    exact h3 (by omega)
  · skip
    refine ⟨fun (c5 : 8 ≤ ((j : Nat) : Int)) => ?_, fun (c5 : ((j : Nat) : Int) < 8) => ?_⟩
    · skip
      refine (show W2 o_X12 M_X12_cut (inN [64, 67, 68, 69, 70]) (q + 10) Q 85 [some (mR 69), some (mI ((p : Nat) : Int)), none, some (mI (w32 (((j : Nat) : Int) + 1))), some (mJ nm), none, none, none] [] H from ?_)
      rw [w32_nat (by omega)]
      exact h2 (by omega) (by omega)
    · skip
      refine sp_X12_at (by first | omega | exact w32_pj (by omega)) (hz) ?_
      refine sp_X12_more  ?_
      refine (show W2 o_X12 M_X12_cut (inN [64, 67, 68, 69, 70]) (q + 10) Q 85 [some (mR 69), some (mI ((p : Nat) : Int)), none, some (mI (w32 (((j : Nat) : Int) + 1))), some (mJ (f_X12_more H nm (f_X12_at H (w32 (((p : Nat) : Int) + ((j : Nat) : Int)))))), none, none, none] [] H from ?_)
      rw [w32_nat (by omega), hx]
      exact h1 (by omega) (by omega)
set_option maxHeartbeats 8000000 in
theorem cu_124 {q p : Nat} {H : mG} {Q : Option mV → mG → Prop} (hz : H 64 4 ≤ 3000) (hp : p ≤ 3000) (hk : 0 ≤ H 64 10 ∧ H 64 10 ≤ 601) {nm : Int} {j : Nat} (h1 : j ≤ 8 → W2 o_X12 M_X12_cut (inN [64, 67, 68, 69, 70]) (q + 10) Q 146 [some (mR 69), some (mI ((p : Nat) : Int)), none, some (mI ((j : Nat) : Int)), some (mJ nm), none, some (mI 1), some (mI 0)] [] H) (h2 : 8 < j → W2 o_X12 M_X12_cut (inN [64, 67, 68, 69, 70]) (q + 10) Q 179 [some (mR 69), some (mI ((p : Nat) : Int)), none, some (mI ((j : Nat) : Int)), some (mJ nm), none, some (mI 3), none] [] H) : W2 o_X12 M_X12_cut (inN [64, 67, 68, 69, 70]) (q + 10) Q 124 [some (mR 69), some (mI ((p : Nat) : Int)), none, some (mI ((j : Nat) : Int)), some (mJ nm), none, none, none] [] H := by
  refine w2_vc [146, 179] 400 oo_X12 q_X12_cut ?_
  refine ⟨fun (c1 : ((j : Nat) : Int) ≤ 8) => ?_, fun (c1 : 8 < ((j : Nat) : Int)) => ?_⟩
  · skip
    refine ⟨fun (c2 : 8 < ((j : Nat) : Int)) => ?_, fun (c2 : ((j : Nat) : Int) ≤ 8) => ?_⟩
    · skip
      refine (show W2 o_X12 M_X12_cut (inN [64, 67, 68, 69, 70]) (q + 10) Q 179 [some (mR 69), some (mI ((p : Nat) : Int)), none, some (mI ((j : Nat) : Int)), some (mJ nm), none, some (mI 1), none] [] H from ?_)
      exact absurd c1 (by omega)
    · skip
      refine (show W2 o_X12 M_X12_cut (inN [64, 67, 68, 69, 70]) (q + 10) Q 146 [some (mR 69), some (mI ((p : Nat) : Int)), none, some (mI ((j : Nat) : Int)), some (mJ nm), none, some (mI 1), some (mI 0)] [] H from ?_)
      exact h1 (by omega)
  · skip
    refine ⟨fun (c3 : 8 < ((j : Nat) : Int)) => ?_, fun (c3 : ((j : Nat) : Int) ≤ 8) => ?_⟩
    · skip
      refine (show W2 o_X12 M_X12_cut (inN [64, 67, 68, 69, 70]) (q + 10) Q 179 [some (mR 69), some (mI ((p : Nat) : Int)), none, some (mI ((j : Nat) : Int)), some (mJ nm), none, some (mI 3), none] [] H from ?_)
      exact h2 (by omega)
    · skip
      refine (show W2 o_X12 M_X12_cut (inN [64, 67, 68, 69, 70]) (q + 10) Q 146 [some (mR 69), some (mI ((p : Nat) : Int)), none, some (mI ((j : Nat) : Int)), some (mJ nm), none, some (mI 3), some (mI 0)] [] H from ?_)
      exact absurd c1 (by omega)
theorem lcmp_e {x y : Int} : mLcmp x y = 0 ↔ x = y := by
  unfold mLcmp
  by_cases h1 : x < y
  · rw [if_pos h1]; constructor <;> intro h <;> omega
  · rw [if_neg h1]
    by_cases h2 : x = y
    · rw [if_pos h2]; constructor <;> intro _ <;> first | exact h2 | rfl
    · rw [if_neg h2]; constructor <;> intro h <;> omega
set_option maxHeartbeats 8000000 in
theorem cu_146 {q p : Nat} {H : mG} {Q : Option mV → mG → Prop} (hz : H 64 4 ≤ 3000) (hp : p ≤ 3000) (hk : 0 ≤ H 64 10 ∧ H 64 10 ≤ 601) {nm kd : Int} {j i : Nat} (hi : i ≤ 20) (h1 : i < 20 → H 71 i = nm → W2 o_X12 M_X12_cut (inN [64, 67, 68, 69, 70]) (q + 10) Q 146 [some (mR 69), some (mI ((p : Nat) : Int)), none, some (mI ((j : Nat) : Int)), some (mJ nm), none, some (mI (20 + ((i : Nat) : Int))), some (mI ((i + 1 : Nat) : Int))] [] H) (h2 : i < 20 → ¬ H 71 i = nm → W2 o_X12 M_X12_cut (inN [64, 67, 68, 69, 70]) (q + 10) Q 146 [some (mR 69), some (mI ((p : Nat) : Int)), none, some (mI ((j : Nat) : Int)), some (mJ nm), none, some (mI kd), some (mI ((i + 1 : Nat) : Int))] [] H) (h3 : i = 20 → W2 o_X12 M_X12_cut (inN [64, 67, 68, 69, 70]) (q + 10) Q 179 [some (mR 69), some (mI ((p : Nat) : Int)), none, some (mI ((j : Nat) : Int)), some (mJ nm), none, some (mI kd), none] [] H) : W2 o_X12 M_X12_cut (inN [64, 67, 68, 69, 70]) (q + 10) Q 146 [some (mR 69), some (mI ((p : Nat) : Int)), none, some (mI ((j : Nat) : Int)), some (mJ nm), none, some (mI kd), some (mI ((i : Nat) : Int))] [] H := by
  refine w2_vc [146, 179] 400 oo_X12 q_X12_cut ?_
  refine ⟨fun (c1 : 20 ≤ ((i : Nat) : Int)) => ?_, fun (c1 : ((i : Nat) : Int) < 20) => ?_⟩
  · skip
    refine (show W2 o_X12 M_X12_cut (inN [64, 67, 68, 69, 70]) (q + 10) Q 179 [some (mR 69), some (mI ((p : Nat) : Int)), none, some (mI ((j : Nat) : Int)), some (mJ nm), none, some (mI kd), some (mI ((i : Nat) : Int))] [] H from ?_)
    refine WP.fg (L' := [some (mR 69), some (mI ((p : Nat) : Int)), none, some (mI ((j : Nat) : Int)), some (mJ nm), none, some (mI kd), none]) ⟨rfl, rfl, rfl, rfl, rfl, trivial⟩ ?_
    exact h3 (by omega)
  · skip
    refine ⟨(show 0 ≤ ((i : Nat) : Int) ∧ ((i : Nat) : Int) < ((20 : Nat) : Int) from by first | omega | (simp (disch := omega) only [w32_i]; omega)), ?_⟩
    refine ⟨fun (c2 : ¬ (mLcmp (H 71 (Int.toNat ((i : Nat) : Int))) nm) = 0) => ?_, fun (c2 : (mLcmp (H 71 (Int.toNat ((i : Nat) : Int))) nm) = 0) => ?_⟩
    · skip
      refine (show W2 o_X12 M_X12_cut (inN [64, 67, 68, 69, 70]) (q + 10) Q 146 [some (mR 69), some (mI ((p : Nat) : Int)), none, some (mI ((j : Nat) : Int)), some (mJ nm), none, some (mI kd), some (mI (w32 (((i : Nat) : Int) + 1)))] [] H from ?_)
      rw [w32_nat (by omega)]
      rw [st_nat] at c2
      exact h2 (by omega) (fun y => c2 (lcmp_e.mpr y))
    · skip
      refine (show W2 o_X12 M_X12_cut (inN [64, 67, 68, 69, 70]) (q + 10) Q 146 [some (mR 69), some (mI ((p : Nat) : Int)), none, some (mI ((j : Nat) : Int)), some (mJ nm), none, some (mI (w32 (20 + ((i : Nat) : Int)))), some (mI (w32 (((i : Nat) : Int) + 1)))] [] H from ?_)
      rw [w32_nat (by omega), w32_i (x := 20 + ((i : Nat) : Int)) (by omega) (by omega)]
      rw [st_nat] at c2
      exact h1 (by omega) (lcmp_e.mp c2)
set_option maxHeartbeats 8000000 in
theorem cu_179 {q p : Nat} {H : mG} {Q : Option mV → mG → Prop} (hz : H 64 4 ≤ 3000) (hp : p ≤ 3000) (hk : 0 ≤ H 64 10 ∧ H 64 10 ≤ 601) {nm kd : Int} {j : Nat} (hj : j ≤ 3000) (h : W2 o_X12 M_X12_cut (inN [64, 67, 68, 69, 70]) (q + 10) Q 7 [some (mR 69), some (mI ((p + j : Nat) : Int)), none, none, none, none, none, none] [] (e_X12_token H kd ((p : Nat) : Int) 0 nm)) : W2 o_X12 M_X12_cut (inN [64, 67, 68, 69, 70]) (q + 10) Q 179 [some (mR 69), some (mI ((p : Nat) : Int)), none, some (mI ((j : Nat) : Int)), some (mJ nm), none, some (mI kd), none] [] H := by
  refine w2_vc [7] 400 oo_X12 q_X12_cut ?_
  refine sp_X12_token (by omega) (insub (by decide)) ?_
  refine (show W2 o_X12 M_X12_cut (inN [64, 67, 68, 69, 70]) (q + 10) Q 7 [some (mR 69), some (mI (w32 (((p : Nat) : Int) + ((j : Nat) : Int)))), none, some (mI ((j : Nat) : Int)), some (mJ nm), none, some (mI kd), none] [] (e_X12_token H kd ((p : Nat) : Int) 0 nm) from ?_)
  rw [show w32 (((p : Nat) : Int) + ((j : Nat) : Int)) = ((p + j : Nat) : Int) from by rw [w32_i (by omega) (by omega)]; omega]
  refine WP.fg (L' := [some (mR 69), some (mI ((p + j : Nat) : Int)), none, none, none, none, none, none]) ⟨rfl, rfl, trivial⟩ ?_
  exact h
set_option maxHeartbeats 8000000 in
theorem cu_208 {q p : Nat} {H : mG} {Q : Option mV → mG → Prop} (hz : H 64 4 ≤ 3000) (hp : p ≤ 3000) (hk : 0 ≤ H 64 10 ∧ H 64 10 ≤ 601) {v : Int} {j : Nat} {x : Int} (hj : j ≤ 3000) (hx : f_X12_at H (w32 (((p : Nat) : Int) + ((j : Nat) : Int))) = x) (h1 : 48 ≤ x ∧ x ≤ 57 → j < 4 → W2 o_X12 M_X12_cut (inN [64, 67, 68, 69, 70]) (q + 10) Q 208 [some (mR 69), some (mI ((p : Nat) : Int)), none, some (mI ((j + 1 : Nat) : Int)), some (mI (w32 ((w32 ((w32 (10 * v)) + x)) - 48))), none, none, none] [] H) (h2 : 48 ≤ x ∧ x ≤ 57 → 4 ≤ j → W2 o_X12 M_X12_cut (inN [64, 67, 68, 69, 70]) (q + 10) Q 208 [some (mR 69), some (mI ((p : Nat) : Int)), none, some (mI ((j + 1 : Nat) : Int)), some (mI v), none, none, none] [] H) (h3 : ¬ (48 ≤ x ∧ x ≤ 57) → W2 o_X12 M_X12_cut (inN [64, 67, 68, 69, 70]) (q + 10) Q 250 [some (mR 69), some (mI ((p : Nat) : Int)), none, some (mI ((j : Nat) : Int)), some (mI v), none, none, none] [] H) : W2 o_X12 M_X12_cut (inN [64, 67, 68, 69, 70]) (q + 10) Q 208 [some (mR 69), some (mI ((p : Nat) : Int)), none, some (mI ((j : Nat) : Int)), some (mI v), none, none, none] [] H := by
  refine w2_vc [208, 250] 400 oo_X12 q_X12_cut ?_
  refine sp_X12_at (by first | omega | exact w32_pj (by omega)) (hz) ?_
  refine sp_X12_isDigit  ?_
  have c3 := fa_X12_isDigit H (f_X12_at H (w32 (((p : Nat) : Int) + ((j : Nat) : Int))))
  refine ⟨fun (c4 : (f_X12_isDigit H (f_X12_at H (w32 (((p : Nat) : Int) + ((j : Nat) : Int))))) = 0) => ?_, fun (c4 : ¬ (f_X12_isDigit H (f_X12_at H (w32 (((p : Nat) : Int) + ((j : Nat) : Int))))) = 0) => ?_⟩
  · skip
    refine (show W2 o_X12 M_X12_cut (inN [64, 67, 68, 69, 70]) (q + 10) Q 250 [some (mR 69), some (mI ((p : Nat) : Int)), none, some (mI ((j : Nat) : Int)), some (mI v), none, none, none] [] H from ?_)
    exact h3 (by omega)
  · skip
    refine ⟨fun (c5 : 4 ≤ ((j : Nat) : Int)) => ?_, fun (c5 : ((j : Nat) : Int) < 4) => ?_⟩
    · skip
      refine (show W2 o_X12 M_X12_cut (inN [64, 67, 68, 69, 70]) (q + 10) Q 208 [some (mR 69), some (mI ((p : Nat) : Int)), none, some (mI (w32 (((j : Nat) : Int) + 1))), some (mI v), none, none, none] [] H from ?_)
      rw [w32_nat (by omega)]
      exact h2 (by omega) (by omega)
    · skip
      refine sp_X12_at (by first | omega | exact w32_pj (by omega)) (hz) ?_
      refine (show W2 o_X12 M_X12_cut (inN [64, 67, 68, 69, 70]) (q + 10) Q 208 [some (mR 69), some (mI ((p : Nat) : Int)), none, some (mI (w32 (((j : Nat) : Int) + 1))), some (mI (w32 ((w32 ((w32 (10 * v)) + (f_X12_at H (w32 (((p : Nat) : Int) + ((j : Nat) : Int)))))) - 48))), none, none, none] [] H from ?_)
      rw [w32_nat (by omega), hx]
      exact h1 (by omega) (by omega)
set_option maxHeartbeats 8000000 in
theorem cu_250 {q p : Nat} {H : mG} {Q : Option mV → mG → Prop} (hz : H 64 4 ≤ 3000) (hp : p ≤ 3000) (hk : 0 ≤ H 64 10 ∧ H 64 10 ≤ 601) {v : Int} {j : Nat} (hj : j ≤ 3000) (h1 : j ≤ 4 → W2 o_X12 M_X12_cut (inN [64, 67, 68, 69, 70]) (q + 10) Q 7 [some (mR 69), some (mI ((p + j : Nat) : Int)), none, none, none, none, none, none] [] (e_X12_token H 2 ((p : Nat) : Int) v 0)) (h2 : 4 < j → W2 o_X12 M_X12_cut (inN [64, 67, 68, 69, 70]) (q + 10) Q 7 [some (mR 69), some (mI ((p + j : Nat) : Int)), none, none, none, none, none, none] [] (e_X12_token H 3 ((p : Nat) : Int) v 0)) : W2 o_X12 M_X12_cut (inN [64, 67, 68, 69, 70]) (q + 10) Q 250 [some (mR 69), some (mI ((p : Nat) : Int)), none, some (mI ((j : Nat) : Int)), some (mI v), none, none, none] [] H := by
  refine w2_vc [7] 400 oo_X12 q_X12_cut ?_
  refine ⟨fun (c1 : ((j : Nat) : Int) ≤ 4) => ?_, fun (c1 : 4 < ((j : Nat) : Int)) => ?_⟩
  · skip
    refine sp_X12_token (by omega) (insub (by decide)) ?_
    refine (show W2 o_X12 M_X12_cut (inN [64, 67, 68, 69, 70]) (q + 10) Q 7 [some (mR 69), some (mI (w32 (((p : Nat) : Int) + ((j : Nat) : Int)))), none, some (mI ((j : Nat) : Int)), some (mI v), none, none, none] [] (e_X12_token H 2 ((p : Nat) : Int) v 0) from ?_)
    rw [show w32 (((p : Nat) : Int) + ((j : Nat) : Int)) = ((p + j : Nat) : Int) from by rw [w32_i (by omega) (by omega)]; omega]
    refine WP.fg (L' := [some (mR 69), some (mI ((p + j : Nat) : Int)), none, none, none, none, none, none]) ⟨rfl, rfl, trivial⟩ ?_
    exact h1 (by omega)
  · skip
    refine sp_X12_token (by omega) (insub (by decide)) ?_
    refine (show W2 o_X12 M_X12_cut (inN [64, 67, 68, 69, 70]) (q + 10) Q 7 [some (mR 69), some (mI (w32 (((p : Nat) : Int) + ((j : Nat) : Int)))), none, some (mI ((j : Nat) : Int)), some (mI v), none, none, none] [] (e_X12_token H 3 ((p : Nat) : Int) v 0) from ?_)
    rw [show w32 (((p : Nat) : Int) + ((j : Nat) : Int)) = ((p + j : Nat) : Int) from by rw [w32_i (by omega) (by omega)]; omega]
    refine WP.fg (L' := [some (mR 69), some (mI ((p + j : Nat) : Int)), none, none, none, none, none, none]) ⟨rfl, rfl, trivial⟩ ?_
    exact h2 (by omega)
theorem cu_0 {D : Nat → Bool} {q : Nat} {G : mG} {Q : Option mV → mG → Prop} (hD : ∀ k, D k = false → inN [64, 67, 68, 69, 70] k = false) (h : W2 o_X12 M_X12_cut (inN [64, 67, 68, 69, 70]) (q + 10) Q 7 [some (mR 69), some (mI 0), none, none, none, none, none, none] [] (gs G 64 10 0)) : P2 D (q + 10) M_X12_cut [mR 69] G Q := by
  refine MP.to (D2 := inN [64, 67, 68, 69, 70]) (Q2 := Q) ?_ hD (fun v G' q _ => q)
  refine p2_vc [5, 7] 400 oo_X12 q_X12_cut (by decide) rfl (Nat.le_of_ble_eq_true rfl) ?_
  refine (show W2 o_X12 M_X12_cut (inN [64, 67, 68, 69, 70]) (q + 10) Q 5 [some (mR 69), none, none, none, none, none, none, none] [] (gs G 64 10 0) from ?_)
  refine w2_vc [5, 7] 400 oo_X12 q_X12_cut ?_
  refine (show W2 o_X12 M_X12_cut (inN [64, 67, 68, 69, 70]) (q + 10) Q 7 [some (mR 69), some (mI 0), none, none, none, none, none, none] [] (gs G 64 10 0) from ?_)
  exact h
