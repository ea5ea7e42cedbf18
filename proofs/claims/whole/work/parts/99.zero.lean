/-! ===== printed by wip/whole/gen99.py: the heap behind the constructors ===== -/
def ZF (G : mG) : mG := E_i64 (E_i0 G)
section ZFS
variable {G : mG}
set_option maxRecDepth 20000 in
theorem zr_2 (i : Nat) : ZF G 2 i = G 2 i := rfl
set_option maxRecDepth 20000 in
theorem zr_3 (i : Nat) : ZF G 3 i = G 3 i := rfl
set_option maxRecDepth 20000 in
theorem zr_4 (i : Nat) : ZF G 4 i = G 4 i := rfl
set_option maxRecDepth 20000 in
theorem zr_5 (i : Nat) : ZF G 5 i = G 5 i := rfl
set_option maxRecDepth 20000 in
theorem zr_6 (i : Nat) : ZF G 6 i = G 6 i := rfl
set_option maxRecDepth 20000 in
theorem zr_9 (i : Nat) : ZF G 9 i = G 9 i := rfl
set_option maxRecDepth 20000 in
theorem zr_10 (i : Nat) : ZF G 10 i = G 10 i := rfl
set_option maxRecDepth 20000 in
theorem zr_11 (i : Nat) : ZF G 11 i = G 11 i := rfl
set_option maxRecDepth 20000 in
theorem zr_12 (i : Nat) : ZF G 12 i = G 12 i := rfl
set_option maxRecDepth 20000 in
theorem zr_14 (i : Nat) : ZF G 14 i = G 14 i := rfl
set_option maxRecDepth 20000 in
theorem zr_23 (i : Nat) : ZF G 23 i = G 23 i := rfl
set_option maxRecDepth 20000 in
theorem zr_65 (i : Nat) : ZF G 65 i = G 65 i := rfl
set_option maxRecDepth 20000 in
theorem zr_72 (i : Nat) : ZF G 72 i = G 72 i := rfl
set_option maxRecDepth 20000 in
theorem zr_76 (i : Nat) : ZF G 76 i = G 76 i := rfl
set_option maxRecDepth 20000 in
theorem zr_94 (i : Nat) : ZF G 94 i = G 94 i := rfl
set_option maxRecDepth 20000 in
theorem zr_95 (i : Nat) : ZF G 95 i = G 95 i := rfl
set_option maxRecDepth 20000 in
theorem zr_96 (i : Nat) : ZF G 96 i = G 96 i := rfl
set_option maxRecDepth 20000 in
theorem zr_97 (i : Nat) : ZF G 97 i = G 97 i := rfl
set_option maxRecDepth 20000 in
theorem zr_98 (i : Nat) : ZF G 98 i = G 98 i := rfl
set_option maxRecDepth 20000 in
theorem zr_100 (i : Nat) : ZF G 100 i = G 100 i := rfl
set_option maxRecDepth 20000 in
theorem zr_101 (i : Nat) : ZF G 101 i = G 101 i := rfl
set_option maxRecDepth 20000 in
theorem zr_102 (i : Nat) : ZF G 102 i = G 102 i := rfl
set_option maxRecDepth 20000 in
theorem zr_103 (i : Nat) : ZF G 103 i = G 103 i := rfl
set_option maxRecDepth 20000 in
theorem zr_104 (i : Nat) : ZF G 104 i = G 104 i := rfl
set_option maxRecDepth 20000 in
theorem zr_105 (i : Nat) : ZF G 105 i = G 105 i := rfl
set_option maxRecDepth 20000 in
theorem ze_1_6 : ZF G 1 6 = G 1 6 := rfl
set_option maxRecDepth 20000 in
theorem ze_64_44 : ZF G 64 44 = G 64 44 := rfl
set_option maxRecDepth 20000 in
theorem ze_8_4 : ZF G 8 4 = G 8 4 := rfl
set_option maxRecDepth 20000 in
theorem ze_64_51 : ZF G 64 51 = G 64 51 := rfl
set_option maxRecDepth 20000 in
theorem ze_13_1 : ZF G 13 1 = G 13 1 := rfl
set_option maxRecDepth 20000 in
theorem ze_64_2 : ZF G 64 2 = G 64 2 := rfl
set_option maxRecDepth 20000 in
theorem ze_64_18 : ZF G 64 18 = G 64 18 := rfl
set_option maxRecDepth 20000 in
theorem ze_40_11 : ZF G 40 11 = G 40 11 := rfl
set_option maxRecDepth 20000 in
theorem ze_40_12 : ZF G 40 12 = G 40 12 := rfl
set_option maxRecDepth 20000 in
theorem ze_64_17 : ZF G 64 17 = -1 := rfl
set_option maxRecDepth 20000 in
theorem ze_0_10 : ZF G 0 10 = -1 := rfl
set_option maxRecDepth 20000 in
theorem ze_0_8 : ZF G 0 8 = 45 := rfl
set_option maxRecDepth 20000 in
theorem ze_0_9 : ZF G 0 9 = 57 := rfl
set_option maxRecDepth 20000 in
theorem zr_7 (i : Nat) : ZF G 7 i = if i < 6 then 3 else G 7 i := rfl
set_option maxRecDepth 20000 in
theorem zr_22 (i : Nat) : ZF G 22 i = if i < 234 then -1 else G 22 i := rfl
set_option maxRecDepth 20000 in
theorem zr_99a : ZF G 99 = (gs (gs (gs (gs (gs (gs (i64_75 (E_i0 G)) 99 0 3) 99 1 3) 99 2 3) 99 3 3) 99 4 3) 99 5 3) 99 := rfl
set_option maxRecDepth 20000 in
theorem zr_99b (i : Nat) : (i64_75 (E_i0 G)) 99 i = G 99 i := rfl
set_option maxRecDepth 20000 in
theorem zr_99 (i : Nat) : ZF G 99 i = if i < 6 then 3 else G 99 i := by
  rw [zr_99a]
  by_cases h : i < 6
  · rw [if_pos h]
    rcases (show i = 0 ∨ i = 1 ∨ i = 2 ∨ i = 3 ∨ i = 4 ∨ i = 5 by omega) with e | e | e | e | e | e <;> subst e
    · rw [gs_at_ne (by decide), gs_at_ne (by decide), gs_at_ne (by decide), gs_at_ne (by decide), gs_at_ne (by decide), gs_at]
    · rw [gs_at_ne (by decide), gs_at_ne (by decide), gs_at_ne (by decide), gs_at_ne (by decide), gs_at]
    · rw [gs_at_ne (by decide), gs_at_ne (by decide), gs_at_ne (by decide), gs_at]
    · rw [gs_at_ne (by decide), gs_at_ne (by decide), gs_at]
    · rw [gs_at_ne (by decide), gs_at]
    · rw [gs_at]
  · rw [if_neg h, gs_at_ne (by omega), gs_at_ne (by omega), gs_at_ne (by omega), gs_at_ne (by omega), gs_at_ne (by omega), gs_at_ne (by omega)]
    exact zr_99b i
set_option maxRecDepth 20000 in
theorem zk_0 : ZF G 71 0 = wd_ 99 97 109 112 97 105 103 110 := rfl
theorem zw_0 : wd_ 99 97 109 112 97 105 103 110 = ky 0 := by decide +kernel
set_option maxRecDepth 20000 in
theorem zk_1 : ZF G 71 1 = wd_ 102 114 111 109 0 0 0 0 := rfl
theorem zw_1 : wd_ 102 114 111 109 0 0 0 0 = ky 1 := by decide +kernel
set_option maxRecDepth 20000 in
theorem zk_2 : ZF G 71 2 = wd_ 117 110 116 105 108 0 0 0 := rfl
theorem zw_2 : wd_ 117 110 116 105 108 0 0 0 = ky 2 := by decide +kernel
set_option maxRecDepth 20000 in
theorem zk_3 : ZF G 71 3 = wd_ 101 110 100 0 0 0 0 0 := rfl
theorem zw_3 : wd_ 101 110 100 0 0 0 0 0 = ky 3 := by decide +kernel
set_option maxRecDepth 20000 in
theorem zk_4 : ZF G 71 4 = wd_ 119 97 110 116 0 0 0 0 := rfl
theorem zw_4 : wd_ 119 97 110 116 0 0 0 0 = ky 4 := by decide +kernel
set_option maxRecDepth 20000 in
theorem zk_5 : ZF G 71 5 = wd_ 105 110 0 0 0 0 0 0 := rfl
theorem zw_5 : wd_ 105 110 0 0 0 0 0 0 = ky 5 := by decide +kernel
set_option maxRecDepth 20000 in
theorem zk_6 : ZF G 71 6 = wd_ 119 111 114 116 104 0 0 0 := rfl
theorem zw_6 : wd_ 119 111 114 116 104 0 0 0 = ky 6 := by decide +kernel
set_option maxRecDepth 20000 in
theorem zk_7 : ZF G 71 7 = wd_ 98 97 114 0 0 0 0 0 := rfl
theorem zw_7 : wd_ 98 97 114 0 0 0 0 0 = ky 7 := by decide +kernel
set_option maxRecDepth 20000 in
theorem zk_8 : ZF G 71 8 = wd_ 98 101 115 105 100 101 0 0 := rfl
theorem zw_8 : wd_ 98 101 115 105 100 101 0 0 = ky 8 := by decide +kernel
set_option maxRecDepth 20000 in
theorem zk_9 : ZF G 71 9 = wd_ 114 101 102 117 110 100 0 0 := rfl
theorem zw_9 : wd_ 114 101 102 117 110 100 0 0 = ky 9 := by decide +kernel
set_option maxRecDepth 20000 in
theorem zk_10 : ZF G 71 10 = wd_ 105 102 0 0 0 0 0 0 := rfl
theorem zw_10 : wd_ 105 102 0 0 0 0 0 0 = ky 10 := by decide +kernel
set_option maxRecDepth 20000 in
theorem zk_11 : ZF G 71 11 = wd_ 111 114 0 0 0 0 0 0 := rfl
theorem zw_11 : wd_ 111 114 0 0 0 0 0 0 = ky 11 := by decide +kernel
set_option maxRecDepth 20000 in
theorem zk_12 : ZF G 71 12 = wd_ 97 110 100 0 0 0 0 0 := rfl
theorem zw_12 : wd_ 97 110 100 0 0 0 0 0 = ky 12 := by decide +kernel
set_option maxRecDepth 20000 in
theorem zk_13 : ZF G 71 13 = wd_ 110 101 97 114 0 0 0 0 := rfl
theorem zw_13 : wd_ 110 101 97 114 0 0 0 0 = ky 13 := by decide +kernel
set_option maxRecDepth 20000 in
theorem zk_14 : ZF G 71 14 = wd_ 100 105 115 116 114 105 99 116 := rfl
theorem zw_14 : wd_ 100 105 115 116 114 105 99 116 = ky 14 := by decide +kernel
set_option maxRecDepth 20000 in
theorem zk_15 : ZF G 71 15 = wd_ 113 117 97 108 105 116 121 0 := rfl
theorem zw_15 : wd_ 113 117 97 108 105 116 121 0 = ky 15 := by decide +kernel
set_option maxRecDepth 20000 in
theorem zk_16 : ZF G 71 16 = wd_ 97 117 100 105 101 110 99 101 := rfl
theorem zw_16 : wd_ 97 117 100 105 101 110 99 101 = ky 16 := by decide +kernel
set_option maxRecDepth 20000 in
theorem zk_17 : ZF G 71 17 = wd_ 115 104 111 119 110 0 0 0 := rfl
theorem zw_17 : wd_ 115 104 111 119 110 0 0 0 = ky 17 := by decide +kernel
set_option maxRecDepth 20000 in
theorem zk_18 : ZF G 71 18 = wd_ 117 110 115 101 101 110 0 0 := rfl
theorem zw_18 : wd_ 117 110 115 101 101 110 0 0 = ky 18 := by decide +kernel
set_option maxRecDepth 20000 in
theorem zk_19 : ZF G 71 19 = wd_ 108 97 116 101 0 0 0 0 := rfl
theorem zw_19 : wd_ 108 97 116 101 0 0 0 0 = ky 19 := by decide +kernel
theorem ZF_ky : ∀ i, i < 20 → ZF G 71 i = ky i := by
  intro i hi
  rcases (show i = 0 ∨ i = 1 ∨ i = 2 ∨ i = 3 ∨ i = 4 ∨ i = 5 ∨ i = 6 ∨ i = 7 ∨ i = 8 ∨ i = 9 ∨ i = 10 ∨ i = 11 ∨ i = 12 ∨ i = 13 ∨ i = 14 ∨ i = 15 ∨ i = 16 ∨ i = 17 ∨ i = 18 ∨ i = 19 by omega) with e | e | e | e | e | e | e | e | e | e | e | e | e | e | e | e | e | e | e | e <;> subst e
  · exact zk_0.trans zw_0
  · exact zk_1.trans zw_1
  · exact zk_2.trans zw_2
  · exact zk_3.trans zw_3
  · exact zk_4.trans zw_4
  · exact zk_5.trans zw_5
  · exact zk_6.trans zw_6
  · exact zk_7.trans zw_7
  · exact zk_8.trans zw_8
  · exact zk_9.trans zw_9
  · exact zk_10.trans zw_10
  · exact zk_11.trans zw_11
  · exact zk_12.trans zw_12
  · exact zk_13.trans zw_13
  · exact zk_14.trans zw_14
  · exact zk_15.trans zw_15
  · exact zk_16.trans zw_16
  · exact zk_17.trans zw_17
  · exact zk_18.trans zw_18
  · exact zk_19.trans zw_19
theorem crf_mem {k j : Nat} (h : ¬ crf k j = 0) : ∃ l, (k, l) ∈ crfT ∧ (j, crf k j) ∈ l := by
  unfold crf at h ⊢
  cases h1 : fnd crfT k with
  | none => rw [h1] at h; exact absurd rfl h
  | some l =>
    rw [h1] at h
    cases h2 : fnd l j with
    | none =>
      have h3 : ¬ (match fnd l j with | none => 0 | some r => r) = 0 := h
      rw [h2] at h3
      exact absurd rfl h3
    | some r =>
      refine ⟨l, fnd_mem h1, ?_⟩
      show (j, (match fnd l j with | none => 0 | some r => r)) ∈ l
      rw [h2]
      exact fnd_mem h2
theorem crf_hi {k j : Nat} (h : 65 ≤ k) : crf k j = 0 := by
  by_cases z : crf k j = 0
  · exact z
  · obtain ⟨l, h1, _⟩ := crf_mem z
    have : ∀ q ∈ crfT, q.1 ≤ 64 := by decide
    have := this _ h1
    exfalso
    have h2 : k ≤ 64 := this
    omega
set_option maxRecDepth 20000 in
set_option maxHeartbeats 4000000 in
theorem zc_0 : ∀ p ∈ crf_0, ZF G 0 p.1 = ((p.2 : Nat) : Int) := List.forall_mem_cons.mpr ⟨rfl, List.forall_mem_cons.mpr ⟨rfl, List.forall_mem_cons.mpr ⟨rfl, List.forall_mem_cons.mpr ⟨rfl, List.forall_mem_cons.mpr ⟨rfl, List.forall_mem_cons.mpr ⟨rfl, List.forall_mem_cons.mpr ⟨rfl, List.forall_mem_cons.mpr ⟨rfl, fun _ h => absurd h List.not_mem_nil⟩⟩⟩⟩⟩⟩⟩⟩
set_option maxRecDepth 20000 in
set_option maxHeartbeats 4000000 in
theorem zc_1 : ∀ p ∈ crf_1, ZF G 1 p.1 = ((p.2 : Nat) : Int) := List.forall_mem_cons.mpr ⟨rfl, List.forall_mem_cons.mpr ⟨rfl, List.forall_mem_cons.mpr ⟨rfl, List.forall_mem_cons.mpr ⟨rfl, List.forall_mem_cons.mpr ⟨rfl, List.forall_mem_cons.mpr ⟨rfl, fun _ h => absurd h List.not_mem_nil⟩⟩⟩⟩⟩⟩
set_option maxRecDepth 20000 in
set_option maxHeartbeats 4000000 in
theorem zc_8 : ∀ p ∈ crf_8, ZF G 8 p.1 = ((p.2 : Nat) : Int) := List.forall_mem_cons.mpr ⟨rfl, List.forall_mem_cons.mpr ⟨rfl, List.forall_mem_cons.mpr ⟨rfl, List.forall_mem_cons.mpr ⟨rfl, fun _ h => absurd h List.not_mem_nil⟩⟩⟩⟩
set_option maxRecDepth 20000 in
set_option maxHeartbeats 4000000 in
theorem zc_13 : ∀ p ∈ crf_13, ZF G 13 p.1 = ((p.2 : Nat) : Int) := List.forall_mem_cons.mpr ⟨rfl, fun _ h => absurd h List.not_mem_nil⟩
set_option maxRecDepth 20000 in
set_option maxHeartbeats 4000000 in
theorem zc_15 : ∀ p ∈ crf_15, ZF G 15 p.1 = ((p.2 : Nat) : Int) := List.forall_mem_cons.mpr ⟨rfl, List.forall_mem_cons.mpr ⟨rfl, List.forall_mem_cons.mpr ⟨rfl, List.forall_mem_cons.mpr ⟨rfl, List.forall_mem_cons.mpr ⟨rfl, fun _ h => absurd h List.not_mem_nil⟩⟩⟩⟩⟩
set_option maxRecDepth 20000 in
set_option maxHeartbeats 4000000 in
theorem zc_20 : ∀ p ∈ crf_20, ZF G 20 p.1 = ((p.2 : Nat) : Int) := List.forall_mem_cons.mpr ⟨rfl, fun _ h => absurd h List.not_mem_nil⟩
set_option maxRecDepth 20000 in
set_option maxHeartbeats 4000000 in
theorem zc_21 : ∀ p ∈ crf_21, ZF G 21 p.1 = ((p.2 : Nat) : Int) := List.forall_mem_cons.mpr ⟨rfl, List.forall_mem_cons.mpr ⟨rfl, fun _ h => absurd h List.not_mem_nil⟩⟩
set_option maxRecDepth 20000 in
set_option maxHeartbeats 4000000 in
theorem zc_24 : ∀ p ∈ crf_24, ZF G 24 p.1 = ((p.2 : Nat) : Int) := List.forall_mem_cons.mpr ⟨rfl, fun _ h => absurd h List.not_mem_nil⟩
set_option maxRecDepth 20000 in
set_option maxHeartbeats 4000000 in
theorem zc_26 : ∀ p ∈ crf_26, ZF G 26 p.1 = ((p.2 : Nat) : Int) := List.forall_mem_cons.mpr ⟨rfl, List.forall_mem_cons.mpr ⟨rfl, fun _ h => absurd h List.not_mem_nil⟩⟩
set_option maxRecDepth 20000 in
set_option maxHeartbeats 4000000 in
theorem zc_29 : ∀ p ∈ crf_29, ZF G 29 p.1 = ((p.2 : Nat) : Int) := List.forall_mem_cons.mpr ⟨rfl, List.forall_mem_cons.mpr ⟨rfl, List.forall_mem_cons.mpr ⟨rfl, List.forall_mem_cons.mpr ⟨rfl, List.forall_mem_cons.mpr ⟨rfl, List.forall_mem_cons.mpr ⟨rfl, List.forall_mem_cons.mpr ⟨rfl, List.forall_mem_cons.mpr ⟨rfl, List.forall_mem_cons.mpr ⟨rfl, List.forall_mem_cons.mpr ⟨rfl, List.forall_mem_cons.mpr ⟨rfl, List.forall_mem_cons.mpr ⟨rfl, List.forall_mem_cons.mpr ⟨rfl, fun _ h => absurd h List.not_mem_nil⟩⟩⟩⟩⟩⟩⟩⟩⟩⟩⟩⟩⟩
set_option maxRecDepth 20000 in
set_option maxHeartbeats 4000000 in
theorem zc_40 : ∀ p ∈ crf_40, ZF G 40 p.1 = ((p.2 : Nat) : Int) := List.forall_mem_cons.mpr ⟨rfl, List.forall_mem_cons.mpr ⟨rfl, List.forall_mem_cons.mpr ⟨rfl, List.forall_mem_cons.mpr ⟨rfl, List.forall_mem_cons.mpr ⟨rfl, List.forall_mem_cons.mpr ⟨rfl, List.forall_mem_cons.mpr ⟨rfl, List.forall_mem_cons.mpr ⟨rfl, List.forall_mem_cons.mpr ⟨rfl, List.forall_mem_cons.mpr ⟨rfl, List.forall_mem_cons.mpr ⟨rfl, fun _ h => absurd h List.not_mem_nil⟩⟩⟩⟩⟩⟩⟩⟩⟩⟩⟩
set_option maxRecDepth 20000 in
set_option maxHeartbeats 4000000 in
theorem zc_52 : ∀ p ∈ crf_52, ZF G 52 p.1 = ((p.2 : Nat) : Int) := List.forall_mem_cons.mpr ⟨rfl, List.forall_mem_cons.mpr ⟨rfl, List.forall_mem_cons.mpr ⟨rfl, List.forall_mem_cons.mpr ⟨rfl, List.forall_mem_cons.mpr ⟨rfl, List.forall_mem_cons.mpr ⟨rfl, List.forall_mem_cons.mpr ⟨rfl, List.forall_mem_cons.mpr ⟨rfl, List.forall_mem_cons.mpr ⟨rfl, List.forall_mem_cons.mpr ⟨rfl, List.forall_mem_cons.mpr ⟨rfl, fun _ h => absurd h List.not_mem_nil⟩⟩⟩⟩⟩⟩⟩⟩⟩⟩⟩
set_option maxRecDepth 20000 in
set_option maxHeartbeats 4000000 in
theorem zc_64 : ∀ p ∈ crf_64, ZF G 64 p.1 = ((p.2 : Nat) : Int) := List.forall_mem_cons.mpr ⟨rfl, List.forall_mem_cons.mpr ⟨rfl, List.forall_mem_cons.mpr ⟨rfl, List.forall_mem_cons.mpr ⟨rfl, List.forall_mem_cons.mpr ⟨rfl, List.forall_mem_cons.mpr ⟨rfl, List.forall_mem_cons.mpr ⟨rfl, List.forall_mem_cons.mpr ⟨rfl, List.forall_mem_cons.mpr ⟨rfl, List.forall_mem_cons.mpr ⟨rfl, List.forall_mem_cons.mpr ⟨rfl, List.forall_mem_cons.mpr ⟨rfl, List.forall_mem_cons.mpr ⟨rfl, List.forall_mem_cons.mpr ⟨rfl, List.forall_mem_cons.mpr ⟨rfl, List.forall_mem_cons.mpr ⟨rfl, List.forall_mem_cons.mpr ⟨rfl, List.forall_mem_cons.mpr ⟨rfl, List.forall_mem_cons.mpr ⟨rfl, List.forall_mem_cons.mpr ⟨rfl, List.forall_mem_cons.mpr ⟨rfl, List.forall_mem_cons.mpr ⟨rfl, List.forall_mem_cons.mpr ⟨rfl, List.forall_mem_cons.mpr ⟨rfl, List.forall_mem_cons.mpr ⟨rfl, List.forall_mem_cons.mpr ⟨rfl, List.forall_mem_cons.mpr ⟨rfl, List.forall_mem_cons.mpr ⟨rfl, List.forall_mem_cons.mpr ⟨rfl, List.forall_mem_cons.mpr ⟨rfl, List.forall_mem_cons.mpr ⟨rfl, List.forall_mem_cons.mpr ⟨rfl, List.forall_mem_cons.mpr ⟨rfl, List.forall_mem_cons.mpr ⟨rfl, List.forall_mem_cons.mpr ⟨rfl, List.forall_mem_cons.mpr ⟨rfl, List.forall_mem_cons.mpr ⟨rfl, List.forall_mem_cons.mpr ⟨rfl, List.forall_mem_cons.mpr ⟨rfl, List.forall_mem_cons.mpr ⟨rfl, List.forall_mem_cons.mpr ⟨rfl, List.forall_mem_cons.mpr ⟨rfl, List.forall_mem_cons.mpr ⟨rfl, List.forall_mem_cons.mpr ⟨rfl, List.forall_mem_cons.mpr ⟨rfl, List.forall_mem_cons.mpr ⟨rfl, List.forall_mem_cons.mpr ⟨rfl, List.forall_mem_cons.mpr ⟨rfl, List.forall_mem_cons.mpr ⟨rfl, List.forall_mem_cons.mpr ⟨rfl, List.forall_mem_cons.mpr ⟨rfl, List.forall_mem_cons.mpr ⟨rfl, List.forall_mem_cons.mpr ⟨rfl, List.forall_mem_cons.mpr ⟨rfl, fun _ h => absurd h List.not_mem_nil⟩⟩⟩⟩⟩⟩⟩⟩⟩⟩⟩⟩⟩⟩⟩⟩⟩⟩⟩⟩⟩⟩⟩⟩⟩⟩⟩⟩⟩⟩⟩⟩⟩⟩⟩⟩⟩⟩⟩⟩⟩⟩⟩⟩⟩⟩⟩⟩⟩⟩⟩⟩⟩⟩
theorem ZF_crf {k j : Nat} (h : ¬ crf k j = 0) : ZF G k j = ((crf k j : Nat) : Int) := by
  have key : ∀ q ∈ crfT, ∀ p ∈ q.2, ZF G q.1 p.1 = ((p.2 : Nat) : Int) := List.forall_mem_cons.mpr ⟨zc_0, List.forall_mem_cons.mpr ⟨zc_1, List.forall_mem_cons.mpr ⟨zc_8, List.forall_mem_cons.mpr ⟨zc_13, List.forall_mem_cons.mpr ⟨zc_15, List.forall_mem_cons.mpr ⟨zc_20, List.forall_mem_cons.mpr ⟨zc_21, List.forall_mem_cons.mpr ⟨zc_24, List.forall_mem_cons.mpr ⟨zc_26, List.forall_mem_cons.mpr ⟨zc_29, List.forall_mem_cons.mpr ⟨zc_40, List.forall_mem_cons.mpr ⟨zc_52, List.forall_mem_cons.mpr ⟨zc_64, fun _ h => absurd h List.not_mem_nil⟩⟩⟩⟩⟩⟩⟩⟩⟩⟩⟩⟩⟩
  obtain ⟨l, h1, h2⟩ := crf_mem h
  exact key _ h1 _ h2
set_option maxHeartbeats 4000000 in
theorem ZF_cpl (hz : ∀ k j : Nat, k < 1000 → G k j = 0) : Cpl 40 (ZF G) := by
  have e1 : ZF G 1 6 = 0 := by rw [ze_1_6]; exact hz 1 6 (by decide)
  have e18 : ZF G 64 18 = 0 := by rw [ze_64_18]; exact hz 64 18 (by decide)
  have e8 : ZF G 8 4 = 0 := by rw [ze_8_4]; exact hz 8 4 (by decide)
  have e13 : ZF G 13 1 = 0 := by rw [ze_13_1]; exact hz 13 1 (by decide)
  have e11 : ZF G 40 11 = 0 := by rw [ze_40_11]; exact hz 40 11 (by decide)
  have e12 : ZF G 40 12 = 0 := by rw [ze_40_12]; exact hz 40 12 (by decide)
  have e72 : ∀ i, ZF G 72 i = 0 := fun i => by rw [zr_72]; exact hz 72 i (by decide)
  have e76 : ∀ i, ZF G 76 i = 0 := fun i => by rw [zr_76]; exact hz 76 i (by decide)
  have q94 : ZF G 94 = ZF G 2 := funext (fun i => by rw [zr_94, zr_2, hz 94 i (by decide), hz 2 i (by decide)])
  have q95 : ZF G 95 = ZF G 3 := funext (fun i => by rw [zr_95, zr_3, hz 95 i (by decide), hz 3 i (by decide)])
  have q96 : ZF G 96 = ZF G 4 := funext (fun i => by rw [zr_96, zr_4, hz 96 i (by decide), hz 4 i (by decide)])
  have q97 : ZF G 97 = ZF G 5 := funext (fun i => by rw [zr_97, zr_5, hz 97 i (by decide), hz 5 i (by decide)])
  have q98 : ZF G 98 = ZF G 6 := funext (fun i => by rw [zr_98, zr_6, hz 98 i (by decide), hz 6 i (by decide)])
  have q100 : ZF G 100 = ZF G 9 := funext (fun i => by rw [zr_100, zr_9, hz 100 i (by decide), hz 9 i (by decide)])
  have q101 : ZF G 101 = ZF G 10 := funext (fun i => by rw [zr_101, zr_10, hz 101 i (by decide), hz 10 i (by decide)])
  have q102 : ZF G 102 = ZF G 11 := funext (fun i => by rw [zr_102, zr_11, hz 102 i (by decide), hz 11 i (by decide)])
  have q103 : ZF G 103 = ZF G 12 := funext (fun i => by rw [zr_103, zr_12, hz 103 i (by decide), hz 12 i (by decide)])
  have q65 : ZF G 65 = ZF G 14 := funext (fun i => by rw [zr_65, zr_14, hz 65 i (by decide), hz 14 i (by decide)])
  have q104 : ZF G 104 = ZF G 23 := funext (fun i => by rw [zr_104, zr_23, hz 104 i (by decide), hz 23 i (by decide)])
  have q99 : ZF G 99 = ZF G 7 := funext (fun i => by rw [zr_99, zr_7, hz 99 i (by decide), hz 7 i (by decide)])
  have t0 : (ZF G 64 18).toNat = 0 := by rw [e18]; rfl
  refine ⟨⟨⟨by rw [e1]; decide, by rw [ze_64_44, e1]; exact hz 64 44 (by decide), ⟨q94, q95, q96, q97, q98, q99⟩, fun i => by rw [zr_2, hz 2 i (by decide)]; decide, fun i => by rw [zr_4, hz 4 i (by decide)]; decide, fun i => by rw [zr_5, hz 5 i (by decide)]; decide, fun i hi => by rw [zr_7, if_pos hi]; decide, by rw [zr_6]; exact hz 6 0 (by decide), fun i => Or.inl (by rw [zr_6]; exact hz 6 i (by decide))⟩, ⟨by rw [e8]; decide, by rw [ze_64_51, e8]; exact hz 64 51 (by decide), ⟨q100, q101, q102, q103⟩, fun i => by rw [zr_9, hz 9 i (by decide)]; decide, fun i => by rw [zr_12, hz 12 i (by decide)]; decide⟩, by rw [e13]; decide, by rw [ze_64_2, e13]; exact hz 64 2 (by decide), q65, by rw [ze_64_17, ze_0_10]⟩, Or.inl ⟨rfl, e18, ze_0_8, ze_0_9⟩, ?_, ⟨q104, fun i _ => by rw [zr_105, hz 105 i (by decide)]; decide, fun f hf => ⟨Or.inl (by rw [zr_23]; exact hz 23 f (by decide)), fun _ b hb => by rw [zr_22, if_pos (by omega)], fun b hb => Or.inl (by rw [zr_22, if_pos (by omega)]), fun b hb _ => by rw [zr_22, if_pos (by omega)], fun y => ?_⟩⟩, fun x => ?_, fun k hk => ?_⟩
  · rw [t0]
    refine ⟨by rw [e11]; decide, by rw [e72, e11], by rw [e12]; decide, by rw [e76, e12], fun x hx => ?_, fun k hk => ?_, fun k j hk => ?_, fun x y hx => ?_, fun k hk => ?_⟩
    · rw [e11] at hx; omega
    · rw [e12] at hk; omega
    · rw [e12] at hk; omega
    · rw [e11] at hx; omega
    · rw [e12] at hk; omega
  · rw [zr_23, hz 23 f (by decide)] at y
    exact absurd y (by decide)
  · unfold f_X1_codeStartOf f_X1_codeEndOf f_X1_hasClause
    rw [e12]
    by_cases y1 : x < 0
    · rw [if_pos y1, if_pos rfl, if_pos rfl]; decide
    · rw [if_neg y1, if_pos (show (0 : Int) ≤ x by omega), if_pos rfl, if_pos rfl]; decide
  · rw [e76] at hk
    omega
end ZFS
