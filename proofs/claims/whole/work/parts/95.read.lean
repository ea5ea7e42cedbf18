/-! ===== read, of both ===== -/
theorem clr_22 (G : mG) : e_X4_clear G = gf (gf G 22 234 (-1)) 23 26 0 := by
  unfold e_X4_clear
  rw [e_fill_22_eq]
  exact fd_gf (fun j s _ => by show gs s 23 (Int.toNat ((j : Nat) : Int)) 0 = _; rw [st_nat])
theorem gf_hi {G : mG} {k n i : Nat} {x : Int} (h : n ≤ i) : gf G k n x k i = G k i := by unfold gf; rw [if_pos rfl, if_neg (by omega)]
theorem clr_c {c : Nat} (A : mG) : (e_X1_clear c A) c = (gs (gs (gs A c 11 0) c 12 0) c 13 0) c ∧ ∀ i, i < 64 → (e_X1_clear c A) (c + 3) i = 0 := by
  unfold e_X1_clear
  refine fd_inv (I := fun (j : Nat) (s : mG) => s c = (gs (gs (gs A c 11 0) c 12 0) c 13 0) c ∧ ∀ i, i < j → s (c + 3) i = 0) ⟨rfl, fun i hi => absurd hi (Nat.not_lt_zero i)⟩ (fun j s hj hI => ?_)
  obtain ⟨h1, h2⟩ := hI
  unfold g_X1_clear_17
  rw [st_nat]
  refine ⟨by rw [gs_ne (by omega)]; exact h1, fun i hi => ?_⟩
  by_cases y : i = j
  · subst y; rw [gs_at]
  · rw [gs_at_ne y]; exact h2 i (by omega)
section PMR
variable {c c0 S : Nat} {G R2 H M : mG}
/-- the class's heap where it begins to read -/
theorem bg_f (hc : c = 40 ∨ c = 52) (G : mG) : (e_X7_begin c G) 13 = G 13 ∧ (e_X7_begin c G) 14 = G 14 ∧ (e_X7_begin c G) 20 1 = 0 ∧ (e_X7_begin c G) 15 8 = 1 ∧ ((e_X7_begin c G) 15 5 = 0 ∧ (e_X7_begin c G) 15 6 = 0 ∧ (e_X7_begin c G) 15 10 = 0) ∧ ((e_X7_begin c G) c 11 = 0 ∧ (e_X7_begin c G) c 12 = 0 ∧ (e_X7_begin c G) c 13 = 0) ∧ ∀ i, i < 64 → (e_X7_begin c G) (c + 3) i = 0 := by
  have hcc : c ≠ 15 ∧ c ≠ 20 ∧ c + 3 ≠ 15 ∧ c + 3 ≠ 20 := by omega
  obtain ⟨k1, k2⟩ := clr_c (c := c) (gs G 15 9 (((c + 5) : Nat) : Int))
  have e13 : (e_X7_begin c G) 13 = G 13 := fr_X7_begin (fun a ha => by simp only [List.mem_cons, List.not_mem_nil, or_false] at ha; omega)
  have e14 : (e_X7_begin c G) 14 = G 14 := fr_X7_begin (fun a ha => by simp only [List.mem_cons, List.not_mem_nil, or_false] at ha; omega)
  refine ⟨e13, e14, ?_, ?_, ⟨?_, ?_, ?_⟩, ⟨?_, ?_, ?_⟩, fun i hi => ?_⟩
  all_goals unfold e_X7_begin e_X10_rewind
  · rw [gs_ne (by decide), gs_ne (by decide), gs_ne (by decide), gs_ne (by decide), gs_ne (by decide), gs_ne (by decide), gs_at]
  · rw [gs_at_ne (by decide), gs_at_ne (by decide), gs_at_ne (by decide), gs_at_ne (by decide), gs_at_ne (by decide), gs_at]
  · rw [gs_at_ne (by decide), gs_at_ne (by decide), gs_at_ne (by decide), gs_at_ne (by decide), gs_at]
  · rw [gs_at_ne (by decide), gs_at_ne (by decide), gs_at_ne (by decide), gs_at]
  · rw [gs_at_ne (by decide), gs_at]
  · rw [gs_ne hcc.1, gs_ne hcc.1, gs_ne hcc.1, gs_ne hcc.1, gs_ne hcc.1, gs_ne hcc.1, gs_ne hcc.2.1, k1, gs_at_ne (by decide), gs_at_ne (by decide), gs_at]
  · rw [gs_ne hcc.1, gs_ne hcc.1, gs_ne hcc.1, gs_ne hcc.1, gs_ne hcc.1, gs_ne hcc.1, gs_ne hcc.2.1, k1, gs_at_ne (by decide), gs_at]
  · rw [gs_ne hcc.1, gs_ne hcc.1, gs_ne hcc.1, gs_ne hcc.1, gs_ne hcc.1, gs_ne hcc.1, gs_ne hcc.2.1, k1, gs_at]
  · rw [gs_ne hcc.2.2.1, gs_ne hcc.2.2.1, gs_ne hcc.2.2.1, gs_ne hcc.2.2.1, gs_ne hcc.2.2.1, gs_ne hcc.2.2.1, gs_ne hcc.2.2.2]; exact k2 i hi
/-- which side is spare -/
def spS (c S c0 : Nat) : Prop := (c = 40 ∧ S = 0 ∧ c0 = 52) ∨ (c = 52 ∧ S = 1 ∧ c0 = 40)
/-- the class's parser wrote here alone -/
def clK (c : Nat) (G R2 : mG) : Prop := ∀ k, ¬ (15 ≤ k ∧ k ≤ 20) → ¬ (c ≤ k ∧ k ≤ c + 11) → R2 k = G k
theorem row_of {G1 : mG} (h : frm (insB S) G1 H) {k : Nat} (hk : k < 64 ∨ k = 65 ∨ k = 71 ∨ 93 < k) : H k = G1 k := funext (fun i => h k i (by unfold insB ins; omega))
theorem f64_of {G1 : mG} (h : frm (insB S) G1 H) {i : Nat} (hi : i = 18 ∨ i = 44 ∨ i = 51) : H 64 i = G1 64 i := h 64 i (by unfold insB ins; omega)
theorem fault_cpl {v : Int} (h : Cpl c0 G) (hs : spS c S c0) (h18 : G 64 18 = 1 - (S : Int)) (hR : clK c G R2) (hfr : frm (insB S) (gs (gs R2 0 10 v) 13 1 0) H) (h2 : H 64 2 = 0) : Cpl c0 (gs H 64 17 v) := by
  have hS : S ≤ 1 := by unfold spS at hs; omega
  have hM : frm (insB S) (gs (gs R2 0 10 v) 13 1 0) (gs H 64 17 v) := frm_gs hfr (Or.inl ⟨rfl, by decide⟩)
  have h2' : (gs H 64 17 v) 64 2 = 0 := by rw [gs_at_ne (by decide)]; exact h2
  have h17 : (gs H 64 17 v) 64 17 = v := gs_at _ _ _ _
  generalize gs H 64 17 v = M at *
  have hc12 : ∀ k, k = 0 ∨ (1 ≤ k ∧ k ≤ 14) ∨ k = 22 ∨ k = 23 ∨ 64 ≤ k → R2 k = G k := fun k hk => hR k (by omega) (by unfold spS at hs; omega)
  have e1 : ∀ k, k ≠ 0 → k ≠ 13 → (gs (gs R2 0 10 v) 13 1 0) k = R2 k := fun k n1 n2 => by rw [gs_ne n2, gs_ne n1]
  have eR : ∀ k, k ≠ 0 → k ≠ 13 → ((1 ≤ k ∧ k ≤ 14) ∨ k = 22 ∨ k = 23 ∨ 64 ≤ k) → (k < 64 ∨ k = 65 ∨ k = 71 ∨ 93 < k) → M k = G k := fun k n1 n2 n3 n4 => by rw [row_of hM n4, e1 k n1 n2, hc12 k (Or.inr n3)]
  have e64 : ∀ i, i = 18 ∨ i = 44 ∨ i = 51 → M 64 i = G 64 i := fun i hi => by rw [f64_of hM hi, e1 64 (by decide) (by decide), hc12 64 (by omega)]
  have e0 : ∀ i, i ≠ 10 → M 0 i = G 0 i := fun i hi => by rw [row_of hM (k := 0) (by omega), gs_ne (by decide), gs_at_ne hi, hc12 0 (Or.inl rfl)]
  refine Cpl_fault h ⟨fun k k1 k2 => eR k (by omega) (by omega) (by omega) (by omega), eR 14 (by decide) (by decide) (by decide) (by decide), eR 65 (by decide) (by decide) (by decide) (by decide), fun k k1 k2 => eR k (by omega) (by omega) (by omega) (by omega), eR 105 (by decide) (by decide) (by decide) (by decide), ?_, h2', e64 44 (by decide), e64 51 (by decide), ?_⟩ (sd_mk (S := S) (by omega) hS (by omega) (fun k k1 k2 => ?_) hM) (e64 18 (by decide)) ⟨e0 8 (by decide), e0 9 (by decide)⟩ (fun j hj => ?_) ⟨eR 22 (by decide) (by decide) (by decide) (by decide), eR 23 (by decide) (by decide) (by decide) (by decide), eR 104 (by decide) (by decide) (by decide) (by decide)⟩
  · rw [row_of hM (k := 13) (by omega), gs_at]
  · rw [h17, row_of hM (k := 0) (by omega), gs_ne (by decide), gs_at]
  · rw [e1 k (by omega) (by omega), hc12 k (by omega)]
  · have hz : c0 + j < 64 ∧ c0 + j ≠ 0 ∧ c0 + j ≠ 13 ∧ ¬ (15 ≤ c0 + j ∧ c0 + j ≤ 20) ∧ ¬ (c ≤ c0 + j ∧ c0 + j ≤ c + 11) := by unfold spS at hs; omega
    rw [row_of hM (Or.inl hz.1), e1 _ hz.2.1 hz.2.2.1, hR _ hz.2.2.2.1 hz.2.2.2.2]
set_option maxHeartbeats 4000000 in
theorem new_cpl {L : Int} {r : Nat → Int} {F H0 : mG} {t n m p l qq : Nat} (h : Cpl c0 G) (hs : spS c S c0) (hR : clK c G (fd (g_X7_settleRivals_2 c F) F m)) (hz0 : (fd (g_X7_settleRivals_2 c F) F m) 15 10 = 0) (hre : RE c L r F S (e_X9_clear (e_X4_clear (gs (gs (gs (fd (g_X7_settleRivals_2 c F) F m) 0 10 (-1)) 0 8 ((c + 5 : Nat) : Int)) 0 9 ((97 - c : Nat) : Int)))) t n m p l qq H0 H) (w1 : ∀ k, k ≠ 104 → M k = (gs (gs H 64 17 (-1)) 64 18 (S : Int)) k) (w2 : ∀ i, i < 26 → M 104 i = 0) (w3 : ∀ i, 26 ≤ i → M 104 i = H 104 i) : Cpl c M := by
  have hre' := hre
  obtain ⟨a1, jb, f11, f12, r72, r76, st, hfr, h13, h19, h600, h02⟩ := hre'
  clear a1 jb f11 f12 r72 r76 st h13 h19 h600
  rw [clr_22] at hfr
  unfold e_X9_clear at hfr
  have hcS : (c = 40 ∧ S = 0) ∨ (c = 52 ∧ S = 1) := by unfold spS at hs; omega
  generalize hz : fd (g_X7_settleRivals_2 c F) F m = z at *
  have hc12 : ∀ k, k = 0 ∨ (1 ≤ k ∧ k ≤ 14) ∨ k = 22 ∨ k = 23 ∨ 64 ≤ k → z k = G k := fun k hk => hR k (by omega) (by omega)
  have e1 : ∀ k, k ≠ 0 → k ≠ 13 → k ≠ 22 → k ≠ 23 → (gs (gf (gf (gs (gs (gs z 0 10 (-1)) 0 8 ((c + 5 : Nat) : Int)) 0 9 ((97 - c : Nat) : Int)) 22 234 (-1)) 23 26 0) 13 1 0) k = z k := fun k n1 n2 n3 n4 => by rw [gs_ne n2, gf_ne n4, gf_ne n3, gs_ne n1, gs_ne n1, gs_ne n1]
  have g0 : ∀ i, (gs (gf (gf (gs (gs (gs z 0 10 (-1)) 0 8 ((c + 5 : Nat) : Int)) 0 9 ((97 - c : Nat) : Int)) 22 234 (-1)) 23 26 0) 13 1 0) 0 i = (gs (gs (gs z 0 10 (-1)) 0 8 ((c + 5 : Nat) : Int)) 0 9 ((97 - c : Nat) : Int)) 0 i := fun i => by rw [gs_ne (by decide), gf_ne (by decide), gf_ne (by decide)]
  have g22 : ∀ i, i < 234 → (gs (gf (gf (gs (gs (gs z 0 10 (-1)) 0 8 ((c + 5 : Nat) : Int)) 0 9 ((97 - c : Nat) : Int)) 22 234 (-1)) 23 26 0) 13 1 0) 22 i = -1 := fun i hi => by rw [gs_ne (by decide), gf_ne (by decide), gf_at hi]
  have g23 : ∀ i, i < 26 → (gs (gf (gf (gs (gs (gs z 0 10 (-1)) 0 8 ((c + 5 : Nat) : Int)) 0 9 ((97 - c : Nat) : Int)) 22 234 (-1)) 23 26 0) 13 1 0) 23 i = 0 := fun i hi => by rw [gs_ne (by decide), gf_at hi]
  have g23h : ∀ i, 26 ≤ i → (gs (gf (gf (gs (gs (gs z 0 10 (-1)) 0 8 ((c + 5 : Nat) : Int)) 0 9 ((97 - c : Nat) : Int)) 22 234 (-1)) 23 26 0) 13 1 0) 23 i = z 23 i := fun i hi => by rw [gs_ne (by decide), gf_hi hi, gf_ne (by decide), gs_ne (by decide), gs_ne (by decide), gs_ne (by decide)]
  have g13 : (gs (gf (gf (gs (gs (gs z 0 10 (-1)) 0 8 ((c + 5 : Nat) : Int)) 0 9 ((97 - c : Nat) : Int)) 22 234 (-1)) 23 26 0) 13 1 0) 13 1 = 0 := gs_at _ _ _ _
  generalize (gs (gf (gf (gs (gs (gs z 0 10 (-1)) 0 8 ((c + 5 : Nat) : Int)) 0 9 ((97 - c : Nat) : Int)) 22 234 (-1)) 23 26 0) 13 1 0) = G1 at *
  have m1 : ∀ k, k ≠ 104 → k ≠ 64 → M k = H k := fun k n1 n2 => by rw [w1 k n1, gs_ne n2, gs_ne n2]
  have m64 : ∀ i, i ≠ 17 → i ≠ 18 → M 64 i = H 64 i := fun i n1 n2 => by rw [w1 64 (by decide), gs_at_ne n2, gs_at_ne n1]
  have eR : ∀ k, k ≠ 0 → k ≠ 13 → k ≠ 22 → k ≠ 23 → k ≠ 64 → k ≠ 104 → ((1 ≤ k ∧ k ≤ 14) ∨ 64 ≤ k) → (k < 64 ∨ k = 65 ∨ k = 71 ∨ 93 < k) → M k = G k := fun k n1 n2 n3 n4 n5 n6 n7 n8 => by rw [m1 k n6 n5, row_of hfr n8, e1 k n1 n2 n3 n4, hc12 k (by omega)]
  have e64 : ∀ i, i = 44 ∨ i = 51 → M 64 i = G 64 i := fun i hi => by rw [m64 i (by omega) (by omega), f64_of hfr (by omega), e1 64 (by decide) (by decide) (by decide) (by decide), hc12 64 (by omega)]
  have M0 : ∀ i, M 0 i = (gs (gs (gs z 0 10 (-1)) 0 8 ((c + 5 : Nat) : Int)) 0 9 ((97 - c : Nat) : Int)) 0 i := fun i => by rw [m1 0 (by decide) (by decide), row_of hfr (k := 0) (by omega)]; exact g0 i
  have M22 : M 22 = G1 22 := by rw [m1 22 (by decide) (by decide), row_of hfr (k := 22) (by omega)]
  have M23 : M 23 = G1 23 := by rw [m1 23 (by decide) (by decide), row_of hfr (k := 23) (by omega)]
  subst hz
  refine Cpl_new h hcS ⟨fun k k1 k2 => eR k (by omega) (by omega) (by omega) (by omega) (by omega) (by omega) (by omega) (by omega), eR 14 (by decide) (by decide) (by decide) (by decide) (by decide) (by decide) (by decide) (by decide), eR 65 (by decide) (by decide) (by decide) (by decide) (by decide) (by decide) (by decide) (by decide), fun k k1 k2 => eR k (by omega) (by omega) (by omega) (by omega) (by omega) (by omega) (by omega) (by omega), eR 105 (by decide) (by decide) (by decide) (by decide) (by decide) (by decide) (by decide) (by decide), ?_, ?_, e64 44 (by decide), e64 51 (by decide), ?_⟩ hre hz0 (fun j hj => ?_) (fun k k1 k2 => m1 k (by omega) (by omega)) ?_ ?_ ?_ (fun i hi => ?_) (fun f hf => ?_) ?_
  · rw [m1 13 (by decide) (by decide), row_of hfr (k := 13) (by omega)]; exact g13
  · rw [m64 2 (by decide) (by decide)]; exact h02
  · rw [w1 64 (by decide), gs_at_ne (by decide), gs_at, M0, gs_at_ne (by decide), gs_at_ne (by decide), gs_at]
  · have hz : c + j < 64 ∧ c + j ≠ 0 ∧ c + j ≠ 13 ∧ c + j ≠ 22 ∧ c + j ≠ 23 ∧ c + j ≠ 64 ∧ c + j ≠ 104 := by omega
    rw [m1 _ hz.2.2.2.2.2.2 hz.2.2.2.2.2.1, row_of hfr (Or.inl hz.1), e1 _ hz.2.1 hz.2.2.1 hz.2.2.2.1 hz.2.2.2.2.1]
  · rw [w1 64 (by decide), gs_at]
  · rw [M0, gs_at_ne (by decide), gs_at]
  · rw [M0, gs_at]
  · rw [M22]; exact g22 i hi
  · rw [M23]; exact g23 f hf
  · funext i
    rw [M23]
    by_cases y : i < 26
    · rw [w2 i y, g23 i y]
    · rw [w3 i (by omega), g23h i (by omega), row_of hfr (k := 104) (by omega), e1 104 (by decide) (by decide) (by decide) (by decide), hc12 104 (by omega), hc12 23 (by omega), h.2.2.2.1.1]
end PMR
