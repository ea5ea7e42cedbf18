/-! ===== read, of both: one answer ===== -/
section PMQ
variable {c c0 S : Nat} {G F : mG} {R : Int × mG}
theorem clK_parse : clK c G (r_X7_parse c G).2 := fun k n1 n2 => fr_X7_parse (fun a ha => by simp only [List.mem_cons, List.not_mem_nil, or_false] at ha; omega)
theorem parse_bad (hr : r_X7_parse c G = R) (hF : pfin c 601 0 (e_X7_begin c G) = F) (h8 : F 15 8 = -1) : R = (F 15 10, F) := by
  have hpf := parse_fin (c := c) (G := G)
  rw [hr, hF, if_pos (show ¬ F 15 8 = 0 by rw [h8]; decide)] at hpf
  exact hpf
theorem settle_fd {m : Nat} (h2 : F c 12 = (m : Int)) : e_X7_settleRivals c F = fd (g_X7_settleRivals_2 c F) F m := by
  unfold e_X7_settleRivals
  rw [h2, st_nat]
  exact ite_P (P := fun x : mG => x = fd (g_X7_settleRivals_2 c F) F m) rfl rfl
theorem parse_good {m : Nat} (hr : r_X7_parse c G = R) (hF : pfin c 601 0 (e_X7_begin c G) = F) (h8 : F 15 8 = 0) (h2 : F c 12 = (m : Int)) : R = ((fd (g_X7_settleRivals_2 c F) F m) 15 10, fd (g_X7_settleRivals_2 c F) F m) := by
  have hpf := parse_fin (c := c) (G := G)
  rw [hr, hF, if_neg (fun w => w h8), settle_fd h2] at hpf
  exact hpf
theorem ref_run {G1 : mG} {Q : Option mV → mG → Prop} (h : Cpl c0 G) (hky : ∀ i, i < 20 → G 71 i = ky i) (hs : spS c S c0) (h18 : G 64 18 = 1 - (S : Int)) (hF : pfin c 601 0 (e_X7_begin c G) = F) (e : ∀ k, 64 ≤ k → G1 k = G k) (q1 : (∀ H, Bad F H → frm (insB S) G1 H → H 64 2 = 0 → Q (some (mI (H 64 13))) (gs H 64 17 (H 64 14)))) (q2 : (∀ (t n m p l qq : Nat) (H0 H : mG), RE c (G 13 1) (G 14) F S G1 t n m p l qq H0 H → 0 < H 64 15 → Q (some (mI (H 64 15))) (gs H 64 17 (H 64 16)))) (q3 : (∀ (t n m p l qq : Nat) (H0 H : mG), RE c (G 13 1) (G 14) F S G1 t n m p l qq H0 H → H 64 15 ≤ 0 → ∀ H' : mG, (∀ k, k ≠ 104 → H' k = (gs (gs H 64 17 (-1)) 64 18 (S : Int)) k) → (∀ i, i < 26 → H' 104 i = 0) → (∀ i, 26 ≤ i → H' 104 i = H 104 i) → Q (some (mI 0)) H')) : P2 nk71 60 M_X12_read [mR 69] G1 Q := by
  have hc : c = 40 ∨ c = 52 := by unfold spS at hs; omega
  have hS : S ≤ 1 := by unfold spS at hs; omega
  obtain ⟨g13, g14, g20, g8, gw, gz, gap⟩ := bg_f hc G
  have hT := h.1.2.2
  have hT1 := hT.1
  have hcs : cs c (G 13 1) (G 14) 0 (e_X7_begin c G) := ⟨by rw [g13], g14, g20⟩
  have e2n : G 13 1 = ((G 13 1).toNat : Int) := by omega
  exact sp_ref (q := 40) (Ln := (G 13 1).toNat) (L := G 13 1) (r := G 14) (allD (by decide)) hc hS (by rw [e 64 (by decide), hT.2.1]; exact e2n) e2n (by omega) (by rw [e 65 (by decide)]; exact hT.2.2.1) (fun i hi => by rw [e 71 (by decide)]; exact hky i hi) (by rw [e 64 (by decide)]; exact h18) hcs hF g8 gz gw gap q1 q2 q3
theorem read_1 (h : Cpl c0 G) (hky : ∀ i, i < 20 → G 71 i = ky i) (hs : spS c S c0) (h18 : G 64 18 = 1 - (S : Int)) (hF : pfin c 601 0 (e_X7_begin c G) = F) (hr : r_X7_parse c G = R) (hn : ¬ R.1 = 0) : P2 nk71 60 M_X12_read [mR 69] (e_X9_clear (gs R.2 0 10 (f_X7_faultPlace R.2))) (fun v2 G2 => v2 = some (mI R.1) ∧ ∃ c, Cpl c G2) := by
  have hc : c = 40 ∨ c = 52 := by unfold spS at hs; omega
  have hR2 : clK c G R.2 := by rw [← hr]; exact clK_parse
  refine ref_run h hky hs h18 hF (fun k hk => ?_) (fun H hb hfr h2 => ?_) (fun t n m p l qq H0 H hre hp => ?_) (fun t n m p l qq H0 H hre hp H' _ _ _ => ?_)
  · unfold e_X9_clear
    rw [gs_ne (by omega), gs_ne (by omega)]
    exact hR2 k (by omega) (by omega)
  · have e := parse_bad hr hF hb.2.1
    have e1 : R.1 = H 64 13 := by rw [e]; exact hb.2.2.1
    have e2 : f_X7_faultPlace R.2 = H 64 14 := by rw [e]; exact hb.2.2.2
    refine ⟨by rw [e1], c0, ?_⟩
    rw [e2] at hfr
    exact fault_cpl h hs h18 hR2 hfr h2
  · obtain ⟨a1, jb, f11, f12, r72, r76, st, hfr, h13, h19, h600, h02⟩ := hre
    have e := parse_good hr hF a1 f12
    have hbq := st.bqq
    have e1 : R.1 = H 64 15 := by rw [e]; exact hbq.1
    have e2 : f_X7_faultPlace R.2 = H 64 16 := by
      rw [e]
      exact hbq.2.1.resolve_left (by rw [hbq.1]; omega)
    refine ⟨by rw [e1], c0, ?_⟩
    rw [e2] at hfr
    exact fault_cpl h hs h18 hR2 hfr h02
  · exfalso
    obtain ⟨a1, jb, f11, f12, r72, r76, st, hfr, h13, h19, h600, h02⟩ := hre
    have e := parse_good hr hF a1 f12
    have hbq := st.bqq
    have e1 : R.1 = H 64 15 := by rw [e]; exact hbq.1
    have e3 : 0 ≤ R.1 := by rw [e]; exact hbq.2.2
    omega
theorem read_0 (h : Cpl c0 G) (hky : ∀ i, i < 20 → G 71 i = ky i) (hs : spS c S c0) (h18 : G 64 18 = 1 - (S : Int)) (hF : pfin c 601 0 (e_X7_begin c G) = F) (hr : r_X7_parse c G = R) (h0 : R.1 = 0) : P2 nk71 60 M_X12_read [mR 69] (e_X9_clear (e_X4_clear (gs (gs (gs R.2 0 10 (-1)) 0 8 ((c + 5 : Nat) : Int)) 0 9 ((97 - c : Nat) : Int)))) (fun v2 G2 => v2 = some (mI R.1) ∧ ∃ c, Cpl c G2) := by
  have hc : c = 40 ∨ c = 52 := by unfold spS at hs; omega
  have hR2 : clK c G R.2 := by rw [← hr]; exact clK_parse
  refine ref_run h hky hs h18 hF (fun k hk => ?_) (fun H hb hfr h2 => ?_) (fun t n m p l qq H0 H hre hp => ?_) (fun t n m p l qq H0 H hre hp H' w1 w2 w3 => ?_)
  · unfold e_X9_clear
    rw [gs_ne (by omega), clr_22, gf_ne (by omega), gf_ne (by omega), gs_ne (by omega), gs_ne (by omega), gs_ne (by omega)]
    exact hR2 k (by omega) (by omega)
  · exfalso
    have e := parse_bad hr hF hb.2.1
    have e1 : R.1 = H 64 13 := by rw [e]; exact hb.2.2.1
    have := hb.1
    omega
  · exfalso
    obtain ⟨a1, jb, f11, f12, r72, r76, st, hfr, h13, h19, h600, h02⟩ := hre
    have e := parse_good hr hF a1 f12
    have e1 : R.1 = H 64 15 := by rw [e]; exact st.bqq.1
    omega
  · have e := parse_good hr hF hre.1 hre.2.2.2.1
    have e2 : R.2 = fd (g_X7_settleRivals_2 c F) F m := by rw [e]
    have e1 : (fd (g_X7_settleRivals_2 c F) F m) 15 10 = 0 := by
      have : R.1 = (fd (g_X7_settleRivals_2 c F) F m) 15 10 := by rw [e]
      rw [← this]; exact h0
    rw [e2] at hre hR2
    exact ⟨by rw [h0], c, new_cpl h hs hR2 e1 hre w1 w2 w3⟩
theorem pm_read (h : Cpl c0 G) (hky : ∀ i, i < 20 → G 71 i = ky i) : bth 60 M_X11_read M_X12_read [] G := by
  rcases h.2.1 with ⟨e, k18, k8, k9⟩ | ⟨e, k18, k8, k9⟩
  · subst e
    have hs : spS 52 1 40 := Or.inr ⟨rfl, rfl, rfl⟩
    have h18 : G 64 18 = 1 - ((1 : Nat) : Int) := by rw [k18]; decide
    exact sp_read_52 (q := 20) k8 k9 (allD (by decide)) (fun r hr h1 => ⟨r.1, rfl, read_1 h hky hs h18 rfl hr h1⟩) (fun r hr h1 => ⟨r.1, rfl, read_0 h hky hs h18 rfl hr h1⟩)
  · subst e
    have hs : spS 40 0 52 := Or.inl ⟨rfl, rfl, rfl⟩
    have h18 : G 64 18 = 1 - ((0 : Nat) : Int) := by rw [k18]; decide
    exact sp_read_40 (q := 20) k8 k9 (allD (by decide)) (fun r hr h1 => ⟨r.1, rfl, read_1 h hky hs h18 rfl hr h1⟩) (fun r hr h1 => ⟨r.1, rfl, read_0 h hky hs h18 rfl hr h1⟩)
end PMQ
