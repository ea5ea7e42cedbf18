/-! ===== the coupling behind read ===== -/
section SID
variable {c L S : Nat} {G H : mG}
/-- the reference's rows of side L stand as they were -/
def SdE (L : Nat) (G H : mG) : Prop := (∀ a, a = 72 ∨ a = 76 ∨ a = 85 → H a L = G a L) ∧ (∀ a x, 73 ≤ a → a ≤ 75 → x < 8 → H a (8 * L + x) = G a (8 * L + x)) ∧ (∀ a k, 77 ≤ a → a ≤ 84 → k < 40 → H a (40 * L + k) = G a (40 * L + k)) ∧ (∀ a j, 86 ≤ a → a ≤ 90 → j < 600 → H a (600 * L + j) = G a (600 * L + j)) ∧ (∀ i, 700 * L ≤ i → i < 700 * L + 700 → H 91 i = G 91 i ∧ H 92 i = G 92 i)
theorem SdE.f72 {L : Nat} {G H : mG} (h : SdE L G H) : ∀ a, a = 72 ∨ a = 76 ∨ a = 85 → H a L = G a L := h.1
theorem SdE.f74 {L : Nat} {G H : mG} (h : SdE L G H) : ∀ a x, 73 ≤ a → a ≤ 75 → x < 8 → H a (8 * L + x) = G a (8 * L + x) := h.2.1
theorem SdE.f77 {L : Nat} {G H : mG} (h : SdE L G H) : ∀ a k, 77 ≤ a → a ≤ 84 → k < 40 → H a (40 * L + k) = G a (40 * L + k) := h.2.2.1
theorem SdE.f86 {L : Nat} {G H : mG} (h : SdE L G H) : ∀ a j, 86 ≤ a → a ≤ 90 → j < 600 → H a (600 * L + j) = G a (600 * L + j) := h.2.2.2.1
theorem SdE.f91 {L : Nat} {G H : mG} (h : SdE L G H) : ∀ i, 700 * L ≤ i → i < 700 * L + 700 → H 91 i = G 91 i ∧ H 92 i = G 92 i := h.2.2.2.2
theorem sd_mk {G1 : mG} (hL : L ≤ 1) (hS : S ≤ 1) (hn : ¬ L = S) (e : ∀ k, 72 ≤ k → k ≤ 92 → G1 k = G k) (h : frm (insB S) G1 H) : SdE L G H := by
  have key : ∀ a i, 72 ≤ a → a ≤ 92 → ¬ insB S a i → H a i = G a i := fun a i h1 h2 h3 => by rw [h a i h3, e a h1 h2]
  refine ⟨fun a ha => key a L (by omega) (by omega) (by unfold insB ins; omega), fun a x h1 h2 h3 => key a _ (by omega) (by omega) (by unfold insB ins; omega), fun a k h1 h2 h3 => key a _ (by omega) (by omega) (by unfold insB ins; omega), fun a j h1 h2 h3 => key a _ (by omega) (by omega) (by unfold insB ins; omega), fun i h1 h2 => ⟨key 91 i (by omega) (by omega) (by unfold insB ins; omega), key 92 i (by omega) (by omega) (by unfold insB ins; omega)⟩⟩
/-- a literal of side L -/
theorem lW_sd {j : Nat} (hs : SdE L G H) (hj : j < 600) (h : lW G (600 * L + j)) : lW H (600 * L + j) := by
  obtain ⟨h1, h2, ⟨h3, h4, h5, h6⟩, h7⟩ := h
  have ed : (600 * L + j) / 600 = L := by omega
  rw [ed] at h3 h6
  have hc : ∀ i : Nat, G 87 (600 * L + j) ≤ (i : Int) → (i : Int) < G 89 (600 * L + j) → H 91 i = G 91 i ∧ H 92 i = G 92 i := fun i q1 q2 => hs.f91 i (by omega) (by omega)
  unfold lW
  rw [ed, hs.f86 86 j (by decide) (by decide) hj, hs.f86 87 j (by decide) (by decide) hj, hs.f86 88 j (by decide) (by decide) hj, hs.f86 89 j (by decide) (by decide) hj]
  refine ⟨h1, fun hn => ?_, ⟨h3, h4, h5, h6⟩, h7⟩
  obtain ⟨a, b, d⟩ := h2 hn
  refine ⟨a, fun va => ?_, fun va => ?_⟩
  · have e : rnR (H 91) (H 92) va (G 87 (600 * L + j)).toNat (G 88 (600 * L + j) - G 87 (600 * L + j)).toNat = rnR (G 91) (G 92) va (G 87 (600 * L + j)).toNat (G 88 (600 * L + j) - G 87 (600 * L + j)).toNat := rnR_congr (fun i hi => hc _ (by omega) (by omega))
    unfold rV
    rw [e]
    exact b va
  · have e : rnR (H 91) (H 92) va (G 88 (600 * L + j)).toNat (G 89 (600 * L + j) - G 88 (600 * L + j)).toNat = rnR (G 91) (G 92) va (G 88 (600 * L + j)).toNat (G 89 (600 * L + j) - G 88 (600 * L + j)).toNat := rnR_congr (fun i hi => hc _ (by omega) (by omega))
    unfold rV
    rw [e]
    exact d va
theorem rW_sd (hs : SdE (G 64 18).toNat G H) (h18 : H 64 18 = G 64 18) (h40 : G 76 (G 64 18).toNat ≤ 40) (h : rW G) : rW H := by
  intro k hk hsrt
  rw [h18] at hk hsrt ⊢
  rw [hs.f72 76 (Or.inr (Or.inl rfl))] at hk
  have k40 : k < 40 := by omega
  rw [hs.f77 77 k (by decide) (by decide) k40] at hsrt
  rw [hs.f77 82 k (by decide) (by decide) k40, hs.f77 83 k (by decide) (by decide) k40]
  obtain ⟨b1, b2⟩ := h k hk hsrt
  refine ⟨b1, fun j hj => ?_⟩
  have := b2 j hj
  rw [Nat.add_assoc] at this ⊢
  exact lW_sd hs (by omega) this
theorem hRy_sd (hs : SdE L G H) {va : Nat → Int} {mk : Int} {a b : Int} (hab : 0 ≤ a ∧ a ≤ 600 ∧ b ≤ 600) (hl : ∀ j : Nat, j < (b - a).toNat → lW G (600 * L + a.toNat + j)) : hRy (H 90) (H 86) (H 87) (H 88) (H 89) (H 91) (H 92) va mk (600 * L + a.toNat) (b - a).toNat = hRy (G 90) (G 86) (G 87) (G 88) (G 89) (G 91) (G 92) va mk (600 * L + a.toNat) (b - a).toNat := by
  unfold hRy hRs
  rw [hR_congr (fun i hi => ⟨?_, ?_⟩)]
  · rw [Nat.add_assoc, hs.f86 90 _ (by decide) (by decide) (by omega)]
  · have hh := hl i hi
    rw [Nat.add_assoc] at hh ⊢
    obtain ⟨h1, h2, ⟨h3, h4, h5, h6⟩, h7⟩ := hh
    have ed : (600 * L + (a.toNat + i)) / 600 = L := by omega
    rw [ed] at h3 h6
    exact litY_congr (hs.f86 86 _ (by decide) (by decide) (by omega)) (hs.f86 87 _ (by decide) (by decide) (by omega)) (hs.f86 88 _ (by decide) (by decide) (by omega)) (hs.f86 89 _ (by decide) (by decide) (by omega)) ⟨by omega, h4, h5, h7⟩ (fun x q1 q2 => hs.f91 x (by omega) (by omega))
theorem cpC_sd (hL : L = (G 64 18).toNat) (hs : SdE L G H) (hc : ∀ j, j < 12 → H (c + j) = G (c + j)) (hr : rW G) (h : cpC c G L) : cpC c H L := by
  obtain ⟨d1, d2, d3, d4, d5, d6, d7, d8, d9⟩ := h
  have e0 : H c = G c := hc 0 (by decide)
  unfold cpC
  rw [e0, hc 1 (by decide), hc 2 (by decide), hc 3 (by decide), hc 4 (by decide), hc 5 (by decide), hc 7 (by decide), hs.f72 72 (Or.inl rfl), hs.f72 76 (Or.inr (Or.inl rfl))]
  refine ⟨d1, d2, d3, d4, fun x hx => ?_, fun k hk => ?_, d7, fun x y hx hy => ?_, fun k hk hs4 => ?_⟩
  · rw [hs.f74 74 x (by decide) (by decide) (by omega), hs.f74 75 x (by decide) (by decide) (by omega)]; exact d5 x hx
  · have k40 : k < 40 := by omega
    have := d6 k hk
    unfold cpK at this ⊢
    rw [e0, hc 4 (by decide), hc 5 (by decide), hc 6 (by decide), hc 7 (by decide), hc 8 (by decide), hs.f77 77 k (by decide) (by decide) k40, hs.f77 78 k (by decide) (by decide) k40, hs.f77 79 k (by decide) (by decide) k40, hs.f77 80 k (by decide) (by decide) k40, hs.f77 81 k (by decide) (by decide) k40]
    exact this
  · obtain ⟨q1, q2⟩ := d8 x y hx hy
    refine ⟨q1, fun w => ?_, fun ⟨k, k1, k2, k3⟩ => q2.mpr ⟨k, k1, ?_⟩⟩
    · obtain ⟨k, k1, k2, k3⟩ := q2.mp w
      have k40 : k < 40 := by omega
      refine ⟨k, k1, ?_⟩
      rw [hs.f77 77 k (by decide) (by decide) k40, hs.f77 78 k (by decide) (by decide) k40, hs.f77 79 k (by decide) (by decide) k40]
      exact ⟨k2, k3⟩
    · have k40 : k < 40 := by omega
      rw [hs.f77 77 k (by decide) (by decide) k40] at k2
      rw [hs.f77 78 k (by decide) (by decide) k40, hs.f77 79 k (by decide) (by decide) k40] at k3
      exact ⟨k2, k3⟩
  · have k40 : k < 40 := by omega
    have w := d9 k hk hs4
    have hsrt : G 77 (40 * L + k) = 1 ∨ G 77 (40 * L + k) = 3 := by
      have := (d6 k hk).2
      rcases this with ⟨s1, s2, _⟩ | ⟨s1, s2, _⟩ | ⟨s1, s2, _⟩ | ⟨s1, s2, _⟩ <;> omega
    have hr2 := hr k (by rw [← hL, d4]; exact hk) (by rw [← hL]; exact hsrt)
    rw [← hL] at hr2
    unfold cpW at w ⊢
    rw [hc 9 (by decide), hc 10 (by decide), hc 11 (by decide), hs.f77 82 k (by decide) (by decide) k40, hs.f77 83 k (by decide) (by decide) k40]
    intro E va mk m1 m2 m3 m4 m5 m6 m7 m8
    rw [hRy_sd hs hr2.1 hr2.2]
    exact w E va mk m1 m2 m3 m4 m5 m6 m7 m8
end SID
/-- what neither side changes when it reads -/
def RKp (G H : mG) : Prop := (∀ k, 1 ≤ k → k ≤ 12 → H k = G k) ∧ (H 14 = G 14) ∧ (H 65 = G 65) ∧ (∀ k, 94 ≤ k → k ≤ 103 → H k = G k) ∧ (H 105 = G 105) ∧ (H 13 1 = 0) ∧ (H 64 2 = 0) ∧ (H 64 44 = G 64 44) ∧ (H 64 51 = G 64 51) ∧ (H 64 17 = H 0 10)
theorem RKp.k1 {G H : mG} (h : RKp G H) : ∀ k, 1 ≤ k → k ≤ 12 → H k = G k := h.1
theorem RKp.k14 {G H : mG} (h : RKp G H) : H 14 = G 14 := h.2.1
theorem RKp.k65 {G H : mG} (h : RKp G H) : H 65 = G 65 := h.2.2.1
theorem RKp.k94 {G H : mG} (h : RKp G H) : ∀ k, 94 ≤ k → k ≤ 103 → H k = G k := h.2.2.2.1
theorem RKp.k105 {G H : mG} (h : RKp G H) : H 105 = G 105 := h.2.2.2.2.1
theorem RKp.t13 {G H : mG} (h : RKp G H) : H 13 1 = 0 := h.2.2.2.2.2.1
theorem RKp.t2 {G H : mG} (h : RKp G H) : H 64 2 = 0 := h.2.2.2.2.2.2.1
theorem RKp.r44 {G H : mG} (h : RKp G H) : H 64 44 = G 64 44 := h.2.2.2.2.2.2.2.1
theorem RKp.r51 {G H : mG} (h : RKp G H) : H 64 51 = G 64 51 := h.2.2.2.2.2.2.2.2.1
theorem RKp.pl {G H : mG} (h : RKp G H) : H 64 17 = H 0 10 := h.2.2.2.2.2.2.2.2.2
theorem rk_bft {G H : mG} (hk : RKp G H) (h : cpB G ∧ cpF G ∧ cpT G) : cpB H ∧ cpF H ∧ cpT H := by
  obtain ⟨hB, hF, hT⟩ := h
  refine ⟨?_, ?_, ?_⟩
  · unfold cpB at hB ⊢
    rw [hk.k1 1 (by decide) (by decide), hk.k1 2 (by decide) (by decide), hk.k1 3 (by decide) (by decide), hk.k1 4 (by decide) (by decide), hk.k1 5 (by decide) (by decide), hk.k1 6 (by decide) (by decide), hk.k1 7 (by decide) (by decide), hk.k94 94 (by decide) (by decide), hk.k94 95 (by decide) (by decide), hk.k94 96 (by decide) (by decide), hk.k94 97 (by decide) (by decide), hk.k94 98 (by decide) (by decide), hk.k94 99 (by decide) (by decide), hk.r44]
    exact hB
  · unfold cpF at hF ⊢
    rw [hk.k1 8 (by decide) (by decide), hk.k1 9 (by decide) (by decide), hk.k1 10 (by decide) (by decide), hk.k1 11 (by decide) (by decide), hk.k1 12 (by decide) (by decide), hk.k94 100 (by decide) (by decide), hk.k94 101 (by decide) (by decide), hk.k94 102 (by decide) (by decide), hk.k94 103 (by decide) (by decide), hk.r51]
    exact hF
  · refine ⟨by rw [hk.t13]; decide, by rw [hk.t2, hk.t13], ?_, hk.pl⟩
    rw [hk.k65, hk.k14]; exact hT.2.2.1
/-- a text at fault changes nothing in force -/
theorem Cpl_fault {c : Nat} {G H : mG} (h : Cpl c G) (hk : RKp G H) (hs : SdE (G 64 18).toNat G H) (h18 : H 64 18 = G 64 18) (h0 : H 0 8 = G 0 8 ∧ H 0 9 = G 0 9) (hcc : ∀ j, j < 12 → H (c + j) = G (c + j)) (hg : H 22 = G 22 ∧ H 23 = G 23 ∧ H 104 = G 104) : Cpl c H := by
  obtain ⟨h1, h2, h3, h4, h5, h6⟩ := h
  have e0 : H c = G c := hcc 0 (by decide)
  have h40 : G 76 (G 64 18).toNat ≤ 40 := by rw [h3.2.2.2.1]; exact h3.2.2.1.2
  refine ⟨rk_bft hk h1, ?_, ?_, ?_, cB_to h5 e0 (hcc 9 (by decide)) (hcc 10 (by decide)), rW_sd hs h18 h40 h6⟩
  · unfold cpL at h2 ⊢
    rw [h18, h0.1, h0.2]; exact h2
  · rw [h18]; exact cpC_sd rfl hs hcc h6 h3
  · unfold cpG at h4 ⊢
    rw [hg.1, hg.2.1, hg.2.2, hk.k105, hk.k1 1 (by decide) (by decide), hk.k1 2 (by decide) (by decide), e0, hcc 4 (by decide), hcc 7 (by decide)]
    exact h4
