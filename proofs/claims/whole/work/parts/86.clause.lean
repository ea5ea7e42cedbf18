/-! ===== a clause more ===== -/
/-- where the class writes in clause m -/
def insK (c m p a i : Nat) : Prop := a = 20 ∨ a = 19 ∨ (a = 15 ∧ (i = 5 ∨ i = 6 ∨ i = 7 ∨ i = 8 ∨ i = 10 ∨ i = 11)) ∨ (a = c ∧ (i = 12 ∨ i = 13)) ∨ (c + 4 ≤ a ∧ a ≤ c + 10 ∧ i = m) ∨ (a = c + 11 ∧ p ≤ i) ∨ ((a = 17 ∨ a = 18) ∧ i = m)
/-- where the reference writes in clause m -/
def insQ (S m l qq a i : Nat) : Prop := (a = 64 ∧ (i = 11 ∨ i = 12 ∨ i = 13 ∨ i = 14 ∨ i = 15 ∨ i = 16 ∨ i = 39 ∨ i = 43)) ∨ a = 93 ∨ ((a = 76 ∨ a = 85) ∧ i = S) ∨ (77 ≤ a ∧ a ≤ 84 ∧ i = 40 * S + m) ∨ (86 ≤ a ∧ a ≤ 90 ∧ 600 * S + l ≤ i ∧ i < 600 * S + 600) ∨ (91 ≤ a ∧ a ≤ 92 ∧ 700 * S + qq ≤ i ∧ i < 700 * S + 700)
theorem insQ_in {S m l qq : Nat} (hm : m < 40) : ∀ a i, insQ S m l qq a i → ins S a i := by
  intro a i hi
  unfold insQ at hi
  unfold ins
  omega
theorem insR_Q {S m l qq : Nat} : ∀ a i, insR S qq l a i → insQ S m l qq a i := by
  intro a i hi
  unfold insR at hi
  unfold insQ
  omega
theorem insC_K {c m p : Nat} : ∀ a i, insC c m p a i → insK c m p a i := by
  intro a i hi
  unfold insC at hi
  unfold insK
  omega
theorem insQ_64 {S m l qq i : Nat} (h : i = 11 ∨ i = 12 ∨ i = 13 ∨ i = 14 ∨ i = 15 ∨ i = 16 ∨ i = 39 ∨ i = 43) : insQ S m l qq 64 i := Or.inl ⟨rfl, h⟩
section JBS
variable {c S n m p l qq t p' l' qq' t' : Nat} {L : Int} {r : Nat → Int} {s H s' H' : mG}
/-- one clause more on both sides -/
theorem JB_step (hc : c = 40 ∨ c = 52) (h : JB c S (tb L r) n m p l qq t s H) (hm : m < 40) (ht : t ≤ t') (hp : p ≤ p' ∧ p' ≤ t') (hl : l ≤ l' ∧ l' ≤ t') (hq : qq ≤ qq' ∧ qq' ≤ t') (fs : frm (insK c m p) s s') (fh : frm (insQ S m l qq) H H') (hbm : bmn s s') (hbq : bq (s' 15 10) (s' 15 11) (H' 64 15) (H' 64 16)) (h13 : s' c 13 = (p' : Int)) (h39 : H' 64 39 = ((700 * S + qq' : Nat) : Int)) (h85 : H' 85 S = (l' : Int)) (h5 : s' 15 5 = 0) (h6 : s' 15 6 = 0) (h12 : H' 64 12 = 0) (hck : CK c S n p' l' qq' m s' H')
    (hun : s' 15 10 = 0 → s' (c + 4) m = 18 → ∀ k, k < m → s (c + 4) k = 18 → s (c + 5) k = s' (c + 5) m → s (c + 7) k = s' (c + 7) m → False) (hdc : s' (c + 4) m = 22 → (∃ i : Nat, (i : Int) < s' (c + 5) m ∧ s 16 i = s 16 (s' (c + 5) m).toNat) → ¬ s' 15 10 = 0 ∧ s' 15 11 < s' 18 m) : JB c S (tb L r) n (m + 1) p' l' qq' t' s' H' := by
  have hcl : ∀ a k, 4 ≤ a → a ≤ 10 → k < m → s' (c + a) k = s (c + a) k := fun a k h1 h2 h3 => fs _ _ (by unfold insK; omega)
  have h16 : s' 16 = s 16 := by
    funext i
    exact fs _ _ (by unfold insK; omega)
  have hblm : ¬ s 15 10 = 0 → ¬ s' 15 10 = 0 ∧ s' 15 11 ≤ s 15 11 := fun q => ⟨fun z => q (hbm.1 z), hbm.2 q⟩
  refine ⟨⟨h.hn.1, by omega⟩, ⟨hp.2, hq.2, hl.2⟩, h13, h39, h85, h5, h6, h12, fun x hx => ?_, fun x hx => ⟨?_, ?_⟩, fun k hk => ?_, fun i hi => ?_, hbq, fun h0 k j hk hj e1 e2 e3 e4 => ?_, fun o ho he => ?_, fun k hk e1 e2 => ?_⟩
  · rw [fh 73 _ (by unfold insQ; omega), h16]; exact h.nam x hx
  · rw [fh 74 _ (by unfold insQ; omega), fs (c + 1) x (by unfold insK; omega)]; exact (h.fro x hx).1
  · rw [fh 75 _ (by unfold insQ; omega), fs (c + 2) x (by unfold insK; omega)]; exact (h.fro x hx).2
  · by_cases z : k = m
    · subst z; exact hck
    · refine CK_gr (h.cla k (by omega)) (Nat.le_refl n) hp.1 hl.1 hq.1 (fun a q1 q2 => hcl a k q1 q2 (by omega)) (fs 17 k (by unfold insK; omega)) (fs 18 k (by unfold insK; omega)) (fun a q1 q2 => fh a _ (by unfold insQ; omega)) (fun i hi => fs _ _ (by unfold insK; omega)) (fun a i q1 q2 q3 => fh a i (by unfold insQ; omega)) (fun i hi => ⟨fh 91 i (by unfold insQ; omega), fh 92 i (by unfold insQ; omega)⟩) ?_ ?_ hbm.1
      · funext i; exact fh 68 i (by unfold insQ; omega)
      · funext i; exact fh 70 i (by unfold insQ; omega)
  · rw [fs (c + 3) i (by unfold insK; omega)]; exact h.apa i hi
  · by_cases zk : k = m
    · by_cases zj : j = m
      · omega
      · subst zk
        rw [hcl 4 j (by decide) (by decide) (by omega)] at e2
        rw [hcl 5 j (by decide) (by decide) (by omega)] at e3
        rw [hcl 7 j (by decide) (by decide) (by omega)] at e4
        exact (hun h0 e1 j (by omega) e2 e3.symm e4.symm).elim
    · by_cases zj : j = m
      · subst zj
        rw [hcl 4 k (by decide) (by decide) (by omega)] at e1
        rw [hcl 5 k (by decide) (by decide) (by omega)] at e3
        rw [hcl 7 k (by decide) (by decide) (by omega)] at e4
        exact (hun h0 e2 k (by omega) e1 e3 e4).elim
      · rw [hcl 4 k (by decide) (by decide) (by omega)] at e1
        rw [hcl 4 j (by decide) (by decide) (by omega)] at e2
        rw [hcl 5 k (by decide) (by decide) (by omega), hcl 5 j (by decide) (by decide) (by omega)] at e3
        rw [hcl 7 k (by decide) (by decide) (by omega), hcl 7 j (by decide) (by decide) (by omega)] at e4
        exact h.uni (hbm.1 h0) k j (by omega) (by omega) e1 e2 e3 e4
  · rw [h16] at he
    obtain ⟨d1, d2⟩ := h.dup o ho he
    obtain ⟨b1, b2⟩ := hblm d1
    have := tkP_mono (L := L) (r := r) ht
    exact ⟨b1, by omega⟩
  · rw [h16] at e2
    by_cases z : k = m
    · subst z; exact hdc e1 e2
    · rw [hcl 4 k (by decide) (by decide) (by omega)] at e1
      rw [hcl 5 k (by decide) (by decide) (by omega)] at e2
      obtain ⟨d1, d2⟩ := h.dcl k (by omega) e1 e2
      obtain ⟨b1, b2⟩ := hblm d1
      rw [fs 18 k (by unfold insK; omega)]
      exact ⟨b1, by omega⟩
end JBS
section LSM
variable {c : Nat} {L : Int} {r : Nat → Int} {F : mG} {K S k P0 q0 l0 : Nat} {s0 H0 : mG} {t sh qq l : Nat} {s H : mG} {X : Int}
theorem hC_one {E Kk : Nat → Int} {p n : Nat} {q : Bool × Bool} (h : rnC E Kk p n = stk 1 q) : hC E Kk p n = (q.1 || q.2) := by
  unfold hC
  rw [h]
  show (!(decide (b01 (q.1 || q.2) = 0))) = (q.1 || q.2)
  cases (q.1 || q.2) <;> decide
/-- the condition's end -/
theorem li_semi (hc : c = 40 ∨ c = 52) (hk : k < 40) (h : LI c L r F K S k P0 q0 l0 s0 H0 t sh qq l X s H) (hno : ¬ (tkK (tb L r) (tkQ (tb L r) t) = 31 ∨ tkK (tb L r) (tkQ (tb L r) t) = 32)) :
    BdR F S q0 l0 H0 (e_X12_must H 4) ∨ ∃ (s' : mG) (P' : Nat), e_X12_must H 4 = gs H 64 11 ((t + 1 : Nat) : Int) ∧ t < 600 ∧ SM c L r F K (t + 1) 8 s' (gs H 64 11 ((t + 1 : Nat) : Int)) ∧ CS0 c k P0 P' 0 s' ∧ P' ≤ t ∧ s' 15 6 = 0 ∧ frm (insC c k P0) s0 s' ∧ s' 15 10 = s 15 10 ∧ s' 15 11 = s 15 11 ∧ (s 15 10 = 0 → ∀ (E va : Nat → Int) (mk : Int), cpE E va mk → hC E (s' (c + 11)) P0 (P' - P0) = hRs (oRf H) (lRf H va mk) (600 * S + l0) (l + 1 - l0)) := by
  have hSM := h.sm
  obtain ⟨hcs, hF, hX8, hT, h13⟩ := hSM
  have h600 := hT.2.2.2.1
  have hXX : 0 < X ∧ ¬ X = 1 ∧ ¬ X = 8 := by rcases h.hX with e | ⟨e, _⟩ <;> omega
  have hkk := tkK_r (tb L r) (tkQ (tb L r) t)
  have kk := km_d (tkK (tb L r) (tkQ (tb L r) t))
  have k2 : ¬ (km (tkK (tb L r) (tkQ (tb L r) t)) = 25 ∨ km (tkK (tb L r) (tkQ (tb L r) t)) = 26) := by omega
  have k4 : km (tkK (tb L r) (tkQ (tb L r) t)) = 4 ↔ tkK (tb L r) (tkQ (tb L r) t) = 4 := by omega
  have k7 : ¬ (tkK (tb L r) (tkQ (tb L r) t) = 8 ∨ tkK (tb L r) (tkQ (tb L r) t) = 9 ∨ tkK (tb L r) (tkQ (tb L r) t) = 10) → ¬ (km (tkK (tb L r) (tkQ (tb L r) t)) = 7 ∨ km (tkK (tb L r) (tkQ (tb L r) t)) = 8 ∨ km (tkK (tb L r) (tkQ (tb L r) t)) = 9) := by omega
  clear kk hkk
  have fis := fa_X12_is H 4
  rw [(rT_k hT).1] at fis
  have hA8 : ∀ A : mG, (∀ k, k ≠ 20 → A k = s k) → A 15 8 = X := fun A hA => by rw [hA 15 (by decide)]; exact hX8
  obtain ⟨t1, t2, t3, t4, _⟩ := turn (fo := if tkK (tb L r) (tkQ (tb L r) t) = 4 then 8 else -1) hc ⟨hcs, hF, hX8, hT, h13⟩ hXX.1 rfl (fun A hA => by
    rw [li_fol h hA (fun q => k7 (h.nop q)), if_neg k2]
    by_cases y : tkK (tb L r) (tkQ (tb L r) t) = 4
    · rw [if_pos (k4.mpr y), if_pos y]
    · rw [if_neg (fun q => y (k4.mp q)), if_neg y])
  by_cases y : tkK (tb L r) (tkQ (tb L r) t) = 4
  · rw [if_pos y] at t1 t2 t3 t4
    have em : e_X12_must H 4 = e_X12_next H := by unfold e_X12_must; rw [if_neg (by omega)]
    rw [em]
    by_cases z6 : t = 600
    · rw [nx_end hT.2.1 z6]
      exact Or.inl (BdR_fail (by decide) (t2 (by decide) (by decide) z6) hT h13 h.fh)
    · rw [nx_go hT.2.1 (by omega)]
      obtain ⟨A, b1, b2, b3, b4, b5, b6⟩ := t4 (by decide) (by omega) (by omega) (fun A hA => by rw [rom_c (by rw [hA8 A hA]; exact hXX.2.1) (by rw [hA8 A hA]; exact hXX.2.2), if_neg (fun q => absurd q.1 (by rw [k4.mpr y]; decide))])
      obtain ⟨s2, P', w', r1, r2, r3, r4, r5, r6, r7, r8, r9, r10⟩ := li_rel (x := 1) hc hk h h600 b1 (Or.inl rfl)
      have w0 := r8 rfl
      subst w0
      obtain ⟨c1, c2, c3, c4, c5⟩ := r2
      have en : gs (e_X7_note c A (km (tkK (tb L r) (tkQ (tb L r) t)))) 15 8 8 = gs (gs s2 15 7 0) 15 8 8 := by
        rw [li_note h (hA8 A b1), k4.mpr y, behind_semi (by rw [r1]; exact r7), r1]
      rw [en] at b5 b6
      have hcc := cne hc
      have hc0 : c ≠ 15 := (cne hc 0 (by decide)).1
      have e10 : (gs (gs s2 15 7 0) 15 8 8) 15 10 = s 15 10 := by
        rw [gs_at_ne (by decide), gs_at_ne (by decide)]
        exact r6 15 10 (nx15 hc (by decide))
      have e11 : (gs (gs s2 15 7 0) 15 8 8) 15 11 = s 15 11 := by
        rw [gs_at_ne (by decide), gs_at_ne (by decide)]
        exact r6 15 11 (nx15 hc (by decide))
      have k0 : ¬ tkK (tb L r) (tkQ (tb L r) t) = 0 := by omega
      have ht6 : t < 600 := by omega
      clear t1 t2 t3 t4
      refine Or.inr ⟨_, P', rfl, ht6, ⟨b5, b6, gs_at _ _ _ _, rT_nx hT k0 ht6 (fun k _ _ => gs_ne (by omega)) (gs_at _ _ _ _), by rw [gs_at_ne (by decide)]; exact h13⟩, ⟨?_, ?_, ?_, ?_, c5⟩, by omega, ?_, ?_, e10, e11, fun h0 E va mk hE => ?_⟩
      · rw [gs_ne hc0, gs_ne hc0]; exact c1
      · rw [gs_ne hc0, gs_ne hc0]; exact c2
      · rw [gs_ne (hcc 10 (by decide)).1, gs_ne (hcc 10 (by decide)).1]; exact c3
      · rw [gs_at_ne (by decide), gs_at_ne (by decide)]; exact c4
      · rw [gs_at_ne (by decide), gs_at_ne (by decide)]; exact r7
      · refine frm_tr h.fs (frm_gs (frm_gs (frm_mono r6 (insX_C (Nat.le_refl P0))) ?_) ?_)
        · exact Or.inr (Or.inr (Or.inl ⟨rfl, by decide⟩))
        · exact Or.inr (Or.inr (Or.inl ⟨rfl, by decide⟩))
      · rw [gs_ne (hcc 11 (by decide)).1, gs_ne (hcc 11 (by decide)).1]
        exact hC_one ((r10 h0 E va mk hE).1 rfl)
  · rw [if_neg y] at t1
    have em : e_X12_must H 4 = e_X12_fail H 1 := by unfold e_X12_must; rw [if_pos (by omega)]
    rw [em]
    exact Or.inl (BdR_fail (by decide) (t1 rfl) hT h13 h.fh)
end LSM
