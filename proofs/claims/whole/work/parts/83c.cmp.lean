/-! ===== a comparison on both sides ===== -/
/-- behind the sign of comparison: the left side is out -/
def LM (c : Nat) (L : Int) (r : Nat → Int) (F : mG) (K S k P0 P qq sh n1 : Nat) (x : Int) (s H : mG) (t : Nat) (s2 H2 : mG) : Prop := (SM c L r F K t 20 s2 H2) ∧ (s2 c 12 = ((k + 1 : Nat) : Int)) ∧ (s2 c 13 = ((P + n1 : Nat) : Int)) ∧ (s2 (c + 10) k = ((P + n1 : Nat) : Int)) ∧ (s2 15 5 = ((shW sh + 1 : Nat) : Int)) ∧ (s2 15 6 = 0) ∧ (s2 15 7 = 1) ∧ (s2 19 (shW sh) = x) ∧ (∀ i, i < shW sh → s2 19 i = s 19 i) ∧ (H2 64 39 = ((700 * S + qq + n1 : Nat) : Int)) ∧ (H2 64 12 = 0) ∧ (P + n1 + (shW sh + 1) ≤ t) ∧ (qq + n1 ≤ t) ∧ (frm (insC c k P) s s2) ∧ (s2 15 10 = s 15 10 ∧ s2 15 11 = s 15 11) ∧ (frm (insE S qq) H H2) ∧ (∀ i, i < n1 → s2 (c + 11) (P + i) = cmE (H2 91 (700 * S + qq + i)) (H2 92 (700 * S + qq + i)) ∧ okE (H2 91 (700 * S + qq + i)) (H2 92 (700 * S + qq + i))) ∧ (∀ va, ∃ v, rnR (H2 91) (H2 92) va (700 * S + qq) n1 = some [v]) ∧ (∀ va i, i ≤ n1 → ∃ T, rnR (H2 91) (H2 92) va (700 * S + qq) i = some T ∧ T.length ≤ 20)
theorem LM.sm {c : Nat} {L : Int} {r : Nat → Int} {F : mG} {K S k P0 P qq sh n1 : Nat} {x : Int} {s H : mG} {t : Nat} {s2 H2 : mG} (h : LM c L r F K S k P0 P qq sh n1 x s H t s2 H2) : SM c L r F K t 20 s2 H2 := h.1
theorem LM.c12 {c : Nat} {L : Int} {r : Nat → Int} {F : mG} {K S k P0 P qq sh n1 : Nat} {x : Int} {s H : mG} {t : Nat} {s2 H2 : mG} (h : LM c L r F K S k P0 P qq sh n1 x s H t s2 H2) : s2 c 12 = ((k + 1 : Nat) : Int) := h.2.1
theorem LM.c13 {c : Nat} {L : Int} {r : Nat → Int} {F : mG} {K S k P0 P qq sh n1 : Nat} {x : Int} {s H : mG} {t : Nat} {s2 H2 : mG} (h : LM c L r F K S k P0 P qq sh n1 x s H t s2 H2) : s2 c 13 = ((P + n1 : Nat) : Int) := h.2.2.1
theorem LM.c10 {c : Nat} {L : Int} {r : Nat → Int} {F : mG} {K S k P0 P qq sh n1 : Nat} {x : Int} {s H : mG} {t : Nat} {s2 H2 : mG} (h : LM c L r F K S k P0 P qq sh n1 x s H t s2 H2) : s2 (c + 10) k = ((P + n1 : Nat) : Int) := h.2.2.2.1
theorem LM.w5 {c : Nat} {L : Int} {r : Nat → Int} {F : mG} {K S k P0 P qq sh n1 : Nat} {x : Int} {s H : mG} {t : Nat} {s2 H2 : mG} (h : LM c L r F K S k P0 P qq sh n1 x s H t s2 H2) : s2 15 5 = ((shW sh + 1 : Nat) : Int) := h.2.2.2.2.1
theorem LM.d0 {c : Nat} {L : Int} {r : Nat → Int} {F : mG} {K S k P0 P qq sh n1 : Nat} {x : Int} {s H : mG} {t : Nat} {s2 H2 : mG} (h : LM c L r F K S k P0 P qq sh n1 x s H t s2 H2) : s2 15 6 = 0 := h.2.2.2.2.2.1
theorem LM.rs {c : Nat} {L : Int} {r : Nat → Int} {F : mG} {K S k P0 P qq sh n1 : Nat} {x : Int} {s H : mG} {t : Nat} {s2 H2 : mG} (h : LM c L r F K S k P0 P qq sh n1 x s H t s2 H2) : s2 15 7 = 1 := h.2.2.2.2.2.2.1
theorem LM.top {c : Nat} {L : Int} {r : Nat → Int} {F : mG} {K S k P0 P qq sh n1 : Nat} {x : Int} {s H : mG} {t : Nat} {s2 H2 : mG} (h : LM c L r F K S k P0 P qq sh n1 x s H t s2 H2) : s2 19 (shW sh) = x := h.2.2.2.2.2.2.2.1
theorem LM.bas {c : Nat} {L : Int} {r : Nat → Int} {F : mG} {K S k P0 P qq sh n1 : Nat} {x : Int} {s H : mG} {t : Nat} {s2 H2 : mG} (h : LM c L r F K S k P0 P qq sh n1 x s H t s2 H2) : ∀ i, i < shW sh → s2 19 i = s 19 i := h.2.2.2.2.2.2.2.2.1
theorem LM.r39 {c : Nat} {L : Int} {r : Nat → Int} {F : mG} {K S k P0 P qq sh n1 : Nat} {x : Int} {s H : mG} {t : Nat} {s2 H2 : mG} (h : LM c L r F K S k P0 P qq sh n1 x s H t s2 H2) : H2 64 39 = ((700 * S + qq + n1 : Nat) : Int) := h.2.2.2.2.2.2.2.2.2.1
theorem LM.ro {c : Nat} {L : Int} {r : Nat → Int} {F : mG} {K S k P0 P qq sh n1 : Nat} {x : Int} {s H : mG} {t : Nat} {s2 H2 : mG} (h : LM c L r F K S k P0 P qq sh n1 x s H t s2 H2) : H2 64 12 = 0 := h.2.2.2.2.2.2.2.2.2.2.1
theorem LM.hp {c : Nat} {L : Int} {r : Nat → Int} {F : mG} {K S k P0 P qq sh n1 : Nat} {x : Int} {s H : mG} {t : Nat} {s2 H2 : mG} (h : LM c L r F K S k P0 P qq sh n1 x s H t s2 H2) : P + n1 + (shW sh + 1) ≤ t := h.2.2.2.2.2.2.2.2.2.2.2.1
theorem LM.hq {c : Nat} {L : Int} {r : Nat → Int} {F : mG} {K S k P0 P qq sh n1 : Nat} {x : Int} {s H : mG} {t : Nat} {s2 H2 : mG} (h : LM c L r F K S k P0 P qq sh n1 x s H t s2 H2) : qq + n1 ≤ t := h.2.2.2.2.2.2.2.2.2.2.2.2.1
theorem LM.fs {c : Nat} {L : Int} {r : Nat → Int} {F : mG} {K S k P0 P qq sh n1 : Nat} {x : Int} {s H : mG} {t : Nat} {s2 H2 : mG} (h : LM c L r F K S k P0 P qq sh n1 x s H t s2 H2) : frm (insC c k P) s s2 := h.2.2.2.2.2.2.2.2.2.2.2.2.2.1
theorem LM.b10 {c : Nat} {L : Int} {r : Nat → Int} {F : mG} {K S k P0 P qq sh n1 : Nat} {x : Int} {s H : mG} {t : Nat} {s2 H2 : mG} (h : LM c L r F K S k P0 P qq sh n1 x s H t s2 H2) : s2 15 10 = s 15 10 ∧ s2 15 11 = s 15 11 := h.2.2.2.2.2.2.2.2.2.2.2.2.2.2.1
theorem LM.fh {c : Nat} {L : Int} {r : Nat → Int} {F : mG} {K S k P0 P qq sh n1 : Nat} {x : Int} {s H : mG} {t : Nat} {s2 H2 : mG} (h : LM c L r F K S k P0 P qq sh n1 x s H t s2 H2) : frm (insE S qq) H H2 := h.2.2.2.2.2.2.2.2.2.2.2.2.2.2.2.1
theorem LM.co {c : Nat} {L : Int} {r : Nat → Int} {F : mG} {K S k P0 P qq sh n1 : Nat} {x : Int} {s H : mG} {t : Nat} {s2 H2 : mG} (h : LM c L r F K S k P0 P qq sh n1 x s H t s2 H2) : ∀ i, i < n1 → s2 (c + 11) (P + i) = cmE (H2 91 (700 * S + qq + i)) (H2 92 (700 * S + qq + i)) ∧ okE (H2 91 (700 * S + qq + i)) (H2 92 (700 * S + qq + i)) := h.2.2.2.2.2.2.2.2.2.2.2.2.2.2.2.2.1
theorem LM.rv {c : Nat} {L : Int} {r : Nat → Int} {F : mG} {K S k P0 P qq sh n1 : Nat} {x : Int} {s H : mG} {t : Nat} {s2 H2 : mG} (h : LM c L r F K S k P0 P qq sh n1 x s H t s2 H2) : ∀ va, ∃ v, rnR (H2 91) (H2 92) va (700 * S + qq) n1 = some [v] := h.2.2.2.2.2.2.2.2.2.2.2.2.2.2.2.2.2.1
theorem LM.rp {c : Nat} {L : Int} {r : Nat → Int} {F : mG} {K S k P0 P qq sh n1 : Nat} {x : Int} {s H : mG} {t : Nat} {s2 H2 : mG} (h : LM c L r F K S k P0 P qq sh n1 x s H t s2 H2) : ∀ va i, i ≤ n1 → ∃ T, rnR (H2 91) (H2 92) va (700 * S + qq) i = some T ∧ T.length ≤ 20 := h.2.2.2.2.2.2.2.2.2.2.2.2.2.2.2.2.2.2
section CMP
variable {c : Nat} {L : Int} {r : Nat → Int} {F : mG} {K S k P0 q0 l0 : Nat} {s0 H0 : mG} {t sh P qq l : Nat} {s H : mG}
/-- all comes out of a level that has no bracket open -/
theorem XI_out (hc : c = 40 ∨ c = 52) (hk : k < 40) (hS : S ≤ 1) {p0 w0 n m : Nat} {q1 : Nat} {z H1 : mG} {x : Int} (hx : 1 ≤ x ∧ x ≤ 4) (h : XI c S k p0 q1 w0 n m 0 1 z H1) (hp : p0 + n + m ≤ 600) (hq : q1 + n + m ≤ 700) (hw : w0 + m ≤ 35) : ∃ (n' : Nat) (z' : mG), e_X7_release c z x = rl c x w0 z' ∧ n' = n + m ∧ XI c S k p0 q1 w0 n' 0 0 1 z' (cO 0 m H1) ∧ frm (insX c k p0) z z' ∧ frm (insE S q1) H1 (cO 0 m H1) ∧ (∀ i, i < w0 → z' 19 i = z 19 i) := by
  obtain ⟨n', m', z', i1, i2, i3, i4, i5, i6, i7, i8, i9, i10⟩ := XI_rel (x := x) (z := 0) hc hk (Or.inl ⟨rfl, hx.1, hx.2⟩) hS m n z H1 h (by omega) (by omega)
  have hm : m' = 0 := by
    rcases i6 with q | ⟨q1, q2, _⟩
    · exact q
    · exfalso
      obtain ⟨j, rfl⟩ : ∃ j, m' = j + 1 := ⟨m' - 1, by omega⟩
      rw [show j + 1 - 1 = j from rfl] at q2
      have h6 : H1 93 j = 6 := by
        rcases q2 with q | q
        · exact q
        · exact absurd q.1 (by decide)
      have hwo := i5.wo
      rw [(cO_fr (z := 0) m H1).1 93 (by decide) (by decide) (by decide), wb_s, if_pos h6] at hwo
      have : (wb (H1 93) j).1 + 1 = 0 := hwo
      omega
  subst hm
  exact ⟨n', z', by rw [release_rl h.wl hw, i1]; rfl, by omega, i5, i7, i8, i9⟩
theorem cmp_mid (hc : c = 40 ∨ c = 52) (hk : k < 40) (hS : S ≤ 1) (h : CI c L r F K S k P0 q0 l0 s0 H0 t sh P qq l s H) {t1 n m : Nat} {s1 H1 : mG} (ht : t < t1) (hb : BeU c L r F K S k P qq (shW sh) s H t1 s1 H1 n m 0) {kd : Int} (hkd : tkK (tb L r) (tkQ (tb L r) t1) = kd) (h11 : 11 ≤ kd ∧ kd ≤ 14) :
    (t1 = 600 → Sto (tb L r) F t1 2) ∧ (t1 < 600 → ∃ (s2 : mG) (n1 : Nat), LM c L r F K S k P0 P qq sh n1 (km kd) s H (t1 + 1) s2 (gs (cO 0 m H1) 64 11 ((t1 + 1 : Nat) : Int))) := by
  obtain ⟨hSM, hXI, hb1, hb2, hf1, hf2, hb3⟩ := hb
  obtain ⟨hcs, hF, hX8, hT, h13⟩ := hSM
  have hmm := XI_m hXI
  have hwl := shW_le (sh := sh)
  have hwr := shB_r h.sb
  have hkm : 10 ≤ km kd ∧ km kd ≤ 13 := by have := km_d kd; omega
  have hcr : crk (km kd) = 3 := by rw [crk_v, if_neg (by omega), if_neg (by omega), if_pos hkm]
  have h157 : s1 15 7 = 0 := by
    rw [hf1 15 7 (nx15 hc (by decide))]; exact h.rs
  have hA8 : ∀ A : mG, (∀ k, k ≠ 20 → A k = s1 k) → A 15 8 = 21 := fun A hA => by rw [hA 15 (by decide)]; exact hX8
  obtain ⟨t1', t2, t3, t4, _⟩ := turn (fo := 20) hc ⟨hcs, hF, hX8, hT, h13⟩ (by decide) hkd (fun A hA => by rw [be_fol (hA8 A hA), hcr, if_neg (by decide), if_neg (by rw [hA 15 (by decide), hXI.dl]; decide), if_pos (by rw [hA 15 (by decide)]; exact h157), if_pos rfl])
  refine ⟨fun e => t2 (by decide) (by decide) e, fun e => ?_⟩
  obtain ⟨A, b1, b2, b3, b4, b5, b6⟩ := t4 (by decide) (by omega) e (fun A hA => by rw [rom_c (by rw [hA8 A hA]; decide) (by rw [hA8 A hA]; decide), if_neg (fun q => absurd q.1 (by omega))])
  have hXA := XI_A hXI b1 hc
  obtain ⟨n', z, o1, o2, o3, o4, o5, o6⟩ := XI_out (x := 3) hc hk hS (by decide) hXA (by omega) (by omega) (by omega)
  have z19 : ∀ i, i < shW sh → z 19 i = s 19 i := fun i hi => by rw [o6 i hi, b1 19 (by decide)]; exact hb3 i hi
  have erel : e_X7_release c A 3 = z := by
    rw [o1]
    refine rl_base (fun i hi => ?_)
    rw [z19 i hi]
    rcases hwr i hi with q | q <;> rw [q] <;> decide
  have eh := hold_eq (x := km kd) o3.wl (show shW sh + 0 < 35 by omega)
  have en : gs (e_X7_note c A (km kd)) 15 8 20 = gs (gs (gs (gs z 19 (shW sh) (km kd)) 15 5 ((shW sh + 1 : Nat) : Int)) 15 7 1) 15 8 20 := by
    rw [note_21 (hA8 A b1), behind_cmp hkm (by rw [erel, eh, gs_at_ne (by decide), gs_ne (by decide)]; exact o3.dl), erel, eh]
    rfl
  rw [en] at b5 b6
  have hcc := cne hc
  have hc0 : c ≠ 15 ∧ c ≠ 19 := cne hc 0 (by decide)
  obtain ⟨cf1, cf2⟩ := cO_fr (z := 0) m H1
  have k0 : ¬ tkK (tb L r) (tkQ (tb L r) t1) = 0 := by omega
  have fz : frm (insX c k P) s z := frm_tr (frX_A hf1 b1) o4
  clear t1' t2 t3 t4
  refine ⟨_, n', ⟨b5, b6, gs_at _ _ _ _, rT_nx hT k0 e (fun k _ _ => by rw [gs_ne (by omega)]; exact cf1 k (by omega) (by omega) (by omega)) (gs_at _ _ _ _), by rw [gs_at_ne (by decide), cf2 13 (by decide) (by decide)]; exact h13⟩, ?_, ?_, ?_, ?_, ?_, ?_, ?_, fun i hi => ?_, ?_, ?_, by omega, by omega, ?_, ⟨?_, ?_⟩, ?_, fun i hi => ?_, fun va => ?_, fun va i hi => ?_⟩
  · rw [gs_ne hc0.1, gs_ne hc0.1, gs_ne hc0.1, gs_ne hc0.2]; exact o3.c12
  · rw [gs_ne hc0.1, gs_ne hc0.1, gs_ne hc0.1, gs_ne hc0.2]; exact o3.cl
  · rw [gs_ne (hcc 10 (by decide)).1, gs_ne (hcc 10 (by decide)).1, gs_ne (hcc 10 (by decide)).1, gs_ne (hcc 10 (by decide)).2]; exact o3.ce
  · rw [gs_at_ne (by decide), gs_at_ne (by decide), gs_at]
  · rw [gs_at_ne (by decide), gs_at_ne (by decide), gs_at_ne (by decide), gs_ne (by decide)]; exact o3.dl
  · rw [gs_at_ne (by decide), gs_at]
  · rw [gs_ne (by decide), gs_ne (by decide), gs_ne (by decide), gs_at]
  · rw [gs_ne (by decide), gs_ne (by decide), gs_ne (by decide), gs_at_ne (by omega)]; exact z19 i hi
  · rw [gs_at_ne (by decide)]; exact o3.cr
  · rw [gs_at_ne (by decide)]; exact o3.dr
  · refine frm_gs (frm_gs (frm_gs (frm_gs (frm_mono fz (insX_C (Nat.le_refl P))) ?_) ?_) ?_) ?_
    · exact Or.inr (Or.inl rfl)
    · exact Or.inr (Or.inr (Or.inl ⟨rfl, by decide⟩))
    · exact Or.inr (Or.inr (Or.inl ⟨rfl, by decide⟩))
    · exact Or.inr (Or.inr (Or.inl ⟨rfl, by decide⟩))
  · rw [gs_at_ne (by decide), gs_at_ne (by decide), gs_at_ne (by decide), gs_ne (by decide)]
    exact fz 15 10 (nx15 hc (by decide))
  · rw [gs_at_ne (by decide), gs_at_ne (by decide), gs_at_ne (by decide), gs_ne (by decide)]
    exact fz 15 11 (nx15 hc (by decide))
  · exact frm_gs (frm_tr hf2 o5) (insE_64 (by decide))
  · rw [gs_ne (hcc 11 (by decide)).1, gs_ne (hcc 11 (by decide)).1, gs_ne (hcc 11 (by decide)).1, gs_ne (hcc 11 (by decide)).2, gs_ne (by decide), gs_ne (by decide)]
    exact o3.co i hi
  · rw [gs_ne (by decide), gs_ne (by decide)]
    obtain ⟨T, u1, u2⟩ := o3.rv va
    match T, u1, u2 with
    | [v], u1, _ => exact ⟨v, u1⟩
  · rw [gs_ne (by decide), gs_ne (by decide)]
    exact o3.rp va i hi
end CMP
