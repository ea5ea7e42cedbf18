/-! ===== a literal's end on both sides ===== -/
/-- the reference stores a literal -/
def stL (H : mG) (so a1 a2 o : Int) (S l : Nat) : mG := gs (gs (gs (gs (gs (gs H 86 (600 * S + l) so) 87 (600 * S + l) a1) 88 (600 * S + l) a2) 89 (600 * S + l) (H 64 39)) 90 (600 * S + l) o) 85 S ((l + 1 : Nat) : Int)
section STL
variable {H : mG} {so a1 a2 o : Int} {S l : Nat}
theorem stL_eq (h19 : H 64 19 = (S : Int)) (hS : S ≤ 1) (h85 : H 85 S = (l : Int)) (hl : l < 600) : (gs (gs (gs (gs (gs (gs H 86 (Int.toNat (w32 ((w32 (600 * (H 64 19))) + (H 85 (Int.toNat (H 64 19)))))) so) 87 (Int.toNat (w32 ((w32 (600 * (H 64 19))) + (H 85 (Int.toNat (H 64 19)))))) a1) 88 (Int.toNat (w32 ((w32 (600 * (H 64 19))) + (H 85 (Int.toNat (H 64 19)))))) a2) 89 (Int.toNat (w32 ((w32 (600 * (H 64 19))) + (H 85 (Int.toNat (H 64 19)))))) (H 64 39)) 90 (Int.toNat (w32 ((w32 (600 * (H 64 19))) + (H 85 (Int.toNat (H 64 19)))))) o) 85 (Int.toNat (H 64 19)) (w32 ((H 85 (Int.toNat (H 64 19))) + 1))) = stL H so a1 a2 o S l := by
  unfold stL
  rw [h19, st_nat, h85, w32_nat (by omega), w32_i (x := 600 * ((S : Nat) : Int)) (by omega) (by omega), w32_i (x := 600 * ((S : Nat) : Int) + ((l : Nat) : Int)) (by omega) (by omega), show Int.toNat (600 * ((S : Nat) : Int) + ((l : Nat) : Int)) = 600 * S + l from by omega]
theorem stL_at : (stL H so a1 a2 o S l) 86 (600 * S + l) = so ∧ (stL H so a1 a2 o S l) 87 (600 * S + l) = a1 ∧ (stL H so a1 a2 o S l) 88 (600 * S + l) = a2 ∧ (stL H so a1 a2 o S l) 89 (600 * S + l) = H 64 39 ∧ (stL H so a1 a2 o S l) 90 (600 * S + l) = o ∧ (stL H so a1 a2 o S l) 85 S = ((l + 1 : Nat) : Int) := by
  unfold stL
  refine ⟨?_, ?_, ?_, ?_, ?_, gs_at _ _ _ _⟩
  · rw [gs_ne (by decide), gs_ne (by decide), gs_ne (by decide), gs_ne (by decide), gs_ne (by decide), gs_at]
  · rw [gs_ne (by decide), gs_ne (by decide), gs_ne (by decide), gs_ne (by decide), gs_at]
  · rw [gs_ne (by decide), gs_ne (by decide), gs_ne (by decide), gs_at]
  · rw [gs_ne (by decide), gs_ne (by decide), gs_at]
  · rw [gs_ne (by decide), gs_at]
theorem stL_row {a i : Nat} (h : ¬ (86 ≤ a ∧ a ≤ 90 ∧ i = 600 * S + l)) (h2 : ¬ (a = 85 ∧ i = S)) : (stL H so a1 a2 o S l) a i = H a i := by
  have key : ∀ (M : mG) (b j : Nat) (v : Int), ¬ (a = b ∧ i = j) → (gs M b j v) a i = M a i := by
    intro M b j v hn
    by_cases y : a = b
    · subst y
      exact gs_at_ne (fun q => hn ⟨rfl, q⟩)
    · rw [gs_ne y]
  unfold stL
  rw [key _ _ _ _ (fun q => h2 q), key _ _ _ _ (by omega), key _ _ _ _ (by omega), key _ _ _ _ (by omega), key _ _ _ _ (by omega), key _ _ _ _ (by omega)]
theorem stL_cell {a : Nat} (h : ¬ (85 ≤ a ∧ a ≤ 90)) : (stL H so a1 a2 o S l) a = H a := by
  funext i
  exact stL_row (by omega) (by omega)
end STL
section MKL
variable {c : Nat} {L : Int} {r : Nat → Int} {F : mG} {K S k P0 q0 l0 : Nat} {s0 H0 : mG} {t sh P qq l : Nat} {s H : mG}
theorem mk_LI (hS : S ≤ 1) (h : CI c L r F K S k P0 q0 l0 s0 H0 t sh P qq l s H) {t' qq' : Nat} {X so a1 a2 o : Int} {s' Hx : mG} {vf : (Nat → Int) → Int → Bool} (ht : t < t') (ht6 : t' ≤ 600) (hsm : SM c L r F K t' X s' Hx) (hX : X = 19 ∨ (X = 21 ∧ ¬ s' 15 7 = 0)) (nop : X = 21 → ¬ (tkK (tb L r) (tkQ (tb L r) t') = 8 ∨ tkK (tb L r) (tkQ (tb L r) t') = 9 ∨ tkK (tb L r) (tkQ (tb L r) t') = 10))
    (hle : LE c k P0 (shW sh) t' s' (fun va mk => b01 (vf va mk) :: stk sh (hR (oRf H) (lRf H va mk) (600 * S + l0) (l - l0)))) (hsb : shB sh (s' 19)) (hd0 : s' 15 6 = 0) (h39 : Hx 64 39 = ((700 * S + qq' : Nat) : Int)) (hq : qq ≤ qq' ∧ qq' ≤ t') (hro : Hx 64 12 = 0) (hfs : frm (insC c k P0) s0 s') (hfh : frm (insR S q0 l0) H0 Hx) (hbq : bq (s' 15 10) (s' 15 11) (Hx 64 15) (Hx 64 16)) (hbm : bmn s s')
    (hrow : ∀ a i, 86 ≤ a → a ≤ 90 → i < 600 * S + l → Hx a i = H a i) (hcode : ∀ i, i < 700 * S + qq → Hx 91 i = H 91 i ∧ Hx 92 i = H 92 i) (ho : o = if shO sh = true then 1 else 0) (hok : LOK S q0 qq' (stL Hx so a1 a2 o S l) (600 * S + l)) (hlv : ∀ va mk, lRf (stL Hx so a1 a2 o S l) va mk (600 * S + l) = vf va mk) :
    LI c L r F K S k P0 q0 l0 s0 H0 t' sh qq' l X s' (stL Hx so a1 a2 o S l) := by
  have hl := h.hl
  have hq0 := h.hq
  obtain ⟨z1, z2, z3, z4, z5, z6⟩ := stL_at (H := Hx) (so := so) (a1 := a1) (a2 := a2) (o := o) (S := S) (l := l)
  have c64 : (stL Hx so a1 a2 o S l) 64 = Hx 64 := stL_cell (by omega)
  have c91 : (stL Hx so a1 a2 o S l) 91 = Hx 91 := stL_cell (by omega)
  have c92 : (stL Hx so a1 a2 o S l) 92 = Hx 92 := stL_cell (by omega)
  have rows : ∀ a i, 86 ≤ a → a ≤ 90 → i < 600 * S + l → (stL Hx so a1 a2 o S l) a i = H a i := fun a i h1 h2 h3 => by rw [stL_row (by omega) (by omega)]; exact hrow a i h1 h2 h3
  have codes : ∀ i, i < 700 * S + qq → (stL Hx so a1 a2 o S l) 91 i = H 91 i ∧ (stL Hx so a1 a2 o S l) 92 i = H 92 i := fun i hi => by rw [c91, c92]; exact hcode i hi
  have eh : ∀ va mk, hR (oRf (stL Hx so a1 a2 o S l)) (lRf (stL Hx so a1 a2 o S l) va mk) (600 * S + l0) (l - l0) = hR (oRf H) (lRf H va mk) (600 * S + l0) (l - l0) := fun va mk => hR_to h.lw hl.1 rows codes
  have hv : (fun va mk => b01 (lRf (stL Hx so a1 a2 o S l) va mk (600 * S + l)) :: stk sh (hR (oRf (stL Hx so a1 a2 o S l)) (lRf (stL Hx so a1 a2 o S l) va mk) (600 * S + l0) (l - l0))) = (fun va mk => b01 (vf va mk) :: stk sh (hR (oRf H) (lRf H va mk) (600 * S + l0) (l - l0))) := by
    funext va mk
    rw [hlv, eh]
  refine ⟨SM_to hsm (fun k _ _ => stL_cell (by omega)) (by rw [c64]) (by rw [c64]), hX, nop, by rw [hv]; exact hle, hsb, hd0, by rw [c64]; exact h39, ⟨by omega, hq.2⟩, by rw [c64]; exact hro, z6, ⟨hl.1, by omega⟩, ?_, hfs, ?_, by rw [c64]; exact hbq, bmn_tr h.bm hbm, h.e0, fun j j1 j2 => ?_, fun h0 va mk hm e2 => ?_⟩
  · show decide (¬ (stL Hx so a1 a2 o S l) 90 (600 * S + l) = 0) = shO sh
    rw [z5, ho]
    cases shO sh <;> decide
  · intro a i hi
    have e : (stL Hx so a1 a2 o S l) a i = Hx a i := by
      refine stL_row (fun q => hi ?_) (fun q => hi ?_)
      · unfold insR; omega
      · unfold insR; omega
    rw [e]
    exact hfh a i hi
  · by_cases z : j = l
    · subst z; exact hok
    · exact LOK_to (h.lw j j1 (by omega)) hq.1 (fun a h1 h2 => rows a _ h1 (by omega) (by omega)) codes
  · rw [eh]
    have hE : cpE (fun i => if i = 1 then va 0 else if i = 2 then va 1 else if i = 3 then va 2 else if i = 4 then mk else if i = 5 then va 3 else if i = 6 then va 4 else va 5) va mk := ⟨hm, ⟨rfl, rfl, rfl, rfl, rfl, rfl⟩, rfl⟩
    exact (h.sem (hbm.1 h0) _ va mk hE).2 e2
end MKL
