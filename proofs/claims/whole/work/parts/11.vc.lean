/-! ===== the walk by program: what is left to show ===== -/
def tg (pc : Nat) (off : Int) : Nat := ((pc : Int) + off).toNat
def jok (pc : Nat) (ins : Instr) : Bool := match ins with
  | .ifCond _ off => decide (0 ≤ (pc : Int) + off)
  | .if_icmp _ off => decide (0 ≤ (pc : Int) + off)
  | .goto off => decide (0 ≤ (pc : Int) + off)
  | .ifnull off => decide (0 ≤ (pc : Int) + off)
  | .tableswitch df lo hi offs => decide (0 ≤ (pc : Int) + df) && offs.toList.all (fun off => decide (0 ≤ (pc : Int) + off)) && decide (lo + (offs.toList.length : Int) = hi + 1)
  | .lookupswitch df ps => decide (0 ≤ (pc : Int) + df) && ps.toList.all (fun q => decide (0 ≤ (pc : Int) + q.2))
  | _ => true
abbrev mCd : Type := Nat → Option (Instr × Nat)
def Cert (M : mM) (code : mCd) : Prop := ∀ pc q, code pc = some q → decode M.2.1 pc = .ok (q.1, q.2) ∧ okI M.2.2.1 q.1 q.2 = true ∧ jok pc q.1 = true
def chk (M : mM) (code : mCd) (pc : Nat) : Bool := match code pc with
  | none => true
  | some q => decide (decode M.2.1 pc = .ok (q.1, q.2)) && okI M.2.2.1 q.1 q.2 && jok pc q.1
theorem cert_of {M : mM} {code : mCd} (b : Nat) (h1 : ∀ pc, Nat.ble pc b = false → code pc = none) (h2 : (List.range (b + 1)).all (chk M code) = true) : Cert M code := by
  intro pc q hq
  by_cases hb : pc ≤ b
  · have h3 := List.all_eq_true.mp h2 pc (List.mem_range.mpr (by omega))
    unfold chk at h3
    rw [hq] at h3
    simp only [Bool.and_eq_true, decide_eq_true_eq] at h3
    exact ⟨h3.1.1, h3.1.2, h3.2⟩
  · rw [h1 pc (by cases h : Nat.ble pc b with
      | false => rfl
      | true => exact absurd (Nat.le_of_ble_eq_true h) hb)] at hq
    cases hq
def tsw : List Int → Int → Int → (Int → Prop) → Prop
  | [], _, _, _ => True
  | off :: r, lo, x, k => (x = lo → k off) ∧ tsw r (lo + 1) x k
def lsw : List (Int × Int) → Int → Int → (Int → Prop) → Prop
  | [], d, _, k => k d
  | q :: r, d, x, k => (x = q.1 → k q.2) ∧ (¬ x = q.1 → lsw r d x k)
theorem tsw_at {l : List Int} {lo x : Int} {k : Int → Prop} (h : tsw l lo x k) (h1 : lo ≤ x) (h2 : x < lo + l.length) : ∃ off, l[(x - lo).toNat]? = some off ∧ k off := by
  induction l generalizing lo with
  | nil => simp at h2; omega
  | cons a l ih =>
    obtain ⟨g1, g2⟩ := h
    by_cases hx : x = lo
    · refine ⟨a, ?_, g1 hx⟩
      rw [hx, Int.sub_self]
      rfl
    · obtain ⟨off, e1, e2⟩ := ih g2 (by omega) (by simp at h2; omega)
      refine ⟨off, ?_, e2⟩
      rw [show (x - lo).toNat = (x - (lo + 1)).toNat + 1 by omega]
      exact e1
theorem lsw_at {l : List (Int × Int)} {d x : Int} {k : Int → Prop} (h : lsw l d x k) : k (Op.lookupswitch.offset l d x) ∧ (Op.lookupswitch.offset l d x = d ∨ ∃ q ∈ l, q.2 = Op.lookupswitch.offset l d x) := by
  induction l with
  | nil => exact ⟨h, Or.inl rfl⟩
  | cons a l ih =>
    obtain ⟨g1, g2⟩ := h
    by_cases hx : x = a.1
    · have e : Op.lookupswitch.offset (a :: l) d x = a.2 := by simp [Op.lookupswitch.offset, hx]
      rw [e]
      exact ⟨g1 hx, Or.inr ⟨a, List.mem_cons_self, rfl⟩⟩
    · have e : Op.lookupswitch.offset (a :: l) d x = Op.lookupswitch.offset l d x := by simp [Op.lookupswitch.offset, Ne.symm hx]
      rw [e]
      obtain ⟨e1, e2⟩ := ih (g2 hx)
      refine ⟨e1, ?_⟩
      rcases e2 with e2 | ⟨q, e2, e3⟩
      · exact Or.inl e2
      · exact Or.inr ⟨q, List.mem_cons_of_mem _ e2, e3⟩
/-- whether a field is final -/
def fin (ci j : Nat) : Bool := match vwCl[ci]? with
  | some q => (q.2.1 j).2.2.2
  | none => true
def clsN (ci : Nat) : Nat := match vwCl[ci]? with
  | some q => q.2.2
  | none => 0
def rI (v : Option mV) (k : Int → Prop) : Prop := match v with
  | some (.inl x) => k x
  | _ => False
def rJ (v : Option mV) (k : Int → Prop) : Prop := match v with
  | some (.inr (.inl x)) => k x
  | _ => False
def rN (v : Option mV) (k : Prop) : Prop := match v with
  | none => k
  | _ => False
/-- what is left to show of a call: its answer on the stack -/
def rK (ret : Option FieldType) (K : List mV → mG → Prop) (rest : List mV) : Option mV → mG → Prop := match ret with
  | none => fun v G' => rN v (K rest G')
  | some .long => fun v G' => rJ v (fun x => K (mJ x :: rest) G')
  | some _ => fun v G' => rI v (fun x => K (mI x :: rest) G')
theorem rK_to {ret : Option FieldType} {K : List mV → mG → Prop} {rest : List mV} {v : Option mV} {G' : mG} (h : rK ret K rest v G') : K (v.toList ++ rest) G' := by
  unfold rK at h
  split at h
  · unfold rN at h
    split at h
    · exact h
    · exact h.elim
  · unfold rJ at h
    split at h
    · exact h
    · exact h.elim
  · unfold rI at h
    split at h
    · exact h
    · exact h.elim
/-- the answer's type -/
def rtK (ret : Option FieldType) (Q : Option mV → mG → Prop) (x : Int) (G : mG) : Prop := match ret with
  | some .int => Q (some (mI x)) G
  | some .boolean => (x = 0 ∨ x = 1) ∧ Q (some (mI x)) G
  | some .char => (0 ≤ x ∧ x < 65536) ∧ Q (some (mI x)) G
  | some .byte => (-128 ≤ x ∧ x < 128) ∧ Q (some (mI x)) G
  | _ => False
abbrev mKt : Type := Nat → Nat → Nat → Nat → List (Option mV) → List mV → mG → Prop
def atk (at0 : ArrayType) : Nat := match at0 with
  | .int => 20
  | .byte => 21
  | .boolean => 22
  | .long => 23
  | _ => 99
def nxt (o : mO) (M : mM) (D : Nat → Bool) (d mc ms : Nat) (ph ini : Bool) (n' : Nat) (Q : Option mV → mG → Prop) (n ce sl pc : Nat) (ins : Instr) (len : Nat) (L : List (Option mV)) (S : List mV) (G : mG) (K : mKt) : Prop :=
  match pln o.2.2.2.2 L S ins with
  | some q => K n ce sl (pc + len) q.1 q.2 G
  | none => match ins with
    | .ifCond c off => (match S with
      | .inl x :: S' => (cndT c x 0 → K n ce sl (tg pc off) L S' G) ∧ (cndF c x 0 → K n ce sl (pc + len) L S' G)
      | _ => False)
    | .if_icmp c off => (match S with
      | .inl y :: .inl x :: S' => (cndT c x y → K n ce sl (tg pc off) L S' G) ∧ (cndF c x y → K n ce sl (pc + len) L S' G)
      | _ => False)
    | .goto off => K n ce sl (tg pc off) L S G
    | .ifnull off => (match S with
      | .inr (.inr 0) :: S' => K n ce sl (tg pc off) L S' G
      | .inr (.inr (_ + 5)) :: S' => K n ce sl (pc + len) L S' G
      | _ => False)
    | .tableswitch df lo hi offs => (match S with
      | .inl x :: S' => ((x < lo ∨ hi < x) → K n ce sl (tg pc df) L S' G) ∧ tsw offs.toList lo x (fun off => K n ce sl (tg pc off) L S' G)
      | _ => False)
    | .lookupswitch df ps => (match S with
      | .inl x :: S' => lsw ps.toList df x (fun off => K n ce sl (tg pc off) L S' G)
      | _ => False)
    | .idiv => (match S with
      | .inl b :: .inl a :: S' => (¬ b = 0) ∧ K n ce sl (pc + len) L (mI (mDiv a b) :: S') G
      | _ => False)
    | .irem => (match S with
      | .inl b :: .inl a :: S' => (¬ b = 0) ∧ K n ce sl (pc + len) L (mI (mRem a b) :: S') G
      | _ => False)
    | .getfield i => (match S, fnd o.2.2.1 i with
      | .inr (.inr (k + 5)) :: S', some (ci, j) => bif Nat.ble (k + 1) n && (Nat.beq (shf k).1 ci && (Nat.ble (ci + 1) 20 && Nat.ble (j + 1) (shf k).2)) then K n ce sl (pc + len) L (rdv ph ci j G k :: S') G else False
      | .inr (.inr 2) :: S', some (50, _) => K n ce sl (pc + len) L (mR 3 :: S') G
      | .inr (.inr 2) :: S', some (51, _) => K n ce sl (pc + len) L (mI 0 :: S') G
      | _, _ => False)
    | .putfield i => (match S, fnd o.2.2.1 i with
      | v :: .inr (.inr (k + 5)) :: S', some (ci, j) => bif Nat.ble (k + 1) n && (Nat.beq (shf k).1 ci && (Nat.ble (ci + 1) 20 && (Nat.ble (j + 1) (shf k).2 && (D k && ((ph || ini) && (!(ph && (fin ci j || !(Nat.beq (crf k j) 0)))))))))
        then (match wrv (mfT ci j) v with
          | some x => (match mfT ci j with
            | .boolean => (x = 0 ∨ x = 1) ∧ K n ce sl (pc + len) L S' (gs G k j x)
            | _ => K n ce sl (pc + len) L S' (gs G k j x))
          | none => False) else False
      | _, _ => False)
    | .getstatic i => (match fnd o.2.2.1 i with
      | some (52, _) => K n ce sl (pc + len) L (mI 1 :: S) G
      | some (53, _) => K n ce sl (pc + len) L (mR 4 :: S) G
      | _ => False)
    | .iaload => (match S with
      | .inl i :: .inr (.inr (k + 5)) :: S' => bif Nat.ble (k + 1) n && (aR k && Nat.beq (shf k).1 20) then (0 ≤ i ∧ i < ((shf k).2 : Int)) ∧ K n ce sl (pc + len) L (mI (G k i.toNat) :: S') G else False
      | .inl i :: .inr (.inr 1) :: S' => (0 ≤ i ∧ i < G 1001 0) ∧ K n ce sl (pc + len) L (mI (G 1000 i.toNat) :: S') G
      | _ => False)
    | .baload => (match S with
      | .inl i :: .inr (.inr (k + 5)) :: S' => bif Nat.ble (k + 1) n && (aR k && (Nat.beq (shf k).1 21 || Nat.beq (shf k).1 22)) then (0 ≤ i ∧ i < ((shf k).2 : Int)) ∧ K n ce sl (pc + len) L (mI (G k i.toNat) :: S') G else False
      | .inl i :: .inr (.inr 3) :: S' => (0 ≤ i ∧ i < 160) ∧ K n ce sl (pc + len) L (mI (wordsB.getD i.toNat 0).toInt :: S') G
      | _ => False)
    | .laload => (match S with
      | .inl i :: .inr (.inr (k + 5)) :: S' => bif Nat.ble (k + 1) n && (aR k && Nat.beq (shf k).1 23) then (0 ≤ i ∧ i < ((shf k).2 : Int)) ∧ K n ce sl (pc + len) L (mJ (G k i.toNat) :: S') G else False
      | _ => False)
    | .iastore => (match S with
      | .inl x :: .inl i :: .inr (.inr (k + 5)) :: S' => bif Nat.ble (k + 1) n && (aR k && (D k && Nat.beq (shf k).1 20)) then (0 ≤ i ∧ i < ((shf k).2 : Int)) ∧ K n ce sl (pc + len) L S' (gs G k i.toNat x) else False
      | _ => False)
    | .bastore => (match S with
      | .inl x :: .inl i :: .inr (.inr (k + 5)) :: S' => bif Nat.ble (k + 1) n && (aR k && D k) then
          (bif Nat.beq (shf k).1 21 then (0 ≤ i ∧ i < ((shf k).2 : Int)) ∧ K n ce sl (pc + len) L S' (gs G k i.toNat (w8 x))
           else bif Nat.beq (shf k).1 22 then (0 ≤ i ∧ i < ((shf k).2 : Int)) ∧ (x = 0 ∨ x = 1) ∧ K n ce sl (pc + len) L S' (gs G k i.toNat x) else False) else False
      | _ => False)
    | .lastore => (match S with
      | .inr (.inl x) :: .inl i :: .inr (.inr (k + 5)) :: S' => bif Nat.ble (k + 1) n && (aR k && (D k && Nat.beq (shf k).1 23)) then (0 ≤ i ∧ i < ((shf k).2 : Int)) ∧ K n ce sl (pc + len) L S' (gs G k i.toNat x) else False
      | _ => False)
    | .arraylength => (match S with
      | .inr (.inr (k + 5)) :: S' => bif Nat.ble (k + 1) n && (Nat.ble 20 (shf k).1 && (Nat.ble (shf k).1 23 && Nat.ble (shf k).2 100000)) then K n ce sl (pc + len) L (mI ((shf k).2 : Int) :: S') G else False
      | .inr (.inr 1) :: S' => (G 1001 0 < 2147483648) ∧ K n ce sl (pc + len) L (mI (G 1001 0) :: S') G
      | .inr (.inr 3) :: S' => K n ce sl (pc + len) L (mI 160 :: S') G
      | _ => False)
    | .new i => (match fnd o.2.2.2.1 i with
      | some ci => bif (!ph) && (Nat.beq (shf n).1 ci && (Nat.ble (ci + 1) 20 && (Nat.ble (n + 1) 1000 && (Nat.ble (ce + 1) mc && (Nat.ble (sl + (shf n).2) ms && (Nat.beq (shf n).2 (clsN ci) && (List.range (shf n).2).all (fun j => tyOK (mfT ci j)))))))) then K (n + 1) (ce + 1) (sl + (shf n).2) (pc + len) L (mR (n + 5) :: S) G else False
      | none => False)
    | .newarray at0 => (match S with
      | .inl i :: S' => bif (!ph) && (Nat.beq (shf n).1 (atk at0) && (Nat.ble (atk at0) 23 && (Nat.ble (n + 1) 1000 && (Nat.ble (ce + 1) mc && (Nat.ble (sl + (shf n).2) ms && Nat.ble (shf n).2 100000))))) then (i = ((shf n).2 : Int)) ∧ K (n + 1) (ce + 1) (sl + (shf n).2) (pc + len) L (mR (n + 5) :: S') G else False
      | _ => False)
    | .invokestatic i => (match fnd o.2.1 i with
      | some ((6, _), _) => (match S with
        | .inl y :: .inl x :: S' => bif Nat.ble S'.length 4 && (Nat.ble ce mc && Nat.ble sl ms) then K n ce sl (pc + len) L (mI (mMax x y) :: S') G else False
        | _ => False)
      | some ((7, _), _) => (match S with
        | .inl y :: .inl x :: S' => bif Nat.ble S'.length 4 && (Nat.ble ce mc && Nat.ble sl ms) then K n ce sl (pc + len) L (mI (mMin x y) :: S') G else False
        | _ => False)
      | some ((0, na, c2, s2, _), M2) => bif Nat.ble na S.length && (Nat.ble (S.drop na).length 4 && (Nat.ble (ce + c2) mc && Nat.ble (sl + s2) ms)) then MP D d c2 s2 ph n (n + c2) M2 (S.take na).reverse G (rK M2.2.2.2 (fun S' G' => K (n + c2) (ce + c2) (sl + s2) (pc + len) L S' G') (S.drop na)) else False
      | some ((3, na, c2, s2, _), M2) => bif Nat.ble na S.length && (Nat.ble (S.drop na).length 4 && (Nat.ble (ce + c2) mc && Nat.ble (sl + s2) ms)) then MP D d c2 s2 ph n (n + c2) M2 (S.take na).reverse G (rK M2.2.2.2 (fun S' G' => K (n + c2) (ce + c2) (sl + s2) (pc + len) L S' G') (S.drop na)) else False
      | _ => False)
    | .invokevirtual i => (match fnd o.2.1 i with
      | some ((1, na, c2, s2, ci), M2) => bif Nat.ble na S.length && (Nat.ble (S.drop na).length 4 && (Nat.ble (ce + c2) mc && Nat.ble (sl + s2) ms)) then
          (match (S.take na).reverse with
          | .inr (.inr (k + 5)) :: _ => bif Nat.ble (k + 1) n && (Nat.beq (shf k).1 ci && Nat.ble (ci + 1) 20) then MP D d c2 s2 ph n (n + c2) M2 (S.take na).reverse G (rK M2.2.2.2 (fun S' G' => K (n + c2) (ce + c2) (sl + s2) (pc + len) L S' G') (S.drop na)) else False
          | .inr (.inr 2) :: _ => bif Nat.beq ci 30 then MP D d c2 s2 ph n (n + c2) M2 (S.take na).reverse G (rK M2.2.2.2 (fun S' G' => K (n + c2) (ce + c2) (sl + s2) (pc + len) L S' G') (S.drop na)) else False
          | _ => False) else False
      | _ => False)
    | .invokespecial i => (match fnd o.2.1 i with
      | some ((5, _), _) => (match S with
        | .inr (.inr (_ + 5)) :: S' => bif Nat.ble S'.length 4 then K n ce sl (pc + len) L S' G else False
        | _ => False)
      | some ((2, na, c2, s2, _), M2) => bif Nat.ble na S.length && (Nat.ble (S.drop na).length 4 && (Nat.ble (ce + c2) mc && Nat.ble (sl + s2) ms)) then
          (match (S.take na).reverse with
          | .inr (.inr (_ + 5)) :: _ => MP D d c2 s2 ph n (n + c2) M2 (S.take na).reverse G (rK M2.2.2.2 (fun S' G' => K (n + c2) (ce + c2) (sl + s2) (pc + len) L S' G') (S.drop na))
          | _ => False) else False
      | some ((4, na, c2, s2, _), M2) => bif Nat.ble na S.length && (Nat.ble (S.drop na).length 4 && (Nat.ble (ce + c2) mc && Nat.ble (sl + s2) ms)) then
          (match (S.take na).reverse with
          | .inr (.inr (_ + 5)) :: _ => MP D d c2 s2 ph n (n + c2) M2 (S.take na).reverse G (rK M2.2.2.2 (fun S' G' => K (n + c2) (ce + c2) (sl + s2) (pc + len) L S' G') (S.drop na))
          | _ => False) else False
      | _ => False)
    | .ireturn => (match S with
      | [.inl x] => bif Nat.beq n n' && (Nat.ble ce mc && Nat.ble sl ms) then rtK M.2.2.2 Q x G else False
      | _ => False)
    | .lreturn => (match M.2.2.2, S with
      | some .long, [.inr (.inl x)] => bif Nat.beq n n' && (Nat.ble ce mc && Nat.ble sl ms) then Q (some (mJ x)) G else False
      | _, _ => False)
    | .return_ => (match M.2.2.2, S with
      | none, [] => bif Nat.beq n n' && (Nat.ble ce mc && Nat.ble sl ms) then Q none G else False
      | _, _ => False)
    | _ => False
def inN : List Nat → Nat → Bool
  | [], _ => false
  | a :: l, x => Nat.beq a x || inN l x
def vc (o : mO) (M : mM) (D : Nat → Bool) (d mc ms : Nat) (ph ini : Bool) (n' : Nat) (Q : Option mV → mG → Prop) (code : mCd) (cuts : List Nat) : Nat → Bool → mKt
  | 0, _ => fun n ce sl pc L S G => WP o M D (d + 1) mc ms ph n' Q n ce sl pc L S G
  | f + 1, fr => fun n ce sl pc L S G => bif fr && inN cuts pc then WP o M D (d + 1) mc ms ph n' Q n ce sl pc L S G
    else match code pc with
      | none => False
      | some q => nxt o M D d mc ms ph ini n' Q n ce sl pc q.1 q.2 L S G (vc o M D d mc ms ph ini n' Q code cuts f true)
