/-! ===== what is left to show is enough ===== -/
def okCall (own : String) (i : Nat) (q : (Nat × Nat × Nat × Nat × Nat) × mM) : Prop :=
  (q.1.1 = 0 → okM q.2 q.1.2.1 ∧ Cond.methodLink own i q.2.1 ∈ mgt ∧ Cond.static q.2.1 ∈ mgt) ∧
  (q.1.1 = 3 → okM q.2 q.1.2.1 ∧ (∃ host, (own, i, q.2.1, host) ∈ mnestL) ∧ Cond.static q.2.1 ∈ mgt) ∧
  (q.1.1 = 1 → okM q.2 (q.1.2.1 - 1) ∧ Cond.methodLink own i q.2.1 ∈ mgt ∧ Cond.instanceMethod q.2.1 ∈ mgt ∧ Cond.selects q.2.1.cls q.2.1 q.2.1 ∈ mgt ∧ ((∃ T N, vwCl[q.1.2.2.2.2]? = some (q.2.1.cls, T, N)) ∨ (q.1.2.2.2.2 = 30 ∧ q.2.1.cls = "java/lang/String"))) ∧
  (q.1.1 = 2 → okM q.2 (q.1.2.1 - 1) ∧ Cond.methodLink own i q.2.1 ∈ mgt ∧ Cond.instanceMethod q.2.1 ∈ mgt ∧ q.2.1.name = "<init>" ∧ q.2.2.2.2 = none) ∧
  (q.1.1 = 4 → okM q.2 (q.1.2.1 - 1) ∧ (∃ host, (own, i, q.2.1, host) ∈ mnestL) ∧ Cond.instanceMethod q.2.1 ∈ mgt ∧ q.2.1.name = "<init>" ∧ q.2.2.2.2 = none) ∧
  (q.1.1 = 5 → Cond.methodLink own i objectInit ∈ mgt ∧ Cond.instanceMethod objectInit ∈ mgt ∧ Cond.code objectInit ⟨#[0xb1]⟩ 1 none ∈ mgt) ∧
  (q.1.1 = 6 → Cond.methodLink own i Lib.Math.max.name ∈ mgt ∧ Cond.static Lib.Math.max.name ∈ mgt ∧ Cond.initialized "java/lang/Math" ∈ mgt ∧ Cond.code Lib.Math.max.name Lib.Math.max.code 2 (some .int) ∈ mgt) ∧
  (q.1.1 = 7 → Cond.methodLink own i Lib.Math.min.name ∈ mgt ∧ Cond.static Lib.Math.min.name ∈ mgt ∧ Cond.initialized "java/lang/Math" ∈ mgt ∧ Cond.code Lib.Math.min.name Lib.Math.min.code 2 (some .int) ∈ mgt)
def okFld (own : String) (i : Nat) (q : Nat × Nat) : Prop :=
  (q.1 < 20 → okFl own i q.1 q.2) ∧ (q.1 = 50 → Cond.fieldLink own i "java/lang/String" "value" "[B" ∈ mgt) ∧ (q.1 = 51 → Cond.fieldLink own i "java/lang/String" "coder" "B" ∈ mgt) ∧ (q.1 = 52 → Cond.fieldLink own i "java/lang/String" "COMPACT_STRINGS" "Z" ∈ mgt) ∧ (q.1 = 53 → Cond.fieldLink own i "jdk/internal/util/Preconditions" "SIOOBE_FORMATTER" "Ljava/util/function/BiFunction;" ∈ mgt)
def okNew (own : String) (i ci : Nat) : Prop := ∃ C T N, vwCl[ci]? = some (C, T, N) ∧ Cond.classLink own i C ∈ mgt
def okArr : Prop := Cond.arrayClass .int ∈ mgt ∧ Cond.arrayClass .byte ∈ mgt ∧ Cond.arrayClass .boolean ∈ mgt ∧ Cond.arrayClass .long ∈ mgt
def okO (o : mO) : Prop := okCls ∧ okArr ∧ (∀ q ∈ o.2.1, okCall o.1 q.1 q.2) ∧ (∀ q ∈ o.2.2.1, okFld o.1 q.1 q.2) ∧ (∀ q ∈ o.2.2.2.1, okNew o.1 q.1 q.2) ∧ (∀ q ∈ o.2.2.2.2, okK o.1 q.1 q.2)
section SND
variable {o : mO} {M : mM} {D : Nat → Bool} {d mc ms : Nat} {ph : Bool} {n' : Nat} {Q : Option mV → mG → Prop} {n ce sl pc : Nat} {L L' : List (Option mV)} {S S' : List mV} {G : mG} {len : Nat}
theorem wp_pln {ins : Instr} {q : List (Option mV) × List mV} (hK : ∀ q ∈ o.2.2.2.2, okK o.1 q.1 q.2) (hd : decode M.2.1 pc = .ok (ins, len)) (hi : okI M.2.2.1 ins len = true) (hp : pln o.2.2.2.2 L S ins = some q) (k : WP o M D d mc ms ph n' Q n ce sl (pc + len) q.1 q.2 G) : WP o M D d mc ms ph n' Q n ce sl pc L S G := by
  unfold pln at hp
  split at hp
  next x => cases hp; exact wp_iconst hd hi k
  next x => cases hp; exact wp_bipush hd hi k
  next x => cases hp; exact wp_sipush hd hi k
  next x => cases hp; exact wp_lconst hd hi k
  next => cases hp; exact wp_null hd hi k
  next i => unfold ldI at hp; split at hp; (next x hx => cases hp; exact wp_iload_n hd hi hx k); cases hp
  next i => unfold ldI at hp; split at hp; (next x hx => cases hp; exact wp_iload hd hi hx k); cases hp
  next i => unfold ldJ at hp; split at hp; (next x hx => cases hp; exact wp_lload_n hd hi hx k); cases hp
  next i => unfold ldJ at hp; split at hp; (next x hx => cases hp; exact wp_lload hd hi hx k); cases hp
  next i => unfold ldR at hp; split at hp; (next x hx => cases hp; exact wp_aload_n hd hi hx k); cases hp
  next i => unfold ldR at hp; split at hp; (next x hx => cases hp; exact wp_aload hd hi hx k); cases hp
  next i => unfold stI at hp; split at hp; (next x S => cases hp; exact wp_istore_n hd hi k); cases hp
  next i => unfold stI at hp; split at hp; (next x S => cases hp; exact wp_istore hd hi k); cases hp
  next i => unfold stJ at hp; split at hp; (next x S => cases hp; exact wp_lstore_n hd hi k); cases hp
  next i => unfold stJ at hp; split at hp; (next x S => cases hp; exact wp_lstore hd hi k); cases hp
  next i => unfold stR at hp; split at hp; (next x S => cases hp; exact wp_astore_n hd hi k); cases hp
  next i => unfold stR at hp; split at hp; (next x S => cases hp; exact wp_astore hd hi k); cases hp
  next i z => split at hp; (next x hx => cases hp; exact wp_iinc hd hi hx k); cases hp
  next => unfold bI at hp; split at hp; (next b a S => cases hp; exact wp_iadd hd hi k); cases hp
  next => unfold bI at hp; split at hp; (next b a S => cases hp; exact wp_isub hd hi k); cases hp
  next => unfold bI at hp; split at hp; (next b a S => cases hp; exact wp_imul hd hi k); cases hp
  next => unfold bI at hp; split at hp; (next b a S => cases hp; exact wp_iand hd hi k); cases hp
  next => unfold bI at hp; split at hp; (next b a S => cases hp; exact wp_ior hd hi k); cases hp
  next => unfold bI at hp; split at hp; (next b a S => cases hp; exact wp_ishr hd hi k); cases hp
  next => unfold bI at hp; split at hp; (next b a S => cases hp; exact wp_iushr hd hi k); cases hp
  next => unfold bJ at hp; split at hp; (next b a S => cases hp; exact wp_ladd hd hi k); cases hp
  next => unfold bJ at hp; split at hp; (next b a S => cases hp; exact wp_lmul hd hi k); cases hp
  next => split at hp; (next b a S => cases hp; exact wp_lcmp hd hi k); cases hp
  next => split at hp; (next b a S => cases hp; exact wp_lushr hd hi k); cases hp
  next => split at hp; (next a S => cases hp; exact wp_i2l hd hi k); cases hp
  next => split at hp; (next a S => cases hp; exact wp_l2i hd hi k); cases hp
  next => split at hp; (next a S => cases hp; exact wp_i2b hd hi k); cases hp
  next => split at hp; (next a S => cases hp; exact wp_i2c hd hi k); cases hp
  next =>
    split at hp
    next v S =>
      cases hc : cat1 v with
      | false => rw [hc] at hp; cases hp
      | true => rw [hc] at hp; cases hp; exact wp_dup hd hi hc k
    next => cases hp
  next =>
    split at hp
    next v w S =>
      cases hc : cat1 v with
      | false => rw [hc] at hp; cases hp
      | true =>
        cases hc2 : cat1 w with
        | false => rw [hc, hc2] at hp; cases hp
        | true => rw [hc, hc2] at hp; cases hp; exact wp_dup2 hd hi hc hc2 k
    next => cases hp
  next =>
    split at hp
    next v S =>
      cases hc : cat1 v with
      | false => rw [hc] at hp; cases hp
      | true => rw [hc] at hp; cases hp; exact wp_pop hd hi hc k
    next => cases hp
  next i =>
    split at hp
    next x hx => cases hp; exact wp_ldc hd hi (hK _ (fnd_mem hx)) rfl k
    next x hx => cases hp; exact wp_ldc hd hi (hK _ (fnd_mem hx)) rfl k
    next => cases hp
  next i =>
    split at hp
    next x hx => cases hp; exact wp_ldc2 hd hi (hK _ (fnd_mem hx)) k
    next => cases hp
  next => cases hp
end SND
