/-! ===== plain instructions ===== -/
def bI (f : Int → Int → Int) (L : List (Option mV)) (S : List mV) : Option (List (Option mV) × List mV) := match S with
  | .inl b :: .inl a :: S => some (L, mI (f a b) :: S)
  | _ => none
def bJ (f : Int → Int → Int) (L : List (Option mV)) (S : List mV) : Option (List (Option mV) × List mV) := match S with
  | .inr (.inl b) :: .inr (.inl a) :: S => some (L, mJ (f a b) :: S)
  | _ => none
def ldI (L : List (Option mV)) (S : List mV) (i : Nat) : Option (List (Option mV) × List mV) := match ldv L i with
  | some (.inl x) => some (L, mI x :: S)
  | _ => none
def ldJ (L : List (Option mV)) (S : List mV) (i : Nat) : Option (List (Option mV) × List mV) := match ldv L i with
  | some (.inr (.inl x)) => some (L, mJ x :: S)
  | _ => none
def ldR (L : List (Option mV)) (S : List mV) (i : Nat) : Option (List (Option mV) × List mV) := match ldv L i with
  | some (.inr (.inr x)) => some (L, mR x :: S)
  | _ => none
def stI (L : List (Option mV)) (S : List mV) (i : Nat) : Option (List (Option mV) × List mV) := match S with
  | .inl x :: S => some (st1 L i (mI x), S)
  | _ => none
def stJ (L : List (Option mV)) (S : List mV) (i : Nat) : Option (List (Option mV) × List mV) := match S with
  | .inr (.inl x) :: S => some (st2 L i (mJ x), S)
  | _ => none
def stR (L : List (Option mV)) (S : List mV) (i : Nat) : Option (List (Option mV) × List mV) := match S with
  | .inr (.inr x) :: S => some (st1 L i (mR x), S)
  | _ => none
def cat1 : mV → Bool
  | .inr (.inl _) => false
  | _ => true
theorem cat1_ok {X : mX} {v : mV} (h : cat1 v = true) : (cv X v).category = 1 := by
  rcases v with x | x | r
  · rfl
  · cases h
  · exact cvr_cat X r
def pln (ks : List (Nat × mV)) (L : List (Option mV)) (S : List mV) (ins : Instr) : Option (List (Option mV) × List mV) := match ins with
  | .iconst n => some (L, mI n :: S)
  | .bipush n => some (L, mI n :: S)
  | .sipush n => some (L, mI n :: S)
  | .lconst n => some (L, mJ ((n : Nat) : Int) :: S)
  | .aconst_null => some (L, mR 0 :: S)
  | .iload_n i => ldI L S i
  | .iload i => ldI L S i
  | .lload_n i => ldJ L S i
  | .lload i => ldJ L S i
  | .aload_n i => ldR L S i
  | .aload i => ldR L S i
  | .istore_n i => stI L S i
  | .istore i => stI L S i
  | .lstore_n i => stJ L S i
  | .lstore i => stJ L S i
  | .astore_n i => stR L S i
  | .astore i => stR L S i
  | .iinc i n => match ldv L i with
    | some (.inl x) => some (st1 L i (mI (w32 (x + n))), S)
    | _ => none
  | .iadd => bI (fun a b => w32 (a + b)) L S
  | .isub => bI (fun a b => w32 (a - b)) L S
  | .imul => bI (fun a b => w32 (a * b)) L S
  | .iand => bI mAnd L S
  | .ior => bI mOr L S
  | .ishr => bI mShr L S
  | .iushr => bI mUshr L S
  | .ladd => bJ (fun a b => w64 (a + b)) L S
  | .lmul => bJ (fun a b => w64 (a * b)) L S
  | .lcmp => match S with
    | .inr (.inl b) :: .inr (.inl a) :: S => some (L, mI (mLcmp a b) :: S)
    | _ => none
  | .lushr => match S with
    | .inl b :: .inr (.inl a) :: S => some (L, mJ (mLushr a b) :: S)
    | _ => none
  | .i2l => match S with
    | .inl a :: S => some (L, mJ a :: S)
    | _ => none
  | .l2i => match S with
    | .inr (.inl a) :: S => some (L, mI (w32 a) :: S)
    | _ => none
  | .i2b => match S with
    | .inl a :: S => some (L, mI (w8 a) :: S)
    | _ => none
  | .i2c => match S with
    | .inl a :: S => some (L, mI (w16 a) :: S)
    | _ => none
  | .dup => match S with
    | v :: S => bif cat1 v then some (L, v :: v :: S) else none
    | _ => none
  | .dup2 => match S with
    | v :: w :: S => bif cat1 v && cat1 w then some (L, v :: w :: v :: w :: S) else none
    | _ => none
  | .pop => match S with
    | v :: S => bif cat1 v then some (L, S) else none
    | _ => none
  | .ldc i => match fnd ks i with
    | some (.inl x) => some (L, mI x :: S)
    | some (.inr (.inr r)) => some (L, mR r :: S)
    | _ => none
  | .ldc2_w i => match fnd ks i with
    | some (.inr (.inl x)) => some (L, mJ x :: S)
    | _ => none
  | _ => none
/-- what a program sees of an instruction: its length, its constants' ranges, its local's place -/
def okI (nL : Nat) (ins : Instr) (len : Nat) : Bool := match ins with
  | .iconst n => Nat.beq len 1 && decide (-128 ≤ n ∧ n < 128)
  | .bipush n => Nat.beq len 2 && decide (-128 ≤ n ∧ n < 128)
  | .sipush n => Nat.beq len 3 && decide (-32768 ≤ n ∧ n < 32768)
  | .iload _ => Nat.beq len 2
  | .lload _ => Nat.beq len 2
  | .aload _ => Nat.beq len 2
  | .istore i => Nat.beq len 2 && Nat.ble (i + 1) nL
  | .astore i => Nat.beq len 2 && Nat.ble (i + 1) nL
  | .lstore i => Nat.beq len 2 && Nat.ble (i + 2) nL
  | .istore_n i => Nat.beq len 1 && Nat.ble (i + 1) nL
  | .astore_n i => Nat.beq len 1 && Nat.ble (i + 1) nL
  | .lstore_n i => Nat.beq len 1 && Nat.ble (i + 2) nL
  | .iinc i _ => Nat.beq len 3 && Nat.ble (i + 1) nL
  | .ldc _ => Nat.beq len 2
  | .ldc2_w _ => Nat.beq len 3
  | .getfield _ => Nat.beq len 3
  | .putfield _ => Nat.beq len 3
  | .getstatic _ => Nat.beq len 3
  | .invokevirtual _ => Nat.beq len 3
  | .invokestatic _ => Nat.beq len 3
  | .invokespecial _ => Nat.beq len 3
  | .new _ => Nat.beq len 3
  | .newarray _ => Nat.beq len 2
  | .ifCond _ _ => Nat.beq len 3
  | .if_icmp _ _ => Nat.beq len 3
  | .ifnull _ => Nat.beq len 3
  | .ifnonnull _ => Nat.beq len 3
  | .goto _ => Nat.beq len 3
  | .tableswitch _ _ _ _ => true
  | .lookupswitch _ ps => (ps.toList.zip (ps.toList.drop 1)).all (fun (a, next) => a.1 < next.1)
  | _ => Nat.beq len 1
def okK (own : String) (i : Nat) (v : mV) : Prop := match v with
  | .inl x => Cond.constant own i (Int32.ofInt x) ∈ mgt ∧ r32 x
  | .inr (.inl x) => Cond.constantLong own i (Int64.ofInt x) ∈ mgt ∧ r64 x
  | .inr (.inr r) => r = 2 ∧ own = "PasteHouse$Tokens" ∧ i = 65
theorem i8_ofInt {n : Int} (h1 : -128 ≤ n) (h2 : n < 128) : (Int8.ofInt n).toInt32 = Int32.ofInt n := by
  apply Int32.toInt_inj.mp
  have h3 : (Int8.ofInt n).toInt = n := by
    rw [Int8.toInt_ofInt]
    unfold Int.bmod
    simp only [show ((2 ^ 8 : Nat) : Int) = 256 from rfl]
    split <;> omega
  rw [Int8.toInt_toInt32, h3, i32_toInt ⟨by omega, by omega⟩]
theorem i16_ofInt {n : Int} (h1 : -32768 ≤ n) (h2 : n < 32768) : (Int16.ofInt n).toInt32 = Int32.ofInt n := by
  apply Int32.toInt_inj.mp
  have h3 : (Int16.ofInt n).toInt = n := by
    rw [Int16.toInt_ofInt]
    unfold Int.bmod
    simp only [show ((2 ^ 16 : Nat) : Int) = 65536 from rfl]
    split <;> omega
  rw [Int16.toInt_toInt32, h3, i32_toInt ⟨by omega, by omega⟩]
theorem cvr_cases (X : mX) (r : Nat) : cvr X r = .null ∨ ∃ a, cvr X r = .ref a := by
  match r with
  | 0 => exact Or.inl rfl
  | 1 => exact Or.inr ⟨_, rfl⟩
  | 2 => exact Or.inr ⟨_, rfl⟩
  | 3 => exact Or.inr ⟨_, rfl⟩
  | 4 =>
    show va_rf _ = .null ∨ ∃ a, va_rf _ = .ref a
    cases X.2.2.2.2.2.2 with
    | none => exact Or.inl rfl
    | some a => exact Or.inr ⟨a, rfl⟩
  | k + 5 => exact Or.inr ⟨_, rfl⟩
section PLN
variable {o : mO} {M : mM} {D : Nat → Bool} {d mc ms : Nat} {ph : Bool} {n' : Nat} {Q : Option mV → mG → Prop} {n ce sl pc : Nat} {L L' : List (Option mV)} {S S' : List mV} {G : mG} {len : Nat}
theorem wp_iconst {x : Int} (hd : decode M.2.1 pc = .ok (.iconst x, len)) (hi : okI M.2.2.1 (.iconst x) len = true) (k : WP o M D d mc ms ph n' Q n ce sl (pc + len) L (mI x :: S) G) : WP o M D d mc ms ph n' Q n ce sl pc L S G := by
  simp only [okI, Bool.and_eq_true, decide_eq_true_eq] at hi
  obtain ⟨hl, h1, h2⟩ := hi
  have hl := Nat.eq_of_beq_eq_true hl
  subst hl
  intro l X p e R s m args below meth c H locs ls Z hR hF hW hS hL hO hLo hZ
  exact lv_iconst hF.1 hF.2.1 hd rfl (k l X p e R s m args below meth c H locs ls Z hR hF hW hS hL (hO.c ⟨by omega, by omega⟩) hLo hZ)
theorem wp_bipush {x : Int} (hd : decode M.2.1 pc = .ok (.bipush x, len)) (hi : okI M.2.2.1 (.bipush x) len = true) (k : WP o M D d mc ms ph n' Q n ce sl (pc + len) L (mI x :: S) G) : WP o M D d mc ms ph n' Q n ce sl pc L S G := by
  simp only [okI, Bool.and_eq_true, decide_eq_true_eq] at hi
  obtain ⟨hl, h1, h2⟩ := hi
  have hl := Nat.eq_of_beq_eq_true hl
  subst hl
  intro l X p e R s m args below meth c H locs ls Z hR hF hW hS hL hO hLo hZ
  exact lv_bipush hF.1 hF.2.1 hd (i8_ofInt h1 h2) (k l X p e R s m args below meth c H locs ls Z hR hF hW hS hL (hO.c ⟨by omega, by omega⟩) hLo hZ)
theorem wp_sipush {x : Int} (hd : decode M.2.1 pc = .ok (.sipush x, len)) (hi : okI M.2.2.1 (.sipush x) len = true) (k : WP o M D d mc ms ph n' Q n ce sl (pc + len) L (mI x :: S) G) : WP o M D d mc ms ph n' Q n ce sl pc L S G := by
  simp only [okI, Bool.and_eq_true, decide_eq_true_eq] at hi
  obtain ⟨hl, h1, h2⟩ := hi
  have hl := Nat.eq_of_beq_eq_true hl
  subst hl
  intro l X p e R s m args below meth c H locs ls Z hR hF hW hS hL hO hLo hZ
  exact lv_sipush hF.1 hF.2.1 hd (i16_ofInt h1 h2) (k l X p e R s m args below meth c H locs ls Z hR hF hW hS hL (hO.c ⟨by omega, by omega⟩) hLo hZ)
theorem wp_lconst {x : Fin 2} (hd : decode M.2.1 pc = .ok (.lconst x, len)) (hi : okI M.2.2.1 (.lconst x) len = true) (k : WP o M D d mc ms ph n' Q n ce sl (pc + len) L (mJ ((x : Nat) : Int) :: S) G) : WP o M D d mc ms ph n' Q n ce sl pc L S G := by
  have hl := Nat.eq_of_beq_eq_true hi
  subst hl
  intro l X p e R s m args below meth c H locs ls Z hR hF hW hS hL hO hLo hZ
  exact lv_lconst (v := Int64.ofInt ((x : Nat) : Int)) hF.1 hF.2.1 hd (by rw [Int64.ofInt_eq_ofNat]) (k l X p e R s m args below meth c H locs ls Z hR hF hW hS hL (hO.c ⟨by omega, by omega⟩) hLo hZ)
theorem wp_null (hd : decode M.2.1 pc = .ok (.aconst_null, len)) (hi : okI M.2.2.1 .aconst_null len = true) (k : WP o M D d mc ms ph n' Q n ce sl (pc + len) L (mR 0 :: S) G) : WP o M D d mc ms ph n' Q n ce sl pc L S G := by
  have hl := Nat.eq_of_beq_eq_true hi
  subst hl
  intro l X p e R s m args below meth c H locs ls Z hR hF hW hS hL hO hLo hZ
  exact lv_null hF.1 hF.2.1 hd (k l X p e R s m args below meth c H locs ls Z hR hF hW hS hL (hO.c trivial) hLo hZ)
theorem wp_iload_n {i : Fin 4} {x : Int} (hd : decode M.2.1 pc = .ok (.iload_n i, len)) (hi : okI M.2.2.1 (.iload_n i) len = true) (hx : ldv L i = some (mI x)) (k : WP o M D d mc ms ph n' Q n ce sl (pc + len) L (mI x :: S) G) : WP o M D d mc ms ph n' Q n ce sl pc L S G := by
  have hl := Nat.eq_of_beq_eq_true hi
  subst hl
  intro l X p e R s m args below meth c H locs ls Z hR hF hW hS hL hO hLo hZ
  exact lv_iload_n hF.1 hF.2.1 hd rfl (hL.at hx) (k l X p e R s m args below meth c H locs ls Z hR hF hW hS hL (hO.c (hLo.at hx)) hLo hZ)
theorem wp_iload {i : Nat} {x : Int} (hd : decode M.2.1 pc = .ok (.iload i, len)) (hi : okI M.2.2.1 (.iload i) len = true) (hx : ldv L i = some (mI x)) (k : WP o M D d mc ms ph n' Q n ce sl (pc + len) L (mI x :: S) G) : WP o M D d mc ms ph n' Q n ce sl pc L S G := by
  have hl := Nat.eq_of_beq_eq_true hi
  subst hl
  intro l X p e R s m args below meth c H locs ls Z hR hF hW hS hL hO hLo hZ
  exact lv_iload hF.1 hF.2.1 hd (hL.at hx) (k l X p e R s m args below meth c H locs ls Z hR hF hW hS hL (hO.c (hLo.at hx)) hLo hZ)
theorem wp_lload_n {i : Fin 4} {x : Int} (hd : decode M.2.1 pc = .ok (.lload_n i, len)) (hi : okI M.2.2.1 (.lload_n i) len = true) (hx : ldv L i = some (mJ x)) (k : WP o M D d mc ms ph n' Q n ce sl (pc + len) L (mJ x :: S) G) : WP o M D d mc ms ph n' Q n ce sl pc L S G := by
  have hl := Nat.eq_of_beq_eq_true hi
  subst hl
  intro l X p e R s m args below meth c H locs ls Z hR hF hW hS hL hO hLo hZ
  exact lv_lload_n hF.1 hF.2.1 hd rfl (hL.at hx) (k l X p e R s m args below meth c H locs ls Z hR hF hW hS hL (hO.c (hLo.at hx)) hLo hZ)
theorem wp_lload {i : Nat} {x : Int} (hd : decode M.2.1 pc = .ok (.lload i, len)) (hi : okI M.2.2.1 (.lload i) len = true) (hx : ldv L i = some (mJ x)) (k : WP o M D d mc ms ph n' Q n ce sl (pc + len) L (mJ x :: S) G) : WP o M D d mc ms ph n' Q n ce sl pc L S G := by
  have hl := Nat.eq_of_beq_eq_true hi
  subst hl
  intro l X p e R s m args below meth c H locs ls Z hR hF hW hS hL hO hLo hZ
  exact lv_lload hF.1 hF.2.1 hd (hL.at hx) (k l X p e R s m args below meth c H locs ls Z hR hF hW hS hL (hO.c (hLo.at hx)) hLo hZ)
theorem wp_aload_n {i : Fin 4} {x : Nat} (hd : decode M.2.1 pc = .ok (.aload_n i, len)) (hi : okI M.2.2.1 (.aload_n i) len = true) (hx : ldv L i = some (mR x)) (k : WP o M D d mc ms ph n' Q n ce sl (pc + len) L (mR x :: S) G) : WP o M D d mc ms ph n' Q n ce sl pc L S G := by
  have hl := Nat.eq_of_beq_eq_true hi
  subst hl
  intro l X p e R s m args below meth c H locs ls Z hR hF hW hS hL hO hLo hZ
  have hv : ls[(i : Nat)]? = some (.val (cvr X x)) := hL.at hx
  have kk : W p l e R s m args below meth c H locs ce sl Z (F0 m (pc + 1) ls (cvr X x :: S.map (cv X))) := k l X p e R s m args below meth c H locs ls Z hR hF hW hS hL (hO.c trivial) hLo hZ
  rcases cvr_cases X x with h | ⟨a, h⟩
  · rw [h] at hv kk
    exact lv_aload_nN hF.1 hF.2.1 hd rfl hv kk
  · rw [h] at hv kk
    exact lv_aload_n hF.1 hF.2.1 hd rfl hv kk
theorem wp_aload {i : Nat} {x : Nat} (hd : decode M.2.1 pc = .ok (.aload i, len)) (hi : okI M.2.2.1 (.aload i) len = true) (hx : ldv L i = some (mR x)) (k : WP o M D d mc ms ph n' Q n ce sl (pc + len) L (mR x :: S) G) : WP o M D d mc ms ph n' Q n ce sl pc L S G := by
  have hl := Nat.eq_of_beq_eq_true hi
  subst hl
  intro l X p e R s m args below meth c H locs ls Z hR hF hW hS hL hO hLo hZ
  have hv : ls[(i : Nat)]? = some (.val (cvr X x)) := hL.at hx
  have kk : W p l e R s m args below meth c H locs ce sl Z (F0 m (pc + 2) ls (cvr X x :: S.map (cv X))) := k l X p e R s m args below meth c H locs ls Z hR hF hW hS hL (hO.c trivial) hLo hZ
  rcases cvr_cases X x with h | ⟨a, h⟩
  · rw [h] at hv kk
    exact lv_aloadN hF.1 hF.2.1 hd hv kk
  · rw [h] at hv kk
    exact lv_aload hF.1 hF.2.1 hd hv kk
theorem wp_istore_n {i : Fin 4} {x : Int} (hd : decode M.2.1 pc = .ok (.istore_n i, len)) (hi : okI M.2.2.1 (.istore_n i) len = true) (k : WP o M D d mc ms ph n' Q n ce sl (pc + len) (st1 L i (mI x)) S G) : WP o M D d mc ms ph n' Q n ce sl pc L (mI x :: S) G := by
  simp only [okI, Bool.and_eq_true] at hi
  have hl := Nat.eq_of_beq_eq_true hi.1
  have hn := Nat.le_of_ble_eq_true hi.2
  subst hl
  intro l X p e R s m args below meth c H locs ls Z hR hF hW hS hL hO hLo hZ
  exact lv_istore_n hF.1 hF.2.1 hd rfl hL.2 (by omega) rfl (fun ls' hl' => k l X p e R s m args below meth c H locs ls' Z hR hF hW hS (mLr_st1 hL.1 hl') hO.t (okL_st1 hLo hO.h) hZ)
theorem wp_istore {i : Nat} {x : Int} (hd : decode M.2.1 pc = .ok (.istore i, len)) (hi : okI M.2.2.1 (.istore i) len = true) (k : WP o M D d mc ms ph n' Q n ce sl (pc + len) (st1 L i (mI x)) S G) : WP o M D d mc ms ph n' Q n ce sl pc L (mI x :: S) G := by
  simp only [okI, Bool.and_eq_true] at hi
  have hl := Nat.eq_of_beq_eq_true hi.1
  have hn := Nat.le_of_ble_eq_true hi.2
  subst hl
  intro l X p e R s m args below meth c H locs ls Z hR hF hW hS hL hO hLo hZ
  exact lv_istore hF.1 hF.2.1 hd hL.2 (by omega) rfl (fun ls' hl' => k l X p e R s m args below meth c H locs ls' Z hR hF hW hS (mLr_st1 hL.1 hl') hO.t (okL_st1 hLo hO.h) hZ)
theorem wp_lstore_n {i : Fin 4} {x : Int} (hd : decode M.2.1 pc = .ok (.lstore_n i, len)) (hi : okI M.2.2.1 (.lstore_n i) len = true) (k : WP o M D d mc ms ph n' Q n ce sl (pc + len) (st2 L i (mJ x)) S G) : WP o M D d mc ms ph n' Q n ce sl pc L (mJ x :: S) G := by
  simp only [okI, Bool.and_eq_true] at hi
  have hl := Nat.eq_of_beq_eq_true hi.1
  have hn := Nat.le_of_ble_eq_true hi.2
  subst hl
  intro l X p e R s m args below meth c H locs ls Z hR hF hW hS hL hO hLo hZ
  exact lv_lstore_n hF.1 hF.2.1 hd rfl hL.2 (by omega) rfl (fun ls' hl' => k l X p e R s m args below meth c H locs ls' Z hR hF hW hS (mLr_st2 hL.1 hl') hO.t (okL_st2 hLo hO.h) hZ)
theorem wp_lstore {i : Nat} {x : Int} (hd : decode M.2.1 pc = .ok (.lstore i, len)) (hi : okI M.2.2.1 (.lstore i) len = true) (k : WP o M D d mc ms ph n' Q n ce sl (pc + len) (st2 L i (mJ x)) S G) : WP o M D d mc ms ph n' Q n ce sl pc L (mJ x :: S) G := by
  simp only [okI, Bool.and_eq_true] at hi
  have hl := Nat.eq_of_beq_eq_true hi.1
  have hn := Nat.le_of_ble_eq_true hi.2
  subst hl
  intro l X p e R s m args below meth c H locs ls Z hR hF hW hS hL hO hLo hZ
  exact lv_lstore hF.1 hF.2.1 hd hL.2 (by omega) rfl (fun ls' hl' => k l X p e R s m args below meth c H locs ls' Z hR hF hW hS (mLr_st2 hL.1 hl') hO.t (okL_st2 hLo hO.h) hZ)
theorem wp_astore_n {i : Fin 4} {x : Nat} (hd : decode M.2.1 pc = .ok (.astore_n i, len)) (hi : okI M.2.2.1 (.astore_n i) len = true) (k : WP o M D d mc ms ph n' Q n ce sl (pc + len) (st1 L i (mR x)) S G) : WP o M D d mc ms ph n' Q n ce sl pc L (mR x :: S) G := by
  simp only [okI, Bool.and_eq_true] at hi
  have hl := Nat.eq_of_beq_eq_true hi.1
  have hn := Nat.le_of_ble_eq_true hi.2
  subst hl
  intro l X p e R s m args below meth c H locs ls Z hR hF hW hS hL hO hLo hZ
  have kk : ∀ ls' : Array Slot, lv_has ls' M.2.2.1 (((i : Nat), cv X (mR x)) :: (lpX X L).filter (fun q => !(q.1 == (i : Nat)) && !(q.1 + 1 == (i : Nat) && q.2.category == 2))) → W p l e R s m args below meth c H locs ce sl Z (F0 m (pc + 1) ls' (S.map (cv X))) := fun ls' hl' => k l X p e R s m args below meth c H locs ls' Z hR hF hW hS (mLr_st1 hL.1 hl') hO.t (okL_st1 hLo trivial) hZ
  show W p l e R s m args below meth c H locs ce sl Z (F0 m pc ls (cvr X x :: S.map (cv X)))
  have kk : ∀ ls' : Array Slot, lv_has ls' M.2.2.1 (((i : Nat), cvr X x) :: (lpX X L).filter (fun q => !(q.1 == (i : Nat)) && !(q.1 + 1 == (i : Nat) && q.2.category == 2))) → W p l e R s m args below meth c H locs ce sl Z (F0 m (pc + 1) ls' (S.map (cv X))) := kk
  rcases cvr_cases X x with h | ⟨a, h⟩
  · rw [h] at kk ⊢
    exact lv_astore_nN hF.1 hF.2.1 hd rfl hL.2 (by omega) rfl kk
  · rw [h] at kk ⊢
    exact lv_astore_n hF.1 hF.2.1 hd rfl hL.2 (by omega) rfl kk
theorem wp_astore {i : Nat} {x : Nat} (hd : decode M.2.1 pc = .ok (.astore i, len)) (hi : okI M.2.2.1 (.astore i) len = true) (k : WP o M D d mc ms ph n' Q n ce sl (pc + len) (st1 L i (mR x)) S G) : WP o M D d mc ms ph n' Q n ce sl pc L (mR x :: S) G := by
  simp only [okI, Bool.and_eq_true] at hi
  have hl := Nat.eq_of_beq_eq_true hi.1
  have hn := Nat.le_of_ble_eq_true hi.2
  subst hl
  intro l X p e R s m args below meth c H locs ls Z hR hF hW hS hL hO hLo hZ
  have kk : ∀ ls' : Array Slot, lv_has ls' M.2.2.1 (((i : Nat), cv X (mR x)) :: (lpX X L).filter (fun q => !(q.1 == (i : Nat)) && !(q.1 + 1 == (i : Nat) && q.2.category == 2))) → W p l e R s m args below meth c H locs ce sl Z (F0 m (pc + 2) ls' (S.map (cv X))) := fun ls' hl' => k l X p e R s m args below meth c H locs ls' Z hR hF hW hS (mLr_st1 hL.1 hl') hO.t (okL_st1 hLo trivial) hZ
  show W p l e R s m args below meth c H locs ce sl Z (F0 m pc ls (cvr X x :: S.map (cv X)))
  have kk : ∀ ls' : Array Slot, lv_has ls' M.2.2.1 (((i : Nat), cvr X x) :: (lpX X L).filter (fun q => !(q.1 == (i : Nat)) && !(q.1 + 1 == (i : Nat) && q.2.category == 2))) → W p l e R s m args below meth c H locs ce sl Z (F0 m (pc + 2) ls' (S.map (cv X))) := kk
  rcases cvr_cases X x with h | ⟨a, h⟩
  · rw [h] at kk ⊢
    exact lv_astoreN hF.1 hF.2.1 hd hL.2 (by omega) rfl kk
  · rw [h] at kk ⊢
    exact lv_astore hF.1 hF.2.1 hd hL.2 (by omega) rfl kk
theorem wp_iinc {i : Nat} {x z : Int} (hd : decode M.2.1 pc = .ok (.iinc i z, len)) (hi : okI M.2.2.1 (.iinc i z) len = true) (hx : ldv L i = some (mI x)) (k : WP o M D d mc ms ph n' Q n ce sl (pc + len) (st1 L i (mI (w32 (x + z)))) S G) : WP o M D d mc ms ph n' Q n ce sl pc L S G := by
  simp only [okI, Bool.and_eq_true] at hi
  have hl := Nat.eq_of_beq_eq_true hi.1
  have hn := Nat.le_of_ble_eq_true hi.2
  subst hl
  intro l X p e R s m args below meth c H locs ls Z hR hF hW hS hL hO hLo hZ
  obtain ⟨kq, hkq⟩ := List.getElem?_of_mem (lpX_mem (X := X) (q := (i, cv X (mI x))) |>.mpr ⟨mI x, ldv_eq hx, rfl⟩)
  exact lv_iinc (v := Int32.ofInt (w32 (x + z))) hF.1 hF.2.1 hd hL.2 hkq (by rw [i32_add]) (by omega) rfl (fun ls' hl' => k l X p e R s m args below meth c H locs ls' Z hR hF hW hS (mLr_st1 hL.1 hl') hO (okL_st1 hLo (w32_r _)) hZ)
theorem wp_iadd {a b : Int} (hd : decode M.2.1 pc = .ok (.iadd, len)) (hi : okI M.2.2.1 .iadd len = true) (k : WP o M D d mc ms ph n' Q n ce sl (pc + len) L (mI (w32 (a + b)) :: S) G) : WP o M D d mc ms ph n' Q n ce sl pc L (mI b :: mI a :: S) G := by
  have hl := Nat.eq_of_beq_eq_true hi
  subst hl
  intro l X p e R s m args below meth c H locs ls Z hR hF hW hS hL hO hLo hZ
  refine lv_iadd hF.1 hF.2.1 hd ?_
  rw [← i32_add]
  exact k l X p e R s m args below meth c H locs ls Z hR hF hW hS hL (hO.t.t.c (w32_r _)) hLo hZ
theorem wp_isub {a b : Int} (hd : decode M.2.1 pc = .ok (.isub, len)) (hi : okI M.2.2.1 .isub len = true) (k : WP o M D d mc ms ph n' Q n ce sl (pc + len) L (mI (w32 (a - b)) :: S) G) : WP o M D d mc ms ph n' Q n ce sl pc L (mI b :: mI a :: S) G := by
  have hl := Nat.eq_of_beq_eq_true hi
  subst hl
  intro l X p e R s m args below meth c H locs ls Z hR hF hW hS hL hO hLo hZ
  refine lv_isub hF.1 hF.2.1 hd ?_
  rw [← i32_sub]
  exact k l X p e R s m args below meth c H locs ls Z hR hF hW hS hL (hO.t.t.c (w32_r _)) hLo hZ
theorem wp_imul {a b : Int} (hd : decode M.2.1 pc = .ok (.imul, len)) (hi : okI M.2.2.1 .imul len = true) (k : WP o M D d mc ms ph n' Q n ce sl (pc + len) L (mI (w32 (a * b)) :: S) G) : WP o M D d mc ms ph n' Q n ce sl pc L (mI b :: mI a :: S) G := by
  have hl := Nat.eq_of_beq_eq_true hi
  subst hl
  intro l X p e R s m args below meth c H locs ls Z hR hF hW hS hL hO hLo hZ
  refine lv_imul hF.1 hF.2.1 hd ?_
  rw [← i32_mul]
  exact k l X p e R s m args below meth c H locs ls Z hR hF hW hS hL (hO.t.t.c (w32_r _)) hLo hZ
theorem wp_iand {a b : Int} (hd : decode M.2.1 pc = .ok (.iand, len)) (hi : okI M.2.2.1 .iand len = true) (k : WP o M D d mc ms ph n' Q n ce sl (pc + len) L (mI (mAnd a b) :: S) G) : WP o M D d mc ms ph n' Q n ce sl pc L (mI b :: mI a :: S) G := by
  have hl := Nat.eq_of_beq_eq_true hi
  subst hl
  intro l X p e R s m args below meth c H locs ls Z hR hF hW hS hL hO hLo hZ
  refine lv_iand hF.1 hF.2.1 hd ?_
  rw [show Int32.ofInt a &&& Int32.ofInt b = Int32.ofInt (mAnd a b) from (i32_back _).symm]
  exact k l X p e R s m args below meth c H locs ls Z hR hF hW hS hL (hO.t.t.c (i32_r _)) hLo hZ
theorem wp_ior {a b : Int} (hd : decode M.2.1 pc = .ok (.ior, len)) (hi : okI M.2.2.1 .ior len = true) (k : WP o M D d mc ms ph n' Q n ce sl (pc + len) L (mI (mOr a b) :: S) G) : WP o M D d mc ms ph n' Q n ce sl pc L (mI b :: mI a :: S) G := by
  have hl := Nat.eq_of_beq_eq_true hi
  subst hl
  intro l X p e R s m args below meth c H locs ls Z hR hF hW hS hL hO hLo hZ
  refine lv_ior hF.1 hF.2.1 hd ?_
  rw [show Int32.ofInt a ||| Int32.ofInt b = Int32.ofInt (mOr a b) from (i32_back _).symm]
  exact k l X p e R s m args below meth c H locs ls Z hR hF hW hS hL (hO.t.t.c (i32_r _)) hLo hZ
theorem wp_ishr {a b : Int} (hd : decode M.2.1 pc = .ok (.ishr, len)) (hi : okI M.2.2.1 .ishr len = true) (k : WP o M D d mc ms ph n' Q n ce sl (pc + len) L (mI (mShr a b) :: S) G) : WP o M D d mc ms ph n' Q n ce sl pc L (mI b :: mI a :: S) G := by
  have hl := Nat.eq_of_beq_eq_true hi
  subst hl
  intro l X p e R s m args below meth c H locs ls Z hR hF hW hS hL hO hLo hZ
  refine lv_ishr hF.1 hF.2.1 hd ?_
  rw [show Int32.ofInt a >>> (Int32.ofInt b &&& 31) = Int32.ofInt (mShr a b) from (i32_back _).symm]
  exact k l X p e R s m args below meth c H locs ls Z hR hF hW hS hL (hO.t.t.c (i32_r _)) hLo hZ
theorem wp_iushr {a b : Int} (hd : decode M.2.1 pc = .ok (.iushr, len)) (hi : okI M.2.2.1 .iushr len = true) (k : WP o M D d mc ms ph n' Q n ce sl (pc + len) L (mI (mUshr a b) :: S) G) : WP o M D d mc ms ph n' Q n ce sl pc L (mI b :: mI a :: S) G := by
  have hl := Nat.eq_of_beq_eq_true hi
  subst hl
  intro l X p e R s m args below meth c H locs ls Z hR hF hW hS hL hO hLo hZ
  exact lv_iushr (v := Int32.ofInt (mUshr a b)) hF.1 hF.2.1 hd (i32_back _).symm (k l X p e R s m args below meth c H locs ls Z hR hF hW hS hL (hO.t.t.c (i32_r _)) hLo hZ)
theorem wp_lushr {a b : Int} (hd : decode M.2.1 pc = .ok (.lushr, len)) (hi : okI M.2.2.1 .lushr len = true) (k : WP o M D d mc ms ph n' Q n ce sl (pc + len) L (mJ (mLushr a b) :: S) G) : WP o M D d mc ms ph n' Q n ce sl pc L (mI b :: mJ a :: S) G := by
  have hl := Nat.eq_of_beq_eq_true hi
  subst hl
  intro l X p e R s m args below meth c H locs ls Z hR hF hW hS hL hO hLo hZ
  exact lv_lushr (v := Int64.ofInt (mLushr a b)) hF.1 hF.2.1 hd (i64_back _).symm (k l X p e R s m args below meth c H locs ls Z hR hF hW hS hL (hO.t.t.c (i64_r _)) hLo hZ)
theorem wp_lcmp {a b : Int} (hd : decode M.2.1 pc = .ok (.lcmp, len)) (hi : okI M.2.2.1 .lcmp len = true) (k : WP o M D d mc ms ph n' Q n ce sl (pc + len) L (mI (mLcmp a b) :: S) G) : WP o M D d mc ms ph n' Q n ce sl pc L (mJ b :: mJ a :: S) G := by
  have hl := Nat.eq_of_beq_eq_true hi
  subst hl
  intro l X p e R s m args below meth c H locs ls Z hR hF hW hS hL hO hLo hZ
  refine W.lcmp hF.1 hF.2.1 hd ?_
  have ha : r64 a := hO.t.h
  have hb : r64 b := hO.h
  have e1 : lg_cmp (Int64.ofInt a) (Int64.ofInt b) = Int32.ofInt (mLcmp a b) := by
    unfold lg_cmp mLcmp
    by_cases h1 : a < b
    · have h2 : ¬ Int64.ofInt b < Int64.ofInt a := fun q => by have := (i64_lt hb ha).mp q; omega
      have h3 : ¬ Int64.ofInt a = Int64.ofInt b := fun q => by have := (i64_inj ha hb).mp q; omega
      simp [h1, h2, h3]
    · by_cases h2 : a = b
      · subst h2
        have h3 : ¬ Int64.ofInt a < Int64.ofInt a := fun q => by have := (i64_lt ha ha).mp q; omega
        simp [h3]
      · have h3 : Int64.ofInt b < Int64.ofInt a := (i64_lt hb ha).mpr (by omega)
        simp [h1, h2, h3]
  rw [e1]
  refine k l X p e R s m args below meth c H locs ls Z hR hF hW hS hL (hO.t.t.c ?_) hLo hZ
  show r32 (mLcmp a b)
  unfold mLcmp r32
  split
  · omega
  · split <;> omega
theorem wp_ladd {a b : Int} (hd : decode M.2.1 pc = .ok (.ladd, len)) (hi : okI M.2.2.1 .ladd len = true) (k : WP o M D d mc ms ph n' Q n ce sl (pc + len) L (mJ (w64 (a + b)) :: S) G) : WP o M D d mc ms ph n' Q n ce sl pc L (mJ b :: mJ a :: S) G := by
  have hl := Nat.eq_of_beq_eq_true hi
  subst hl
  intro l X p e R s m args below meth c H locs ls Z hR hF hW hS hL hO hLo hZ
  refine lv_ladd hF.1 hF.2.1 hd ?_
  rw [← i64_add]
  exact k l X p e R s m args below meth c H locs ls Z hR hF hW hS hL (hO.t.t.c (w64_r _)) hLo hZ
theorem wp_lmul {a b : Int} (hd : decode M.2.1 pc = .ok (.lmul, len)) (hi : okI M.2.2.1 .lmul len = true) (k : WP o M D d mc ms ph n' Q n ce sl (pc + len) L (mJ (w64 (a * b)) :: S) G) : WP o M D d mc ms ph n' Q n ce sl pc L (mJ b :: mJ a :: S) G := by
  have hl := Nat.eq_of_beq_eq_true hi
  subst hl
  intro l X p e R s m args below meth c H locs ls Z hR hF hW hS hL hO hLo hZ
  refine lv_lmul hF.1 hF.2.1 hd ?_
  rw [← i64_mul]
  exact k l X p e R s m args below meth c H locs ls Z hR hF hW hS hL (hO.t.t.c (w64_r _)) hLo hZ
theorem wp_i2l {a : Int} (hd : decode M.2.1 pc = .ok (.i2l, len)) (hi : okI M.2.2.1 .i2l len = true) (k : WP o M D d mc ms ph n' Q n ce sl (pc + len) L (mJ a :: S) G) : WP o M D d mc ms ph n' Q n ce sl pc L (mI a :: S) G := by
  have hl := Nat.eq_of_beq_eq_true hi
  subst hl
  intro l X p e R s m args below meth c H locs ls Z hR hF hW hS hL hO hLo hZ
  have ha : r32 a := hO.h
  have ha' : r64 a := ⟨by have := ha.1; omega, by have := ha.2; omega⟩
  refine lv_i2l (v := Int64.ofInt a) hF.1 hF.2.1 hd ?_ (k l X p e R s m args below meth c H locs ls Z hR hF hW hS hL (hO.t.c ha') hLo hZ)
  apply Int64.toInt_inj.mp
  rw [Int32.toInt_toInt64, i32_toInt ha, i64_toInt ha']
theorem wp_l2i {a : Int} (hd : decode M.2.1 pc = .ok (.l2i, len)) (hi : okI M.2.2.1 .l2i len = true) (k : WP o M D d mc ms ph n' Q n ce sl (pc + len) L (mI (w32 a) :: S) G) : WP o M D d mc ms ph n' Q n ce sl pc L (mJ a :: S) G := by
  have hl := Nat.eq_of_beq_eq_true hi
  subst hl
  intro l X p e R s m args below meth c H locs ls Z hR hF hW hS hL hO hLo hZ
  have ha : r64 a := hO.h
  refine lv_l2i (v := Int32.ofInt (w32 a)) hF.1 hF.2.1 hd ?_ (k l X p e R s m args below meth c H locs ls Z hR hF hW hS hL (hO.t.c (w32_r _)) hLo hZ)
  apply Int32.toInt_inj.mp
  rw [Int64.toInt_toInt32, i64_toInt ha, i32_toInt (w32_r _), w32_bmod]
theorem wp_i2b {a : Int} (hd : decode M.2.1 pc = .ok (.i2b, len)) (hi : okI M.2.2.1 .i2b len = true) (k : WP o M D d mc ms ph n' Q n ce sl (pc + len) L (mI (w8 a) :: S) G) : WP o M D d mc ms ph n' Q n ce sl pc L (mI a :: S) G := by
  have hl := Nat.eq_of_beq_eq_true hi
  subst hl
  intro l X p e R s m args below meth c H locs ls Z hR hF hW hS hL hO hLo hZ
  exact lv_i2b (v := Int32.ofInt (w8 a)) hF.1 hF.2.1 hd (i32_back _).symm (k l X p e R s m args below meth c H locs ls Z hR hF hW hS hL (hO.t.c (i32_r _)) hLo hZ)
theorem wp_i2c {a : Int} (hd : decode M.2.1 pc = .ok (.i2c, len)) (hi : okI M.2.2.1 .i2c len = true) (k : WP o M D d mc ms ph n' Q n ce sl (pc + len) L (mI (w16 a) :: S) G) : WP o M D d mc ms ph n' Q n ce sl pc L (mI a :: S) G := by
  have hl := Nat.eq_of_beq_eq_true hi
  subst hl
  intro l X p e R s m args below meth c H locs ls Z hR hF hW hS hL hO hLo hZ
  exact lv_i2c (v := Int32.ofInt (w16 a)) hF.1 hF.2.1 hd (i32_back _).symm (k l X p e R s m args below meth c H locs ls Z hR hF hW hS hL (hO.t.c (i32_r _)) hLo hZ)
theorem wp_dup {v : mV} (hd : decode M.2.1 pc = .ok (.dup, len)) (hi : okI M.2.2.1 .dup len = true) (hv : cat1 v = true) (k : WP o M D d mc ms ph n' Q n ce sl (pc + len) L (v :: v :: S) G) : WP o M D d mc ms ph n' Q n ce sl pc L (v :: S) G := by
  have hl := Nat.eq_of_beq_eq_true hi
  subst hl
  intro l X p e R s m args below meth c H locs ls Z hR hF hW hS hL hO hLo hZ
  exact lv_dup hF.1 hF.2.1 hd (cat1_ok hv) (k l X p e R s m args below meth c H locs ls Z hR hF hW hS hL (hO.c hO.h) hLo hZ)
theorem wp_dup2 {v w : mV} (hd : decode M.2.1 pc = .ok (.dup2, len)) (hi : okI M.2.2.1 .dup2 len = true) (hv : cat1 v = true) (hw : cat1 w = true) (k : WP o M D d mc ms ph n' Q n ce sl (pc + len) L (v :: w :: v :: w :: S) G) : WP o M D d mc ms ph n' Q n ce sl pc L (v :: w :: S) G := by
  have hl := Nat.eq_of_beq_eq_true hi
  subst hl
  intro l X p e R s m args below meth c H locs ls Z hR hF hW hS hL hO hLo hZ
  exact lv_dup2_11 hF.1 hF.2.1 hd (cat1_ok hv) (cat1_ok hw) (k l X p e R s m args below meth c H locs ls Z hR hF hW hS hL ((hO.c hO.t.h).c hO.h) hLo hZ)
theorem wp_pop {v : mV} (hd : decode M.2.1 pc = .ok (.pop, len)) (hi : okI M.2.2.1 .pop len = true) (hv : cat1 v = true) (k : WP o M D d mc ms ph n' Q n ce sl (pc + len) L S G) : WP o M D d mc ms ph n' Q n ce sl pc L (v :: S) G := by
  have hl := Nat.eq_of_beq_eq_true hi
  subst hl
  intro l X p e R s m args below meth c H locs ls Z hR hF hW hS hL hO hLo hZ
  exact lv_pop hF.1 hF.2.1 hd (cat1_ok hv) (k l X p e R s m args below meth c H locs ls Z hR hF hW hS hL hO.t hLo hZ)
theorem wp_ldc {i : Nat} {v : mV} (hd : decode M.2.1 pc = .ok (.ldc i, len)) (hi : okI M.2.2.1 (.ldc i) len = true) (hk : okK o.1 i v) (hv : cat1 v = true) (k : WP o M D d mc ms ph n' Q n ce sl (pc + len) L (v :: S) G) : WP o M D d mc ms ph n' Q n ce sl pc L S G := by
  have hl := Nat.eq_of_beq_eq_true hi
  subst hl
  intro l X p e R s m args below meth c H locs ls Z hR hF hW hS hL hO hLo hZ
  rcases v with x | x | r
  · exact lv_ldc hF.1 hF.2.1 hF.2.2.2.1 (hF.2.2.2.2.1 _ hk.1) hd (k l X p e R s m args below meth c H locs ls Z hR hF hW hS hL (hO.c hk.2) hLo hZ)
  · cases hv
  · obtain ⟨rfl, h2, rfl⟩ := hk
    have hown := hF.2.2.2.1
    rw [h2] at hown
    exact va_ldcS hF.1 hF.2.1 hown hF.2.2.2.2.2.2.2.2.2.2.1 hd (k l X p e R s m args below meth c H locs ls Z hR hF hW hS hL (hO.c trivial) hLo hZ)
theorem wp_ldc2 {i : Nat} {x : Int} (hd : decode M.2.1 pc = .ok (.ldc2_w i, len)) (hi : okI M.2.2.1 (.ldc2_w i) len = true) (hk : okK o.1 i (mJ x)) (k : WP o M D d mc ms ph n' Q n ce sl (pc + len) L (mJ x :: S) G) : WP o M D d mc ms ph n' Q n ce sl pc L S G := by
  have hl := Nat.eq_of_beq_eq_true hi
  subst hl
  intro l X p e R s m args below meth c H locs ls Z hR hF hW hS hL hO hLo hZ
  exact lv_ldc2 hF.1 hF.2.1 hF.2.2.2.1 (hF.2.2.2.2.1 _ hk.1) hd (k l X p e R s m args below meth c H locs ls Z hR hF hW hS hL (hO.c hk.2) hLo hZ)
end PLN
