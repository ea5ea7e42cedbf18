/-! ===== the small machine: values are integers, the heap is cells of integers ===== -/
abbrev mV : Type := Int ⊕ (Int ⊕ Nat)
abbrev mI (x : Int) : mV := Sum.inl x
abbrev mJ (x : Int) : mV := Sum.inr (Sum.inl x)
abbrev mR (r : Nat) : mV := Sum.inr (Sum.inr r)
abbrev mG : Type := Nat → Nat → Int
abbrev mSh : Type := Nat × (Nat → Nat × Nat)
abbrev mS : Type := mSh × mG
abbrev mM : Type := MethodName × ByteArray × Nat × Option FieldType
abbrev mC : Type := List (Nat × Instr × Nat)
/-- own class; calls (index, (kind, args with the receiver, cells and slots made, the receiver's class), method); fields (index, class, place); new (index, class); constants -/
abbrev mO : Type := String × List (Nat × (Nat × Nat × Nat × Nat × Nat) × mM) × List (Nat × Nat × Nat) × List (Nat × Nat) × List (Nat × mV)
def fnd {α : Type} : List (Nat × α) → Nat → Option α
  | [], _ => none
  | q :: l, n => bif Nat.beq q.1 n then some q.2 else fnd l n
theorem fnd_mem {α : Type} {l : List (Nat × α)} {n : Nat} {a : α} (h : fnd l n = some a) : (n, a) ∈ l := by
  induction l with
  | nil => cases h
  | cons q l ih =>
    unfold fnd at h
    cases hb : Nat.beq q.1 n with
    | true =>
      rw [hb] at h
      have h1 : q.1 = n := Nat.eq_of_beq_eq_true hb
      have h2 : q.2 = a := Option.some.inj h
      have : q = (n, a) := by rw [← h1, ← h2]
      rw [this]
      exact List.mem_cons_self
    | false =>
      rw [hb] at h
      exact List.mem_cons_of_mem _ (ih h)
def w32 (x : Int) : Int := (x + 2147483648) % 4294967296 - 2147483648
def w64 (x : Int) : Int := (x + 9223372036854775808) % 18446744073709551616 - 9223372036854775808
def r32 (x : Int) : Prop := -2147483648 ≤ x ∧ x < 2147483648
def r64 (x : Int) : Prop := -9223372036854775808 ≤ x ∧ x < 9223372036854775808
theorem w32_r (x : Int) : r32 (w32 x) := by unfold r32 w32; omega
theorem w64_r (x : Int) : r64 (w64 x) := by unfold r64 w64; omega
theorem w32_id {x : Int} (h : r32 x) : w32 x = x := by unfold r32 at h; unfold w32; omega
theorem w64_id {x : Int} (h : r64 x) : w64 x = x := by unfold r64 at h; unfold w64; omega
theorem w32_bmod (x : Int) : w32 x = Int.bmod x (2 ^ 32) := by
  unfold w32 Int.bmod
  have h : ((2 ^ 32 : Nat) : Int) = 4294967296 := by decide
  simp only [h]
  split <;> omega
theorem w64_bmod (x : Int) : w64 x = Int.bmod x (2 ^ 64) := by
  unfold w64 Int.bmod
  have h : ((2 ^ 64 : Nat) : Int) = 18446744073709551616 := by decide
  simp only [h]
  split <;> omega
theorem i32_toInt {x : Int} (h : r32 x) : (Int32.ofInt x).toInt = x := by
  rw [Int32.toInt_ofInt, ← w32_id h, w32_bmod]
  simp
theorem i32_toInt' (x : Int) : (Int32.ofInt x).toInt = w32 x := by rw [Int32.toInt_ofInt, w32_bmod]
theorem i64_toInt' (x : Int) : (Int64.ofInt x).toInt = w64 x := by rw [Int64.toInt_ofInt, w64_bmod]
theorem i64_toInt {x : Int} (h : r64 x) : (Int64.ofInt x).toInt = x := by rw [i64_toInt', w64_id h]
theorem i32_r (x : Int32) : r32 x.toInt := ⟨Int32.le_toInt x, Int32.toInt_lt x⟩
theorem i64_r (x : Int64) : r64 x.toInt := ⟨Int64.le_toInt x, Int64.toInt_lt x⟩
theorem i32_back (x : Int32) : Int32.ofInt x.toInt = x := Int32.ofInt_toInt x
theorem i64_back (x : Int64) : Int64.ofInt x.toInt = x := Int64.ofInt_toInt x
theorem i32_w (x : Int) : Int32.ofInt (w32 x) = Int32.ofInt x := by
  rw [← i32_toInt', i32_back]
theorem i64_w (x : Int) : Int64.ofInt (w64 x) = Int64.ofInt x := by
  rw [← i64_toInt', i64_back]
theorem i32_inj {x y : Int} (hx : r32 x) (hy : r32 y) : Int32.ofInt x = Int32.ofInt y ↔ x = y := by
  constructor
  · intro h
    rw [← i32_toInt hx, ← i32_toInt hy, h]
  · intro h; rw [h]
theorem i32_lt {x y : Int} (hx : r32 x) (hy : r32 y) : Int32.ofInt x < Int32.ofInt y ↔ x < y := by
  rw [Int32.lt_iff_toInt_lt, i32_toInt hx, i32_toInt hy]
theorem i32_le {x y : Int} (hx : r32 x) (hy : r32 y) : Int32.ofInt x ≤ Int32.ofInt y ↔ x ≤ y := by
  rw [Int32.le_iff_toInt_le, i32_toInt hx, i32_toInt hy]
theorem i64_inj {x y : Int} (hx : r64 x) (hy : r64 y) : Int64.ofInt x = Int64.ofInt y ↔ x = y := by
  constructor
  · intro h
    rw [← i64_toInt hx, ← i64_toInt hy, h]
  · intro h; rw [h]
theorem i64_lt {x y : Int} (hx : r64 x) (hy : r64 y) : Int64.ofInt x < Int64.ofInt y ↔ x < y := by
  rw [Int64.lt_iff_toInt_lt, i64_toInt hx, i64_toInt hy]
theorem i32_add (x y : Int) : Int32.ofInt (w32 (x + y)) = Int32.ofInt x + Int32.ofInt y := by rw [i32_w, Int32.ofInt_add]
theorem i32_sub (x y : Int) : Int32.ofInt (w32 (x - y)) = Int32.ofInt x - Int32.ofInt y := by rw [i32_w, Int32.ofInt_sub]
theorem i32_mul (x y : Int) : Int32.ofInt (w32 (x * y)) = Int32.ofInt x * Int32.ofInt y := by rw [i32_w, Int32.ofInt_mul]
theorem i64_add (x y : Int) : Int64.ofInt (w64 (x + y)) = Int64.ofInt x + Int64.ofInt y := by rw [i64_w, Int64.ofInt_add]
theorem i64_sub (x y : Int) : Int64.ofInt (w64 (x - y)) = Int64.ofInt x - Int64.ofInt y := by rw [i64_w, Int64.ofInt_sub]
theorem i64_mul (x y : Int) : Int64.ofInt (w64 (x * y)) = Int64.ofInt x * Int64.ofInt y := by rw [i64_w, Int64.ofInt_mul]
def mDiv (x y : Int) : Int := w32 (Int.tdiv x y)
def mRem (x y : Int) : Int := w32 (x - mDiv x y * y)
theorem i32_div {x y : Int} (hx : r32 x) (hy : r32 y) : Int32.ofInt (mDiv x y) = Int32.ofInt x / Int32.ofInt y := by
  rw [← i32_back (Int32.ofInt x / Int32.ofInt y), Int32.toInt_div, i32_toInt hx, i32_toInt hy, ← w32_bmod]
  rfl
theorem i32_rem {x y : Int} (hx : r32 x) (hy : r32 y) : Int32.ofInt (mRem x y) = Int32.ofInt x - Int32.ofInt x / Int32.ofInt y * Int32.ofInt y := by
  rw [mRem, i32_sub, Int32.ofInt_mul, i32_div hx hy]
def mAnd (x y : Int) : Int := (Int32.ofInt x &&& Int32.ofInt y).toInt
def mOr (x y : Int) : Int := (Int32.ofInt x ||| Int32.ofInt y).toInt
def mShr (x y : Int) : Int := (Int32.ofInt x >>> (Int32.ofInt y &&& 31)).toInt
def mUshr (x y : Int) : Int := ((Int32.ofInt x).toUInt32 >>> ((Int32.ofInt y).toUInt32 &&& Int32.toUInt32 31)).toInt32.toInt
def mLushr (x y : Int) : Int := ((Int64.ofInt x).toUInt64 >>> ((Int32.ofInt y).toInt64.toUInt64 &&& Int64.toUInt64 63)).toInt64.toInt
def w8 (x : Int) : Int := (Int32.ofInt x).toInt8.toInt32.toInt
def w16 (x : Int) : Int := ((Int32.ofInt x).toUInt32 % 65536).toInt32.toInt
def mLcmp (x y : Int) : Int := if x < y then -1 else if x = y then 0 else 1
