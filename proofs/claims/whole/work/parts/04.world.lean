/-! ===== the small machine's heap beside the JVM's ===== -/
/-- what a run fixes: the tables' numbers; the classes of int[], byte[], boolean[], long[]; the first new address; the script (address, length, ints); the text constant and its bytes; what the formatter's static holds -/
abbrev mX : Type := va_G × (Nat → ClassId) × Nat × (Nat × Nat × (Nat → Int32)) × (Nat × Nat × Option Nat)
def xB (X : mX) : Nat := X.2.2.1
def xA (X : mX) : Nat → Prop := fun q => xB X ≤ q
def xT (X : mX) : List (ClassId × FieldType) := [(X.2.1 0, .int), (X.2.1 1, .byte), (X.2.1 2, .boolean), (X.2.1 3, .long)]
def cvr (X : mX) : Nat → Value
  | 0 => .null
  | 1 => .ref X.2.2.2.1.1
  | 2 => .ref X.2.2.2.2.1
  | 3 => .ref X.2.2.2.2.2.1
  | 4 => va_rf X.2.2.2.2.2.2
  | k + 5 => .ref (xB X + k)
def cv (X : mX) : mV → Value
  | .inl x => .int (Int32.ofInt x)
  | .inr (.inl x) => .long (Int64.ofInt x)
  | .inr (.inr r) => cvr X r
def okV : mV → Prop
  | .inl x => r32 x
  | .inr (.inl x) => r64 x
  | .inr (.inr _) => True
theorem cvr_cat (X : mX) (r : Nat) : (cvr X r).category = 1 := by
  match r with
  | 0 => rfl
  | 1 => rfl
  | 2 => rfl
  | 3 => rfl
  | 4 => show (va_rf _).category = 1; cases X.2.2.2.2.2.2 <;> rfl
  | k + 5 => rfl
def fvv (X : mX) (ty : FieldType) (x : Int) : Value := match ty with
  | .int => .int (Int32.ofInt x)
  | .boolean => .int (Int32.ofInt x)
  | .long => .long (Int64.ofInt x)
  | _ => cvr X x.toNat
def okF (ty : FieldType) (x : Int) : Prop := match ty with
  | .int => r32 x
  | .boolean => r32 x
  | .long => r64 x
  | _ => True
def ent (X : mX) (k : Nat × Nat) (g : Nat → Int) : va_E := match k.1 with
  | 20 => .inl (X.2.1 0, k.2, .inl (fun j => Int32.ofInt (g j)))
  | 21 => .inl (X.2.1 1, k.2, .inl (fun j => Int32.ofInt (g j)))
  | 22 => .inl (X.2.1 2, k.2, .inl (fun j => Int32.ofInt (g j)))
  | 23 => .inl (X.2.1 3, k.2, .inr (.inl (fun j => Int64.ofInt (g j))))
  | ci => .inr (ci, (List.range k.2).map (fun j => fvv X (mfT ci j) (g j)))
def okC (kind j : Nat) (x : Int) : Prop := match kind with
  | 20 => r32 x
  | 21 => r32 x
  | 22 => r32 x
  | 23 => r64 x
  | ci => okF (mfT ci j) x
/-- what the cells hold; behind the constructors (ph) the references that never change are known -/
def gx (ph : Bool) (G : mG) : mG := fun k j => match ph, crf k j with
  | true, c + 1 => ((c + 1 : Nat) : Int)
  | _, _ => G k j
def wl (X : mX) (n : Nat) (g : mG) : va_W := (List.range n).map (fun k => (xB X + k, ent X (shf k) (g k)))
def Rg (n : Nat) (g : mG) : Prop := ∀ k, k < n → ∀ j, j < (shf k).2 → okC (shf k).1 j (g k j)
/-- the script lies in the cells 1000 and 1001: its ints, its length -/
def scr (X : mX) (G : mG) : Prop := G 1001 0 = (X.2.2.2.1.2.1 : Int) ∧ ∀ j, j < X.2.2.2.1.2.1 → G 1000 j = (X.2.2.2.1.2.2 j).toInt
def Wd (X : mX) (ph : Bool) (n : Nat) (G : mG) (H : Heap) : Prop := H.size = xB X + n ∧ va_P X.1 vwCl (wl X n (gx ph G)) H ∧ Rg n (gx ph G) ∧ (n ≤ 1000 ∧ ∀ k, n ≤ k → k < 1000 → ∀ j, G k j = 0) ∧ scr X G
theorem wl_get {X : mX} {n : Nat} {g : mG} {k : Nat} (h : k < n) : (wl X n g)[k]? = some (xB X + k, ent X (shf k) (g k)) := by
  unfold wl
  rw [List.getElem?_map, List.getElem?_range h]
  rfl
theorem wl_len (X : mX) (n : Nat) (g : mG) : (wl X n g).length = n := by simp [wl]
theorem wl_D (X : mX) (n : Nat) (g : mG) : va_D (xA X) (wl X n g) := by
  have key : ∀ (k : Nat) (q : Nat × va_E), (wl X n g)[k]? = some q → q.1 = xB X + k := by
    intro k q hk
    have hl := (List.getElem?_eq_some_iff.mp hk).1
    rw [wl_len] at hl
    rw [wl_get hl] at hk
    cases hk
    rfl
  refine ⟨fun i j p q hp hq hpq => ?_, fun k q hk => ?_⟩
  · rw [key i p hp, key j q hq] at hpq
    omega
  · rw [key k q hk]
    exact Nat.le_add_right _ _
/-- a cell's entry is set: the list of another heap -/
theorem wl_set {X : mX} {n k : Nat} {g g' : mG} {e : va_E} (he : ent X (shf k) (g' k) = e) (ho : ∀ i, i ≠ k → g' i = g i) (hk : k < n) : (wl X n g).set k (xB X + k, e) = wl X n g' := by
  apply List.ext_getElem?
  intro i
  by_cases hik : i = k
  · subst hik
    rw [List.getElem?_set_self (by rw [wl_len]; exact hk), wl_get hk, he]
  · rw [List.getElem?_set_ne (Ne.symm hik)]
    by_cases hi : i < n
    · rw [wl_get hi, wl_get hi, ho i hik]
    · rw [List.getElem?_eq_none (by rw [wl_len]; omega), List.getElem?_eq_none (by rw [wl_len]; omega)]
theorem wl_push {X : mX} {n : Nat} {g : mG} {q : Nat} {e : va_E} (hq : q = xB X + n) (he : ent X (shf n) (g n) = e) : wl X n g ++ [(q, e)] = wl X (n + 1) g := by
  subst hq
  subst he
  unfold wl
  rw [List.range_succ, List.map_append]
  rfl
/-- the words that a method may use: those of the tables that last -/
def mgt : List Cond := lw_tbl.filter goodWord
theorem gin {w : Cond} (i : Nat) (h : lw_tbl[i]? = some w) (g : goodWord w = true) : w ∈ mgt := List.mem_filter.mpr ⟨List.mem_of_getElem? h, g⟩
def mw (M : mM) : List Cond := Cond.code M.1 M.2.1 M.2.2.1 M.2.2.2 :: mgt
def wordsS : String := "campaignfrom    until   end     want    in      worth   bar     beside  refund  if      or      and     near    districtquality audienceshown   unseen  late    "
def wordsB : List Int32 := wordsS.toList.map (fun c => Int32.ofNat c.toNat)
def mnestL : List (String × Nat × MethodName × String) := [("PasteHouse", 18, yX3_init, "PasteHouse"), ("PasteHouse", 25, yX9_init, "PasteHouse"), ("PasteHouse", 48, yX5_init, "PasteHouse"), ("PasteHouse", 55, yX2_init, "PasteHouse"), ("PasteHouse", 71, yX1_init, "PasteHouse"), ("PasteHouse$Facts", 28, yX11_isFortnight, "PasteHouse"), ("PasteHouse$Givings", 25, yX11_isFortnight, "PasteHouse")]
/-- what holds at a method's start, beside its cells -/
def KW (X : mX) (U : State) : Prop := va_K X.1 vwCl (xT X) U ∧ (∀ q ∈ mnestL, va_Nw (.methodLinkNest q.1 q.2.1 q.2.2.1 q.2.2.2) U) ∧ vk_R "PasteHouse$Tokens" 65 wordsS X.2.2.2.2.1 U ∧ va_X X.2.2.2.1.1 X.2.2.2.1.2.1 X.2.2.2.1.2.2 U U.heap ∧ X.2.2.2.1.1 < xB X ∧ vk_S 1 [160] [wordsB] (fun _ => X.2.2.2.2.1) (fun _ => X.2.2.2.2.2.1) (xA X) U U.heap ∧ va_Z "java/lang/String" "COMPACT_STRINGS" "Z" (.int 1) (xA X) U U.heap ∧ va_Z "jdk/internal/util/Preconditions" "SIOOBE_FORMATTER" "Ljava/util/function/BiFunction;" (va_rf X.2.2.2.2.2.2) (xA X) U U.heap ∧ xB X ≤ U.heap.size
theorem KW.at {X : mX} {s U : State} {H : Heap} {locs : List Loc} (h : KW X s) (hW : s.WarmedH U.vm) (hU : U.heap = H) (hS : va_S (xA X) s.heap H locs) : KW X U := by
  obtain ⟨h1, h2, h3, h4, h5, h6, h7, h8, h9⟩ := h
  subst hU
  refine ⟨va_K.moved hW.alike h1, fun q hq => va_Nw.warmM hW (h2 q hq), h3.warm hW, (h4.moved hW.alike).kept ?_, h5, (h6.moved hW.alike).kept hS.2.1, (h7.moved hW.alike).kept hS.2.1, (h8.moved hW.alike).kept hS.2.1, Nat.le_trans h9 hS.1⟩
  exact hS.2.1 _ (Nat.lt_of_lt_of_le h5 h9) (Nat.not_le.mpr h5)
theorem KW.same {X : mX} {u U : State} (hv : U.vm = u.vm) (hh : U.heap = u.heap) (h : KW X u) : KW X U := by
  have hA : u.vm.Alike U.vm := by rw [hv]; exact Vm.Alike.refl u.vm
  obtain ⟨h1, h2, h3, h4, h5, h6, h7, h8, h9⟩ := h
  refine ⟨va_K.moved hA h1, fun q hq => va_Nw.same rfl hv.symm (h2 q hq), h3.same hv, ?_, h5, ?_, ?_, ?_, by rw [hh]; exact h9⟩
  · rw [hh]; exact h4.moved hA
  · rw [hh]; exact h6.moved hA
  · rw [hh]; exact h7.moved hA
  · rw [hh]; exact h8.moved hA
