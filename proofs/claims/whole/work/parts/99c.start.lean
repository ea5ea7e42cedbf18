/-! ===== kit/laws/SKELETON.whole (PART B), with the law's name in lw_At; then KW_start, whole_start ===== -/
/-! THE CLAIM OUT OF ONE WALK OF THE LAW'S BODY. Your part is whole_start (and what it stands on); all else here is the same for every law, but numbers. -/
def R_law : String := "PasteHouseLaw"
def lw_P (b : Addr) (xs : List Int32) (args : Array Value) (s : State) : Prop := args = #[.ref b] ∧ s.IntsAt b xs ∧ xs.length ≤ 3072 ∧ (Jvm.Cond.and given_1 narrow_1).before args s = true
def lw_Q (_ : Array Value) (s : State) (o : Outcome) (t : State) : Prop := o = .returned (some (.int 1)) ∧ Framed s o t [] 600000 7302250
def lw_Z (below : List Frame) (a : Array Value) (s : State) : State → Prop := fun t => ∃ o, t.status = .running ∧ Ended t below o ∧ lw_Q a s o t
/-- the law's own end, with 1 on the stack, nothing written that was there before, its room as the claim has it -/
theorem lw_ret {p : Program} {l : Launch} {e : Env} {s : State} {m : MethodId} {below : List Frame} {meth : Method} {c : Code} {b : Nat} (hx : p.tables.exec = Jvm.exec) (hb : c.code = code) (hr : meth.sig.returnType = ret) (hlocks : meth.locks = false) {pc : Nat} {H : Heap} {ls : Array Slot} (hdg : decode code pc = .ok (.ireturn, 1)) : W p l e room_1 s m #[Value.ref b] below meth c H [] 600000 7302250 (lw_Z below #[Value.ref b] s) (F0 m pc ls [.int 1]) := by
  intro T hT X
  obtain ⟨fs, hret, hrun, hended, hW, hframe⟩ := X.leave (v := some (.int 1)) (hlocks := hlocks) (fun h => by rw [hr] at h; cases h)
  have hmeth' : T.vm.method? m = some meth := X.method'
  refine ⟨T.setFrames fs, ?_, .returned (some (.int 1)), hrun, hended, rfl, ⟨_, rfl⟩, hW, hframe⟩
  jvm_step X.here [X.here.top, hx, hb, hdg, hmeth', hr, ret, narrow_b1]
  (try refine ⟨rfl, ?_⟩); (try refine ⟨rfl, ?_⟩)
  first | (intro acts; rw [hret _ acts rfl rfl rfl]) | rw [hret _ _ rfl rfl rfl]
  exact Steps.refl _
/-- what holds at the law's entry: the machine, the code, the tables' words (any of lw_tbl by 'hts w (by decide +kernel)'), the script of L ints xs at the cell b, what the Statement gives of the start (any of its parts by flat_of_before) -/
def lw_At (p : Program) (s : State) (m : MethodId) (meth : Method) (c : Code) (b L : Nat) (xs : Nat → Int32) : Prop :=
  p.tables.exec = Jvm.exec ∧ c.code = code ∧ meth.sig.returnType = ret ∧ c.maxLocals = 4 ∧ s.vm.findClass R_law = some m.cls ∧ (∀ w ∈ lw_tbl, w.before #[Value.ref b] s = true) ∧ va_X b L xs s s.heap ∧ b < s.heap.size ∧ meth.locks = false ∧ (Jvm.Cond.and given_1 narrow_1).before #[Value.ref b] s = true ∧ meth.name = x.name
/-- the text's bytes, as the Statement has them -/
theorem tx_all : ∀ j, j < 160 → (flatC (Jvm.Cond.and given_1 narrow_1))[13 + j]? = some (Cond.eq (.elem (.field (.string "PasteHouse$Tokens" 65) "java/lang/String" "value" "[B") (.int (Int32.ofNat j))) (.int (([wordsB].getD 0 []).getD j 0))) := by decide +kernel
theorem hts_g {s : State} {args : Array Value} (hts : ∀ w ∈ lw_tbl, w.before args s = true) : ∀ w ∈ mgt, w.before args s = true := fun w hw => hts w (List.mem_filter.mp hw).1
/-- what holds at the law's start, for the small machine -/
theorem KW_start {s : State} {b L : Nat} {xs : Nat → Int32} (hts : ∀ w ∈ lw_tbl, w.before #[Value.ref b] s = true) (hX : va_X b L xs s s.heap) (hbl : b < s.heap.size) (hgv : (Jvm.Cond.and given_1 narrow_1).before #[Value.ref b] s = true) : ∃ X : mX, xB X = s.heap.size ∧ X.2.2.2.1 = (b, L, xs) ∧ KW X s := by
  have hm := hts_g hts
  have hA : ∀ a : Nat, a < s.heap.size → ¬ (fun q : Nat => s.heap.size ≤ q) a := fun a h => Nat.not_le.mpr h
  have hs := flat_of_before _ hgv
  -- the classes
  have hk : ∀ ci : Nat, ∃ q : ClassId × (Nat → Nat), ∀ C T N, vwCl[ci]? = some (C, T, N) → u_Kn s C T N q.1 q.2 := by
    intro ci
    cases hq : vwCl[ci]? with
    | none => exact ⟨(0, fun _ => 0), fun C T N h => by cases h⟩
    | some q =>
      obtain ⟨C, T, N⟩ := q
      obtain ⟨h1, _, _, h4, _⟩ := okCls_ok ci C T N hq
      obtain ⟨cC, iS, h5⟩ := u_known (n := N) hm h1 (hm _ h4)
      exact ⟨(cC, iS), fun C' T' N' h => by cases h; exact h5⟩
  -- the array classes
  obtain ⟨r0, r1, r2, r3⟩ := okArr_ok
  obtain ⟨a0, k0, m0, x0, y0, z0⟩ := Cond.arrayClass_spec (hm _ r0)
  obtain ⟨a1, k1, m1, x1, y1, z1⟩ := Cond.arrayClass_spec (hm _ r1)
  obtain ⟨a2, k2, m2, x2, y2, z2⟩ := Cond.arrayClass_spec (hm _ r2)
  obtain ⟨a3, k3, m3, x3, y3, z3⟩ := Cond.arrayClass_spec (hm _ r3)
  -- the text
  obtain ⟨adK, adV, hS, hev⟩ := vk_Sof (args := #[Value.ref b]) (s := s) (N := 1) (tm := fun _ => .string "PasteHouse$Tokens" 65) (len := [160]) (byt := [wordsB]) (A := fun q : Nat => s.heap.size ≤ q) (fun i hi => by rw [show i = 0 by omega]; decide) (fun i hi => hs _ (by decide +kernel)) (fun i hi => hs _ (by decide +kernel)) (fun i hi => hs _ (by decide +kernel)) (fun i hi => by rw [show i = 0 by omega]; exact hs _ (by decide +kernel)) (fun i hi j hj => by
    have e : i = 0 := by omega
    subst e
    exact hs _ (List.mem_of_getElem? (tx_all j hj))) (fun i j hi hj h => absurd (show i = j by omega) h) hA
  have hR : vk_R "PasteHouse$Tokens" 65 wordsS (adK 0) s := vk_R.of (A := #[Value.ref b]) (hts (.stringRef "PasteHouse$Tokens" 65 wordsS) (by decide +kernel)) (hev 0 (by decide))
  have hZ1 : va_Z "java/lang/String" "COMPACT_STRINGS" "Z" (.int 1) (fun q : Nat => s.heap.size ≤ q) s s.heap := va_Zof (hts (.laysStatic "java/lang/String" "COMPACT_STRINGS" "Z") (by decide +kernel)) (hts (.initialized "java/lang/String") (by decide +kernel)) (va_eqi (hs _ (by decide +kernel))) hA
  have hZ2 : va_Zq "jdk/internal/util/Preconditions" "SIOOBE_FORMATTER" "Ljava/util/function/BiFunction;" (fun q : Nat => s.heap.size ≤ q) s s.heap := va_Zqof (hts (.laysStatic "jdk/internal/util/Preconditions" "SIOOBE_FORMATTER" "Ljava/util/function/BiFunction;") (by decide +kernel)) (hts (.initialized "jdk/internal/util/Preconditions") (by decide +kernel)) (hs _ (by decide +kernel)) hA
  obtain ⟨rf, hZ3⟩ : ∃ rf : Option Nat, va_Z "jdk/internal/util/Preconditions" "SIOOBE_FORMATTER" "Ljava/util/function/BiFunction;" (va_rf rf) (fun q : Nat => s.heap.size ≤ q) s s.heap := by
    rcases hZ2 with h | ⟨t, h⟩
    · exact ⟨none, h⟩
    · exact ⟨some t, h⟩
  refine ⟨((fun ci => (Classical.choose (hk ci)).1, fun ci => (Classical.choose (hk ci)).2), (fun j => if j = 0 then a0 else if j = 1 then a1 else if j = 2 then a2 else a3), s.heap.size, (b, L, xs), (adK 0, adV 0, rf)), rfl, rfl, ⟨fun ci q hq => ?_, fun k q hq => ?_⟩, fun q hq => ?_, hR, hX, hbl, ⟨fun i hi => ?_, fun i j hi hj _ => by omega⟩, hZ1, hZ3, Nat.le_refl _⟩
  · obtain ⟨C, T, N⟩ := q
    exact Classical.choose_spec (hk ci) C T N hq
  · match k, hq with
    | 0, hq => cases hq; exact ⟨fun n z => ⟨fun k h => (by cases h), k0, y0, m0, z0⟩, x0⟩
    | 1, hq => cases hq; exact ⟨fun n z => ⟨fun k h => (by cases h), k1, y1, m1, z1⟩, x1⟩
    | 2, hq => cases hq; exact ⟨fun n z => ⟨fun k h => (by cases h), k2, y2, m2, z2⟩, x2⟩
    | 3, hq => cases hq; exact ⟨fun n z => ⟨fun k h => (by cases h), k3, y3, m3, z3⟩, x3⟩
    | k + 4, hq => simp [xT] at hq
  · have key : ∀ q ∈ mnestL, Cond.methodLinkNest q.1 q.2.1 q.2.2.1 q.2.2.2 ∈ lw_tbl := by decide +kernel
    exact va_Nw.of rfl (hts _ (key q hq))
  · have e : i = 0 := by omega
    subst e
    exact hS.1 0 (by decide)
set_option maxHeartbeats 4000000 in
theorem whole_start {p : Program} {e : Env} {s : State} {m : MethodId} {below : List Frame} {meth : Method} {c : Code} (l : Launch) {b L : Nat} {xs : Nat → Int32} (hL : L ≤ 3072) (C0 : lw_At p s m meth c b L xs) : W p l e room_1 s m #[Value.ref b] below meth c s.heap [] 0 0 (lw_Z below #[Value.ref b] s) (entryFrame m ([Value.ref b] : List Value).toArray 4) := by
  obtain ⟨hx, hb, hr, hml, hown, hts, hX, hbl, hlocks, hgv, hname⟩ := id C0
  obtain ⟨X, hB, hsc, hK⟩ := KW_start hts hX hbl hgv
  have hl := lv_entry ([.ref b]) (n := 4) (Nat.le_of_ble_eq_true rfl)
  rw [lg_entry_eq]
  generalize (lg_sl ([.ref b]) ++ List.replicate (4 - (lg_sl ([.ref b])).length) Slot.unset).toArray = ls at hl ⊢
  have hl : lv_has ls 4 [(0, .ref b)] := hl
  -- the heap at the start: nothing but the script
  have hcv : cv X (mR 1) = .ref b := by
    show Value.ref X.2.2.2.1.1 = .ref b
    rw [hsc]
  have hr32 : ∀ z : Int32, -2147483648 ≤ z.toInt ∧ z.toInt < 2147483648 := fun z => by have h1 := Int32.le_toInt z; have h2 := Int32.toInt_lt z; omega
  have W0 := lw_start (Q := fun v _ => v = some (mI 1)) (G := fun k j => if k = 1000 then (if j < L then (xs j).toInt else 0) else if k = 1001 then ((L : Nat) : Int) else 0) (fun _ => rfl) (fun _ _ _ h => h) (fun k j hk => by rw [if_neg (by omega), if_neg (by omega)]) ⟨Int.natCast_nonneg L, Int.ofNat_le.mpr hL⟩ (fun i hi => by
    have hi2 : i < L := Int.ofNat_lt.mp hi
    show (if i < L then (xs i).toInt else 0) < 2147483648
    rw [if_pos hi2]
    exact (hr32 (xs i)).2)
  refine W0 l X p e room_1 s m #[Value.ref b] below meth c s.heap [] ls _ ⟨by decide, by decide, by decide, by decide⟩ ⟨hx, hb, hml, hown, hts_g hts, hr, hlocks, hname, hK⟩ ⟨by rw [hB]; rfl, fun k q h => by simp [wl] at h, fun k hk => absurd hk (Nat.not_lt_zero k), ⟨by decide, fun k _ hk j => ?_⟩, ?_, fun j hj => ?_⟩ va_S.rf ⟨rfl, hl.1, hl.2.1, fun q hq => hl.2.2 q ?_⟩ (fun _ h => by cases h) (fun v hv => ?_) ?_
  · show (if k = 1000 then (if j < L then (xs j).toInt else 0) else if k = 1001 then ((L : Nat) : Int) else 0) = 0
    rw [if_neg (by omega), if_neg (by omega)]
  · show ((L : Nat) : Int) = ((X.2.2.2.1.2.1 : Nat) : Int)
    rw [hsc]
  · show (if j < L then (xs j).toInt else 0) = (X.2.2.2.1.2.2 j).toInt
    rw [hsc] at hj ⊢
    exact if_pos hj
  · obtain ⟨v, h1, h2⟩ := lpX_mem.mp hq
    obtain ⟨qi, qv⟩ := q
    match qi, h1, h2 with
    | 0, h1, h2 =>
      cases h1
      have h2 : qv = cv X (mR 1) := h2
      rw [h2, hcv]
      exact List.mem_cons_self
    | 1, h1, _ => cases h1
    | 2, h1, _ => cases h1
    | 3, h1, _ => cases h1
    | k + 4, h1, _ => simp at h1
  · rcases List.mem_cons.mp hv with h | hv
    · cases h; exact trivial
    · rcases List.mem_cons.mp hv with h | hv
      · cases h
      · rcases List.mem_cons.mp hv with h | hv
        · cases h
        · rcases List.mem_cons.mp hv with h | hv
          · cases h
          · cases hv
  · intro v G' H' locs' pc' ls' q ok fr w sS r
    subst q
    have hd : decode code pc' = .ok (.ireturn, 1) := r.1
    refine va_forget (fun z hz => ?_) ?_
    · have h3 : xB X ≤ z.base := sS.2.2 z hz
      rw [hB] at h3
      exact h3
    · refine W.widen (k := 600000) (n := 7302250) (by omega) (by omega) ?_
      exact lw_ret hx hb hr hlocks hd
