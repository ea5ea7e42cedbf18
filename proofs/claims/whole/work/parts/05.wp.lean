/-! ===== what the small machine's code comes to, said over the JVM ===== -/
def mroom (d mc ms : Nat) : Room := { frames := d, cells := mc, slots := ms, locals := 40 * d }
def mFit (R : Room) (d mc ms : Nat) : Prop := d ≤ R.frames ∧ 40 * d ≤ R.locals ∧ mc ≤ R.cells ∧ ms ≤ R.slots
def mFix (X : mX) (own : String) (M : mM) (p : Program) (s : State) (m : MethodId) (args : Array Value) (meth : Method) (c : Code) : Prop :=
  p.tables.exec = Jvm.exec ∧ c.code = M.2.1 ∧ c.maxLocals = M.2.2.1 ∧ s.vm.findClass own = some m.cls ∧ (∀ w ∈ mgt, w.before args s = true) ∧ meth.sig.returnType = M.2.2.2 ∧ meth.locks = false ∧ meth.name = M.1.name ∧ KW X s
def ldv (L : List (Option mV)) (i : Nat) : Option mV := match L[i]? with
  | some (some v) => some v
  | _ => none
theorem ldv_eq {L : List (Option mV)} {i : Nat} {v : mV} (h : ldv L i = some v) : L[i]? = some (some v) := by
  unfold ldv at h
  split at h
  next w hw => cases h; exact hw
  next => cases h
def lpX (X : mX) (L : List (Option mV)) : List (Nat × Value) := (List.range L.length).filterMap (fun i => (ldv L i).map (fun v => (i, cv X v)))
theorem lpX_mem {X : mX} {L : List (Option mV)} {q : Nat × Value} : q ∈ lpX X L ↔ ∃ v, L[q.1]? = some (some v) ∧ q.2 = cv X v := by
  unfold lpX
  rw [List.mem_filterMap]
  constructor
  · rintro ⟨i, -, h⟩
    rw [Option.map_eq_some_iff] at h
    obtain ⟨v, h1, rfl⟩ := h
    exact ⟨v, ldv_eq h1, rfl⟩
  · rintro ⟨v, h1, h2⟩
    refine ⟨q.1, List.mem_range.mpr (List.getElem?_eq_some_iff.mp h1).1, ?_⟩
    rw [Option.map_eq_some_iff]
    refine ⟨v, ?_, ?_⟩
    · unfold ldv; rw [h1]
    · rw [← h2]
def mLr (X : mX) (ls : Array Slot) (n : Nat) (L : List (Option mV)) : Prop := L.length = n ∧ lv_has ls n (lpX X L)
theorem mLr.at {X : mX} {ls : Array Slot} {n : Nat} {L : List (Option mV)} (h : mLr X ls n L) {i : Nat} {v : mV} (hv : ldv L i = some v) : ls[i]? = some (.val (cv X v)) :=
  h.2.2.2 (i, cv X v) (lpX_mem.mpr ⟨v, ldv_eq hv, rfl⟩)
def okS (S : List mV) : Prop := ∀ v ∈ S, okV v
def okL (L : List (Option mV)) : Prop := ∀ v, some v ∈ L → okV v
theorem okS.c {v : mV} {S : List mV} (hv : okV v) (h : okS S) : okS (v :: S) := fun w hw => by
  rcases List.mem_cons.mp hw with rfl | hw
  · exact hv
  · exact h w hw
theorem okS.t {v : mV} {S : List mV} (h : okS (v :: S)) : okS S := fun w hw => h w (List.mem_cons_of_mem _ hw)
theorem okS.h {v : mV} {S : List mV} (h : okS (v :: S)) : okV v := h v List.mem_cons_self
theorem okL.at {L : List (Option mV)} (h : okL L) {i : Nat} {v : mV} (hv : ldv L i = some v) : okV v := h v (List.mem_of_getElem? (ldv_eq hv))
/-- a value of one word is stored; a long whose second word lay there is lost -/
def st1 (L : List (Option mV)) (i : Nat) (v : mV) : List (Option mV) := (match i with
  | 0 => L
  | k + 1 => match ldv L k with
    | some (.inr (.inl _)) => L.set k none
    | _ => L).set i (some v)
def st2 (L : List (Option mV)) (i : Nat) (v : mV) : List (Option mV) := (st1 L i v).set (i + 1) none
theorem set_at {L : List (Option mV)} {i j : Nat} {x : Option mV} {w : mV} (h : (L.set i x)[j]? = some (some w)) : (j = i ∧ x = some w) ∨ (j ≠ i ∧ L[j]? = some (some w)) := by
  by_cases hj : j = i
  · subst hj
    by_cases hl : j < L.length
    · rw [List.getElem?_set_self hl] at h
      exact Or.inl ⟨rfl, Option.some.inj h⟩
    · rw [List.getElem?_eq_none (by simp; omega)] at h
      cases h
  · rw [List.getElem?_set_ne (Ne.symm hj)] at h
    exact Or.inr ⟨hj, h⟩
theorem st1_len (L : List (Option mV)) (i : Nat) (v : mV) : (st1 L i v).length = L.length := by
  unfold st1
  split
  · simp
  · split <;> simp
theorem st1_at {L : List (Option mV)} {i j : Nat} {v w : mV} (h : (st1 L i v)[j]? = some (some w)) : (j = i ∧ v = w) ∨ (j ≠ i ∧ L[j]? = some (some w) ∧ (j + 1 = i → ∀ x, w ≠ .inr (.inl x))) := by
  unfold st1 at h
  rcases set_at h with ⟨h1, h2⟩ | ⟨h1, h2⟩
  · exact Or.inl ⟨h1, Option.some.inj h2⟩
  · refine Or.inr ⟨h1, ?_⟩
    cases i with
    | zero => exact ⟨h2, fun q => absurd q (by omega)⟩
    | succ k =>
      simp only at h2
      split at h2
      next x hx =>
        rcases set_at h2 with ⟨-, h4⟩ | ⟨h3, h4⟩
        · cases h4
        · exact ⟨h4, fun q => absurd (by omega) h3⟩
      next hx =>
        refine ⟨h2, fun q x hw => ?_⟩
        have hjk : j = k := by omega
        subst hjk
        subst hw
        refine hx x ?_
        unfold ldv
        rw [h2]
theorem cv_cat2 {X : mX} {v : mV} (h : (cv X v).category = 2) : ∃ x, v = .inr (.inl x) := by
  rcases v with x | x | r
  · cases h
  · exact ⟨x, rfl⟩
  · have h1 := cvr_cat X r
    have h2 : (cvr X r).category = 2 := h
    omega
theorem okL_st1 {L : List (Option mV)} {i : Nat} {v : mV} (h : okL L) (hv : okV v) : okL (st1 L i v) := by
  intro w hw
  obtain ⟨j, hj⟩ := List.getElem?_of_mem hw
  rcases st1_at hj with ⟨-, rfl⟩ | ⟨-, h2, -⟩
  · exact hv
  · exact h w (List.mem_of_getElem? h2)
theorem okL_st2 {L : List (Option mV)} {i : Nat} {v : mV} (h : okL L) (hv : okV v) : okL (st2 L i v) := by
  intro w hw
  obtain ⟨j, hj⟩ := List.getElem?_of_mem hw
  unfold st2 at hj
  rcases set_at hj with ⟨-, h2⟩ | ⟨-, h2⟩
  · cases h2
  · exact okL_st1 h hv w (List.mem_of_getElem? h2)
theorem mLr_st1 {X : mX} {ls : Array Slot} {n : Nat} {L : List (Option mV)} {i : Nat} {v : mV} (hL : L.length = n) (h : lv_has ls n ((i, cv X v) :: (lpX X L).filter (fun q => !(q.1 == i) && !(q.1 + 1 == i && q.2.category == 2)))) : mLr X ls n (st1 L i v) := by
  refine ⟨by rw [st1_len]; exact hL, h.1, h.2.1, fun q hq => h.2.2 q ?_⟩
  obtain ⟨w, h1, h2⟩ := lpX_mem.mp hq
  rcases st1_at h1 with ⟨a, b⟩ | ⟨a, b, c⟩
  · refine List.mem_cons.mpr (Or.inl ?_)
    rw [← a, b, ← h2]
  · refine List.mem_cons.mpr (Or.inr (List.mem_filter.mpr ⟨lpX_mem.mpr ⟨w, b, h2⟩, ?_⟩))
    simp only [Bool.and_eq_true, Bool.not_eq_true', beq_eq_false_iff_ne, ne_eq, Bool.and_eq_false_iff]
    refine ⟨a, ?_⟩
    by_cases hq : q.1 + 1 = i
    · refine Or.inr fun hc => ?_
      rw [h2] at hc
      obtain ⟨x, hx⟩ := cv_cat2 hc
      exact c hq x hx
    · exact Or.inl hq
theorem mLr_st2 {X : mX} {ls : Array Slot} {n : Nat} {L : List (Option mV)} {i : Nat} {v : mV} (hL : L.length = n) (h : lv_has ls n ((i, cv X v) :: (lpX X L).filter (fun q => !(q.1 == i) && (!(q.1 == i + 1) && !(q.1 + 1 == i && q.2.category == 2))))) : mLr X ls n (st2 L i v) := by
  refine ⟨by unfold st2; rw [List.length_set, st1_len]; exact hL, h.1, h.2.1, fun q hq => h.2.2 q ?_⟩
  obtain ⟨w, h1, h2⟩ := lpX_mem.mp hq
  unfold st2 at h1
  rcases set_at h1 with ⟨-, h3⟩ | ⟨h3, h1⟩
  · cases h3
  rcases st1_at h1 with ⟨a, b⟩ | ⟨a, b, c⟩
  · refine List.mem_cons.mpr (Or.inl ?_)
    rw [← a, b, ← h2]
  · refine List.mem_cons.mpr (Or.inr (List.mem_filter.mpr ⟨lpX_mem.mpr ⟨w, b, h2⟩, ?_⟩))
    simp only [Bool.and_eq_true, Bool.not_eq_true', beq_eq_false_iff_ne, ne_eq, Bool.and_eq_false_iff]
    refine ⟨a, h3, ?_⟩
    by_cases hq : q.1 + 1 = i
    · refine Or.inr fun hc => ?_
      rw [h2] at hc
      obtain ⟨x, hx⟩ := cv_cat2 hc
      exact c hq x hx
    · exact Or.inl hq
/-- only cells of D have changed -/
def mFr (D : Nat → Bool) (G G' : mG) : Prop := ∀ k, D k = false → G' k = G k
theorem mFr.rf {D : Nat → Bool} {G : mG} : mFr D G G := fun _ _ => rfl
theorem mFr.tr {D : Nat → Bool} {G G1 G2 : mG} (h : mFr D G G1) (h' : mFr D G1 G2) : mFr D G G2 := fun k hk => (h' k hk).trans (h k hk)
/-- a return instruction at pc, for this answer -/
def mRI (M : mM) (v : Option mV) (pc : Nat) : Prop := match M.2.2.2, v with
  | none, none => decode M.2.1 pc = .ok (.return_, 1)
  | some .long, some (.inr (.inl _)) => decode M.2.1 pc = .ok (.lreturn, 1)
  | some ty, some (.inl x) => decode M.2.1 pc = .ok (.ireturn, 1) ∧ narrow ty (.int (Int32.ofInt x)) = .int (Int32.ofInt x)
  | _, _ => False
def mZ (M : mM) (D : Nat → Bool) (mc ms : Nat) (ph : Bool) (n' : Nat) (Q : Option mV → mG → Prop) (G : mG) (l : Launch) (X : mX) (p : Program) (e : Env) (R : Room) (s : State) (m : MethodId) (args : Array Value) (below : List Frame) (meth : Method) (c : Code) (Z : State → Prop) : Prop :=
  ∀ (v : Option mV) (G' : mG) (H' : Heap) (locs' : List Loc) (pc' : Nat) (ls' : Array Slot), Q v G' → (∀ x, v = some x → okV x) → mFr D G G' → Wd X ph n' G' H' → va_S (xA X) s.heap H' locs' → mRI M v pc' → W p l e R s m args below meth c H' locs' mc ms Z (F0 m pc' ls' (v.toList.map (cv X)))
/-- from this frame on the method comes to its end, with Q -/
def WP (o : mO) (M : mM) (D : Nat → Bool) (d mc ms : Nat) (ph : Bool) (n' : Nat) (Q : Option mV → mG → Prop) (n ce sl pc : Nat) (L : List (Option mV)) (S : List mV) (G : mG) : Prop :=
  ∀ (l : Launch) (X : mX) (p : Program) (e : Env) (R : Room) (s : State) (m : MethodId) (args : Array Value) (below : List Frame) (meth : Method) (c : Code) (H : Heap) (locs : List Loc) (ls : Array Slot) (Z : State → Prop),
    mFit R d mc ms → mFix X o.1 M p s m args meth c → Wd X ph n G H → va_S (xA X) s.heap H locs → mLr X ls M.2.2.1 L → okS S → okL L →
    mZ M D mc ms ph n' Q G l X p e R s m args below meth c Z →
    W p l e R s m args below meth c H locs ce sl Z (F0 m pc ls (S.map (cv X)))
theorem mZ.to {M : mM} {D : Nat → Bool} {mc ms : Nat} {ph : Bool} {n' : Nat} {Q : Option mV → mG → Prop} {G G1 : mG} {l : Launch} {X : mX} {p : Program} {e : Env} {R : Room} {s : State} {m : MethodId} {args : Array Value} {below : List Frame} {meth : Method} {c : Code} {Z : State → Prop} (h : mZ M D mc ms ph n' Q G l X p e R s m args below meth c Z) (hf : mFr D G G1) : mZ M D mc ms ph n' Q G1 l X p e R s m args below meth c Z :=
  fun v G' H' locs' pc' ls' q ok fr w sS r => h v G' H' locs' pc' ls' q ok (hf.tr fr) w sS r
/-- the locals that a method begins with -/
def iniL : List mV → List (Option mV)
  | [] => []
  | .inr (.inl x) :: vs => some (.inr (.inl x)) :: none :: iniL vs
  | v :: vs => some v :: iniL vs
def mPc (X : mX) (ph : Bool) (n : Nat) (as : List mV) (G : mG) : Array Value → State → Prop := fun v U => v = (as.map (cv X)).toArray ∧ Wd X ph n G U.heap ∧ KW X U ∧ okS as
def mQc (X : mX) (D : Nat → Bool) (ph : Bool) (n' : Nat) (G : mG) (Q : Option mV → mG → Prop) : Array Value → State → Outcome → State → Prop := fun _ st oc t => ∃ (v : Option mV) (G' : mG), oc = .returned (v.map (cv X)) ∧ Q v G' ∧ (∀ x, v = some x → okV x) ∧ mFr D G G' ∧ Wd X ph n' G' t.heap ∧ va_F (xA X) st t
/-- a method, called with these arguments over these cells, returns, with Q -/
def MP (D : Nat → Bool) (d mc ms : Nat) (ph : Bool) (n n' : Nat) (M : mM) (as : List mV) (G : mG) (Q : Option mV → mG → Prop) : Prop :=
  ∀ (l : Launch) (X : mX), Met l M.1 (mw M) (mroom d mc ms) (mPc X ph n as G) (mQc X D ph n' G Q) mc ms (xA X)
