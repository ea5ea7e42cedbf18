/-! ===== returns, calls, whole methods ===== -/
theorem MP.to {D D2 : Nat → Bool} {d mc ms : Nat} {ph : Bool} {n n' : Nat} {M : mM} {as : List mV} {G : mG} {Q Q2 : Option mV → mG → Prop} (h : MP D2 d mc ms ph n n' M as G Q2) (hD : ∀ k, D k = false → D2 k = false) (hq : ∀ v G', Q2 v G' → mFr D2 G G' → Q v G') : MP D d mc ms ph n n' M as G Q := by
  intro l X p e ha hc hk s m args below hf happ hP hK
  obtain ⟨j, oc, h1, h2, h3, ⟨v, G', e1, e2, e3, e4, e5, e6⟩, h5⟩ := h l X p e ha hc hk s m args below hf happ hP hK
  exact ⟨j, oc, h1, h2, h3, ⟨v, G', e1, hq v G' e2 e4, e3, fun k hk => e4 k (hD k hk), e5, e6⟩, h5⟩
theorem lpI {X : mX} {as : List mV} {i : Nat} {v : mV} (b : Nat) (h : (iniL as)[i]? = some (some v)) : (b + i, cv X v) ∈ lv_args b (as.map (cv X)) := by
  induction as generalizing i b with
  | nil => simp [iniL] at h
  | cons a as ih =>
    rcases a with x | x | r
    · show (b + i, cv X v) ∈ (b, cv X (.inl x)) :: lv_args (b + 1) (as.map (cv X))
      have h : (some (Sum.inl x) :: iniL as)[i]? = some (some v) := h
      cases i with
      | zero =>
        have h : some (some (Sum.inl x)) = some (some v) := h
        cases h
        exact List.mem_cons_self
      | succ i =>
        have h : (iniL as)[i]? = some (some v) := h
        have := ih (b + 1) h
        rw [show b + (i + 1) = b + 1 + i by omega]
        exact List.mem_cons_of_mem _ this
    · show (b + i, cv X v) ∈ (b, cv X (.inr (.inl x))) :: lv_args (b + 2) (as.map (cv X))
      have h : (some (Sum.inr (Sum.inl x)) :: none :: iniL as)[i]? = some (some v) := h
      match i, h with
      | 0, h =>
        have h : some (some (Sum.inr (Sum.inl x))) = some (some v) := h
        cases h
        exact List.mem_cons_self
      | 1, h => cases h
      | i + 2, h =>
        have h : (iniL as)[i]? = some (some v) := h
        have := ih (b + 2) h
        rw [show b + (i + 2) = b + 2 + i by omega]
        exact List.mem_cons_of_mem _ this
    · have hc := cvr_cat X r
      show (b + i, cv X v) ∈ (b, cvr X r) :: lv_args (if (cvr X r).category = 2 then b + 2 else b + 1) (as.map (cv X))
      rw [if_neg (by omega)]
      have h : (some (Sum.inr (Sum.inr r)) :: iniL as)[i]? = some (some v) := h
      cases i with
      | zero =>
        have h : some (some (Sum.inr (Sum.inr r))) = some (some v) := h
        cases h
        exact List.mem_cons_self
      | succ i =>
        have h : (iniL as)[i]? = some (some v) := h
        have := ih (b + 1) h
        rw [show b + (i + 1) = b + 1 + i by omega]
        exact List.mem_cons_of_mem _ this
theorem lsI {X : mX} (as : List mV) : (lg_sl (as.map (cv X))).length = (iniL as).length := by
  induction as with
  | nil => rfl
  | cons a as ih =>
    unfold lg_sl at ih ⊢
    rw [List.map_cons, List.flatMap_cons, List.length_append, ih]
    rcases a with x | x | r
    · show 1 + _ = (iniL as).length + 1
      omega
    · show 2 + _ = (iniL as).length + 2
      omega
    · have hc := cvr_cat X r
      show (if (cvr X r).category = 2 then [Slot.val (cvr X r), Slot.second] else [Slot.val (cvr X r)]).length + _ = (iniL as).length + 1
      rw [if_neg (by omega)]
      show 1 + _ = _
      omega
def iniP (as : List mV) (nL : Nat) : List (Option mV) := iniL as ++ List.replicate (nL - (iniL as).length) none
theorem iniP_at {as : List mV} {nL i : Nat} {v : mV} (h : (iniP as nL)[i]? = some (some v)) : (iniL as)[i]? = some (some v) := by
  unfold iniP at h
  by_cases hi : i < (iniL as).length
  · rw [List.getElem?_append_left hi] at h
    exact h
  · rw [List.getElem?_append_right (by omega)] at h
    have hm := List.mem_of_getElem? h
    have := List.eq_of_mem_replicate hm
    cases this
theorem iniL_mem {as : List mV} {v : mV} (h : some v ∈ iniL as) : v ∈ as := by
  induction as with
  | nil => cases h
  | cons a as ih =>
    rcases a with x | x | r
    · rcases List.mem_cons.mp (show some v ∈ some (Sum.inl x) :: iniL as from h) with h | h
      · cases h; exact List.mem_cons_self
      · exact List.mem_cons_of_mem _ (ih h)
    · rcases List.mem_cons.mp (show some v ∈ some (Sum.inr (Sum.inl x)) :: none :: iniL as from h) with h | h
      · cases h; exact List.mem_cons_self
      · rcases List.mem_cons.mp h with h | h
        · cases h
        · exact List.mem_cons_of_mem _ (ih h)
    · rcases List.mem_cons.mp (show some v ∈ some (Sum.inr (Sum.inr r)) :: iniL as from h) with h | h
      · cases h; exact List.mem_cons_self
      · exact List.mem_cons_of_mem _ (ih h)
/-- a whole method, out of its walk -/
theorem mp_of_wp {o : mO} {M : mM} {D : Nat → Bool} {d mc ms : Nat} {ph : Bool} {n n' : Nat} {Q : Option mV → mG → Prop} {as : List mV} {G : mG} (hpl : plainName M.1.cls = true) (ho : o.1 = M.1.cls) (hn : (iniL as).length ≤ M.2.2.1)
    (k : WP o M D d mc ms ph n' Q n 0 0 0 (iniP as M.2.2.1) [] G) : MP D d mc ms ph n n' M as G Q := by
  intro l X
  refine Met.ofW (cc := M.2.1) (maxL := M.2.2.1) (ret := M.2.2.2) hpl rfl ?_
  intro p e s m args below meth c s₁ B hml hv
  obtain ⟨rfl, hW, hK, hO⟩ := hv
  have hts := atoms_spec (ws := mw M) B.pre
  have hown : s.vm.findClass M.1.cls = some m.cls := findClass_of_methodNamed B.named
  have hname := (name_of_methodNamed B.named B.method).1
  have hl := lv_entry (as.map (cv X)) (n := M.2.2.1) (by rw [lsI]; exact hn)
  rw [lg_entry_eq]
  generalize (lg_sl (as.map (cv X)) ++ List.replicate (M.2.2.1 - (lg_sl (as.map (cv X))).length) Slot.unset).toArray = ls at hl ⊢
  refine k l X p e (mroom d mc ms) s m _ below meth c s.heap [] ls _ ⟨Nat.le_refl _, Nat.le_refl _, Nat.le_refl _, Nat.le_refl _⟩ ⟨B.exec, B.bytes, hml, by rw [ho]; exact hown, fun w hw => hts w (List.mem_cons_of_mem _ hw), B.returns, B.notSynchronized, hname, hK⟩ hW va_S.rf ⟨?_, hl.1, hl.2.1, fun q hq => hl.2.2 q ?_⟩ (fun _ h => by cases h) (fun v hv => ?_) ?_
  · unfold iniP
    rw [List.length_append, List.length_replicate]
    omega
  · obtain ⟨v, h1, h2⟩ := lpX_mem.mp hq
    have := lpI (X := X) 0 (iniP_at h1)
    rw [Nat.zero_add, ← h2] at this
    exact this
  · obtain ⟨i, hi⟩ := List.getElem?_of_mem hv
    exact hO v (iniL_mem (List.mem_of_getElem? (iniP_at hi)))
  · intro v G' H' locs' pc' ls' q ok fr w sS r
    have hr := B.returns
    have hlk := B.notSynchronized
    have hq : ∀ t : State, t.heap = H' → s.WarmedH t.vm → mQc X D ph n' G Q (as.map (cv X)).toArray s (.returned (v.map (cv X))) t := fun t ht _ => ⟨v, G', rfl, q, ok, fr, by rw [ht]; exact w, sS.F ht⟩
    have hf : ∀ q ∈ locs', xA X q.base := sS.2.2
    unfold mRI at r
    split at r
    next h1 => exact W.vret B.exec B.bytes (by rw [hr]; exact h1) hq hf r hlk
    next x h1 => exact W.lret B.exec B.bytes (by rw [hr]; exact h1) hq hf r hlk
    next ty x h1 h2 => exact W.zret B.exec B.bytes (by rw [hr]; exact h2) r.2 hq hf r.1 hlk
    next => exact r.elim
section CALL
variable {o : mO} {M : mM} {D : Nat → Bool} {d mc ms : Nat} {ph : Bool} {n' : Nat} {Q : Option mV → mG → Prop} {n ce sl pc : Nat} {L L' : List (Option mV)} {S S' : List mV} {G : mG} {len : Nat}
theorem wp_ret {v : Option mV} (hri : mRI M v pc) (hn : n = n') (hce : ce ≤ mc) (hsl : sl ≤ ms) (hq : Q v G) : WP o M D d mc ms ph n' Q n ce sl pc L v.toList G := by
  subst hn
  intro l X p e R s m args below meth c H locs ls Z hR hF hW hS hL hO hLo hZ
  refine W.widen hce hsl ?_
  exact hZ v G H locs pc ls hq (fun x hx => by subst hx; exact hO x List.mem_cons_self) mFr.rf hW hS hri
/-- behind a call -/
theorem wp_back {as rest : List mV} {mc2 ms2 n2 : Nat} {D2 : Nat → Bool} {l : Launch} {X : mX} {p : Program} {e : Env} {R : Room} {s : State} {m : MethodId} {args : Array Value} {below : List Frame} {meth : Method} {c : Code} {H : Heap} {locs : List Loc} {ls : Array Slot} {Z : State → Prop}
    (hR : mFit R d mc ms) (hF : mFix X o.1 M p s m args meth c) (hS : va_S (xA X) s.heap H locs) (hL : mLr X ls M.2.2.1 L) (hO : okS rest) (hLo : okL L) (hZ : mZ M D mc ms ph n' Q G l X p e R s m args below meth c Z) (hD : ∀ k, D k = false → D2 k = false)
    {st0 : List Value} (hr : va_Run p l e R s m args below meth c H locs ce sl mc2 ms2 (F0 m pc ls st0) (rest.map (cv X)) (mQc X D2 ph n2 G (fun v G' => WP o M D d mc ms ph n' Q n2 (ce + mc2) (sl + ms2) (pc + 3) L (v.toList ++ rest) G') (as.map (cv X)).toArray) (xA X)) :
    W p l e R s m args below meth c H locs ce sl Z (F0 m pc ls st0) := by
  intro T hT Xs
  obtain ⟨v, st₀, t, T', Lc, h0, X', hLc, e1, e2, ⟨v', G', hv, hq, hok, hfr, hW', hz, hkp⟩, st⟩ := hr T hT Xs
  have hv : v = v'.map (cv X) := by injection hv
  subst hv
  rw [h0] at hz hkp
  have hfD : mFr D G G' := fun k hk => hfr k (hD k hk)
  obtain ⟨t2, a1, b1⟩ := hq l X p e R s m args below meth c T'.heap (locs ++ Lc) ls Z hR hF (by rw [e1]; exact hW')
    ⟨Nat.le_trans hS.1 (by rw [e1]; exact hz), fun q h1 h2 => by rw [e1, hkp q (Nat.lt_of_lt_of_le h1 hS.1) h2]; exact hS.2.1 q h1 h2, fun q hq' => by
      rcases List.mem_append.mp hq' with h | h
      · exact hS.2.2 q h
      · exact hLc q h⟩ hL (fun w hw => by
      rcases List.mem_append.mp hw with h | h
      · cases v' with
        | none => cases h
        | some x =>
          rcases List.mem_cons.mp (show w ∈ [x] from h) with rfl | h
          · exact hok w rfl
          · cases h
      · exact hO w h) hLo (hZ.to hfD) T' rfl X'
  refine ⟨t2, st t2 ?_, b1⟩
  have e5 : (v'.toList ++ rest).map (cv X) = (v'.map (cv X)).toList ++ rest.map (cv X) := by cases v' <;> rfl
  rw [e5] at a1
  exact a1
theorem rest_cat {X : mX} {rest : List mV} (h : rest.length ≤ 4) : ((rest.map (cv X)).map fun v => v.category).sum ≤ 8 := by
  have : ∀ l : List mV, ((l.map (cv X)).map fun v => v.category).sum ≤ 2 * l.length := by
    intro l
    induction l with
    | nil => simp
    | cons a l ih =>
      simp only [List.map_cons, List.sum_cons, List.length_cons]
      have := lv_cat (cv X a)
      omega
  have := this rest
  omega
theorem mgt_good {w : Cond} (h : w ∈ mgt) : (w.onTables && w.keeps) = true ∨ ∃ ty, w = .arrayClass ty := good_of_word (List.mem_filter.mp h).2
theorem mw_good {M2 : mM} (h : Cond.code M2.1 M2.2.1 M2.2.2.1 M2.2.2.2 ∈ mgt) : GoodIn mgt (mw M2) := by
  intro w hw
  rcases List.mem_cons.mp hw with rfl | hw
  · exact ⟨h, mgt_good h⟩
  · exact ⟨hw, mgt_good hw⟩
/-- what a program sees of a called method's words -/
def okM (M2 : mM) (np : Nat) : Prop := Cond.code M2.1 M2.2.1 M2.2.2.1 M2.2.2.2 ∈ mgt ∧ Cond.initialized M2.1.cls ∈ mgt ∧ M2.1.cls ≠ "java/lang/invoke/MethodHandle" ∧ M2.1.cls ≠ "java/lang/invoke/VarHandle" ∧ (parseMethodDescriptor M2.1.desc).map (fun d => d.parameters.length) = some np ∧ M2.2.2.1 ≤ 21
theorem blind {X : mX} {as : List mV} {ph : Bool} {n : Nat} {G : mG} : FrameBlind (mPc X ph n as G) := fun a U g mk q => ⟨q.1, q.2.1, KW.same (u := U) rfl rfl q.2.2.1, q.2.2.2⟩
theorem preU {X : mX} {s : State} {H : Heap} {locs : List Loc} {as : List mV} {ph : Bool} {n : Nat} {G : mG} (hK : KW X s) (hS : va_S (xA X) s.heap H locs) (hW : Wd X ph n G H) (hO : okS as) : ∀ U : State, U.heap = H → s.WarmedH U.vm → mPc X ph n as G (as.map (cv X)).toArray U :=
  fun U hU hw => ⟨rfl, by rw [hU]; exact hW, hK.at hw hU hS, hO⟩
theorem okS_take {as rest : List mV} (h : okS (as.reverse ++ rest)) : okS as := fun w hw => h w (List.mem_append_left _ (List.mem_reverse.mpr hw))
theorem okS_drop {as rest : List mV} (h : okS (as ++ rest)) : okS rest := fun w hw => h w (List.mem_append_right _ hw)
theorem wp_calls {i : Nat} {M2 : mM} {as rest : List mV} {mc2 ms2 n2 : Nat} {D2 : Nat → Bool} (hd : decode M.2.1 pc = .ok (.invokestatic i, len)) (hi : okI M.2.2.1 (.invokestatic i) len = true) (hm : okM M2 as.length) (hl : Cond.methodLink o.1 i M2.1 ∈ mgt) (hst : Cond.static M2.1 ∈ mgt) (hrest : rest.length ≤ 4) (hce : ce + mc2 ≤ mc) (hsl : sl + ms2 ≤ ms) (hD : ∀ k, D k = false → D2 k = false)
    (K : MP D2 d mc2 ms2 ph n n2 M2 as G (fun v G' => WP o M D (d + 1) mc ms ph n' Q n2 (ce + mc2) (sl + ms2) (pc + len) L (v.toList ++ rest) G')) : WP o M D (d + 1) mc ms ph n' Q n ce sl pc L (as.reverse ++ rest) G := by
  have hl0 := Nat.eq_of_beq_eq_true hi
  subst hl0
  intro l X p e R s m args below meth c H locs ls Z hR hF hW hS hL hO hLo hZ
  obtain ⟨m1, m2, m3, m4, m5, m6⟩ := hm
  have hts := hF.2.2.2.2.1
  have hKW := hF.2.2.2.2.2.2.2.2
  refine wp_back (mc2 := mc2) (ms2 := ms2) (n2 := n2) (D2 := D2) (as := as) hR hF hS hL (okS_drop hO) hLo hZ hD ?_
  exact va_runS (H := H) (locs := locs) (cells := ce) (slots := sl) (g := F0 m pc ls ((as.reverse ++ rest).map (cv X))) (As := as.map (cv X)) (rest := rest.map (cv X)) (below := below) (e := e) ⟨hF.1, hF.2.1, hF.2.2.1, hF.2.2.2.1, hts⟩ (K l X)
    ⟨callB_of as.length hts (mw_good m1) rfl rfl rfl (hts _ m2) (hts _ hl) ⟨m3, m4, m5⟩ ⟨hR.1, by have := hR.2.1; show 8 + (M2.2.2.1 + 11) + 40 * d ≤ R.locals; omega⟩, hts _ hst⟩
    ⟨blind, preU hKW hS hW (okS_take hO)⟩ rfl (by simp) hL.2.1 (by simp [List.map_reverse]) (lv_room (rest_cat hrest)) hd ⟨Nat.le_trans hce hR.2.2.1, Nat.le_trans hsl hR.2.2.2⟩
theorem wp_callsN {i : Nat} {host : String} {M2 : mM} {as rest : List mV} {mc2 ms2 n2 : Nat} {D2 : Nat → Bool} (hd : decode M.2.1 pc = .ok (.invokestatic i, len)) (hi : okI M.2.2.1 (.invokestatic i) len = true) (hm : okM M2 as.length) (hl : (o.1, i, M2.1, host) ∈ mnestL) (hst : Cond.static M2.1 ∈ mgt) (hrest : rest.length ≤ 4) (hce : ce + mc2 ≤ mc) (hsl : sl + ms2 ≤ ms) (hD : ∀ k, D k = false → D2 k = false)
    (K : MP D2 d mc2 ms2 ph n n2 M2 as G (fun v G' => WP o M D (d + 1) mc ms ph n' Q n2 (ce + mc2) (sl + ms2) (pc + len) L (v.toList ++ rest) G')) : WP o M D (d + 1) mc ms ph n' Q n ce sl pc L (as.reverse ++ rest) G := by
  have hl0 := Nat.eq_of_beq_eq_true hi
  subst hl0
  intro l X p e R s m args below meth c H locs ls Z hR hF hW hS hL hO hLo hZ
  obtain ⟨m1, m2, m3, m4, m5, m6⟩ := hm
  have hts := hF.2.2.2.2.1
  have hKW := hF.2.2.2.2.2.2.2.2
  refine wp_back (mc2 := mc2) (ms2 := ms2) (n2 := n2) (D2 := D2) (as := as) hR hF hS hL (okS_drop hO) hLo hZ hD ?_
  exact va_runSN (H := H) (locs := locs) (cells := ce) (slots := sl) (g := F0 m pc ls ((as.reverse ++ rest).map (cv X))) (As := as.map (cv X)) (rest := rest.map (cv X)) (below := below) (e := e) ⟨hF.1, hF.2.1, hF.2.2.1, hF.2.2.2.1, hts⟩ (K l X)
    ⟨va_cnB as.length hts (mw_good m1) rfl rfl rfl (hKW.2.1 _ hl) (hts _ m2) ⟨m3, m4, m5⟩ ⟨hR.1, by have := hR.2.1; show 8 + (M2.2.2.1 + 11) + 40 * d ≤ R.locals; omega⟩, hts _ hst, trivial⟩
    ⟨blind, preU hKW hS hW (okS_take hO)⟩ rfl (by simp) hL.2.1 (by simp [List.map_reverse]) (lv_room (rest_cat hrest)) hd ⟨Nat.le_trans hce hR.2.2.1, Nat.le_trans hsl hR.2.2.2⟩
theorem recvk {X : mX} {s : State} {H : Heap} {k ci : Nat} {C : String} {T : u_T} {N : Nat} (hK : KW X s) (hW : Wd X ph n G H) (hk : k < n) (hs : (shf k).1 = ci) (hci : ci < 20) (hc : vwCl[ci]? = some (C, T, N)) : ∃ cellB : Cell, H[xB X + k]? = some cellB ∧ cellB.vm.isStatics = false ∧ s.vm.findClass C = some cellB.cls := by
  have hw := wl_get (X := X) (g := gx ph G) hk
  have hsk : shf k = (ci, (shf k).2) := by rw [← hs]
  rw [hsk, ent_obj hci] at hw
  exact va_recv hK.1 hW.2.1 hc hw
theorem wp_callv {i k ci : Nat} {C : String} {T : u_T} {N : Nat} {M2 : mM} {as rest : List mV} {mc2 ms2 n2 : Nat} {D2 : Nat → Bool} (hd : decode M.2.1 pc = .ok (.invokevirtual i, len)) (hi : okI M.2.2.1 (.invokevirtual i) len = true) (hm : okM M2 as.length) (hl : Cond.methodLink o.1 i M2.1 ∈ mgt) (hin : Cond.instanceMethod M2.1 ∈ mgt) (hse : Cond.selects M2.1.cls M2.1 M2.1 ∈ mgt) (hk : k < n) (hs : (shf k).1 = ci) (hci : ci < 20) (hc : vwCl[ci]? = some (M2.1.cls, T, N)) (hrest : rest.length ≤ 4) (hce : ce + mc2 ≤ mc) (hsl : sl + ms2 ≤ ms) (hD : ∀ k, D k = false → D2 k = false)
    (K : MP D2 d mc2 ms2 ph n n2 M2 (mR (k + 5) :: as) G (fun v G' => WP o M D (d + 1) mc ms ph n' Q n2 (ce + mc2) (sl + ms2) (pc + len) L (v.toList ++ rest) G')) : WP o M D (d + 1) mc ms ph n' Q n ce sl pc L ((mR (k + 5) :: as).reverse ++ rest) G := by
  have hl0 := Nat.eq_of_beq_eq_true hi
  subst hl0
  intro l X p e R s m args below meth c H locs ls Z hR hF hW hS hL hO hLo hZ
  obtain ⟨m1, m2, m3, m4, m5, m6⟩ := hm
  have hts := hF.2.2.2.2.1
  have hKW := hF.2.2.2.2.2.2.2.2
  refine wp_back (mc2 := mc2) (ms2 := ms2) (n2 := n2) (D2 := D2) (as := mR (k + 5) :: as) hR hF hS hL (okS_drop hO) hLo hZ hD ?_
  exact va_runV (H := H) (locs := locs) (cells := ce) (slots := sl) (g := F0 m pc ls (((mR (k + 5) :: as).reverse ++ rest).map (cv X))) (b := xB X + k) (C := M2.1.cls) (As := as.map (cv X)) (rest := rest.map (cv X)) (below := below) (e := e) ⟨hF.1, hF.2.1, hF.2.2.1, hF.2.2.2.1, hts⟩ (K l X)
    ⟨callB_of as.length hts (mw_good m1) rfl rfl rfl (hts _ m2) (hts _ hl) ⟨m3, m4, m5⟩ ⟨hR.1, by have := hR.2.1; show 8 + (M2.2.2.1 + 11) + 40 * d ≤ R.locals; omega⟩, hts _ hin, hts _ hse⟩
    ⟨blind, recvk hKW hW hk hs hci hc, preU hKW hS hW (okS_take hO)⟩ rfl (by simp) hL.2.1 (by simp [List.map_reverse, cv, cvr]) (lv_room (rest_cat hrest)) hd ⟨Nat.le_trans hce hR.2.2.1, Nat.le_trans hsl hR.2.2.2⟩
/-- a call on the text constant -/
theorem wp_callt {i : Nat} {M2 : mM} {as rest : List mV} {mc2 ms2 n2 : Nat} {D2 : Nat → Bool} (hd : decode M.2.1 pc = .ok (.invokevirtual i, len)) (hi : okI M.2.2.1 (.invokevirtual i) len = true) (hm : okM M2 as.length) (hl : Cond.methodLink o.1 i M2.1 ∈ mgt) (hin : Cond.instanceMethod M2.1 ∈ mgt) (hse : Cond.selects M2.1.cls M2.1 M2.1 ∈ mgt) (hC : M2.1.cls = "java/lang/String") (hrest : rest.length ≤ 4) (hce : ce + mc2 ≤ mc) (hsl : sl + ms2 ≤ ms) (hD : ∀ k, D k = false → D2 k = false)
    (K : MP D2 d mc2 ms2 ph n n2 M2 (mR 2 :: as) G (fun v G' => WP o M D (d + 1) mc ms ph n' Q n2 (ce + mc2) (sl + ms2) (pc + len) L (v.toList ++ rest) G')) : WP o M D (d + 1) mc ms ph n' Q n ce sl pc L ((mR 2 :: as).reverse ++ rest) G := by
  have hl0 := Nat.eq_of_beq_eq_true hi
  subst hl0
  intro l X p e R s m args below meth c H locs ls Z hR hF hW hS hL hO hLo hZ
  obtain ⟨m1, m2, m3, m4, m5, m6⟩ := hm
  have hts := hF.2.2.2.2.1
  have hKW := hF.2.2.2.2.2.2.2.2
  refine wp_back (mc2 := mc2) (ms2 := ms2) (n2 := n2) (D2 := D2) (as := mR 2 :: as) hR hF hS hL (okS_drop hO) hLo hZ hD ?_
  exact va_runV (H := H) (locs := locs) (cells := ce) (slots := sl) (g := F0 m pc ls (((mR 2 :: as).reverse ++ rest).map (cv X))) (b := X.2.2.2.2.1) (C := M2.1.cls) (As := as.map (cv X)) (rest := rest.map (cv X)) (below := below) (e := e) ⟨hF.1, hF.2.1, hF.2.2.1, hF.2.2.2.1, hts⟩ (K l X)
    ⟨callB_of as.length hts (mw_good m1) rfl rfl rfl (hts _ m2) (hts _ hl) ⟨m3, m4, m5⟩ ⟨hR.1, by have := hR.2.1; show 8 + (M2.2.2.1 + 11) + 40 * d ≤ R.locals; omega⟩, hts _ hin, hts _ hse⟩
    ⟨blind, by rw [hC]; exact vk_recv (i := 0) hKW.2.2.2.2.2.1 (by omega) hS, preU hKW hS hW (okS_take hO)⟩ rfl (by simp) hL.2.1 (by simp [List.map_reverse, cv, cvr]) (lv_room (rest_cat hrest)) hd ⟨Nat.le_trans hce hR.2.2.1, Nat.le_trans hsl hR.2.2.2⟩
theorem wp_calli {i k : Nat} {M2 : mM} {as rest : List mV} {mc2 ms2 n2 : Nat} {D2 : Nat → Bool} (hd : decode M.2.1 pc = .ok (.invokespecial i, len)) (hi : okI M.2.2.1 (.invokespecial i) len = true) (hm : okM M2 as.length) (hl : Cond.methodLink o.1 i M2.1 ∈ mgt) (hin : Cond.instanceMethod M2.1 ∈ mgt) (hnm : M2.1.name = "<init>") (hrt : M2.2.2.2 = none) (hrest : rest.length ≤ 4) (hce : ce + mc2 ≤ mc) (hsl : sl + ms2 ≤ ms) (hD : ∀ k, D k = false → D2 k = false)
    (K : MP D2 d mc2 ms2 ph n n2 M2 (mR (k + 5) :: as) G (fun v G' => WP o M D (d + 1) mc ms ph n' Q n2 (ce + mc2) (sl + ms2) (pc + len) L (v.toList ++ rest) G')) : WP o M D (d + 1) mc ms ph n' Q n ce sl pc L ((mR (k + 5) :: as).reverse ++ rest) G := by
  have hl0 := Nat.eq_of_beq_eq_true hi
  subst hl0
  intro l X p e R s m args below meth c H locs ls Z hR hF hW hS hL hO hLo hZ
  obtain ⟨m1, m2, m3, m4, m5, m6⟩ := hm
  have hts := hF.2.2.2.2.1
  have hKW := hF.2.2.2.2.2.2.2.2
  refine wp_back (mc2 := mc2) (ms2 := ms2) (n2 := n2) (D2 := D2) (as := mR (k + 5) :: as) hR hF hS hL (okS_drop hO) hLo hZ hD ?_
  rw [hrt] at m1
  exact va_runI (H := H) (locs := locs) (cells := ce) (slots := sl) (g := F0 m pc ls (((mR (k + 5) :: as).reverse ++ rest).map (cv X))) (b := xB X + k) (As := as.map (cv X)) (rest := rest.map (cv X)) (below := below) (e := e) ⟨hF.1, hF.2.1, hF.2.2.1, hF.2.2.2.1, hts⟩ (K l X)
    ⟨callB_of (bytes := M2.2.1) (maxL := M2.2.2.1) (ret := none) as.length hts (mw_good (by rw [hrt]; exact m1)) (by unfold mw; rw [hrt]) rfl rfl (hts _ m2) (hts _ hl) ⟨m3, m4, m5⟩ ⟨hR.1, by have := hR.2.1; show 8 + (M2.2.2.1 + 11) + 40 * d ≤ R.locals; omega⟩, hnm, hts _ hin⟩
    ⟨blind, preU hKW hS hW (okS_take hO)⟩ rfl (by simp) hL.2.1 (by simp [List.map_reverse, cv, cvr]) (lv_room (rest_cat hrest)) hd ⟨Nat.le_trans hce hR.2.2.1, Nat.le_trans hsl hR.2.2.2⟩
theorem wp_calliN {i k : Nat} {host : String} {M2 : mM} {as rest : List mV} {mc2 ms2 n2 : Nat} {D2 : Nat → Bool} (hd : decode M.2.1 pc = .ok (.invokespecial i, len)) (hi : okI M.2.2.1 (.invokespecial i) len = true) (hm : okM M2 as.length) (hl : (o.1, i, M2.1, host) ∈ mnestL) (hin : Cond.instanceMethod M2.1 ∈ mgt) (hnm : M2.1.name = "<init>") (hrt : M2.2.2.2 = none) (hrest : rest.length ≤ 4) (hce : ce + mc2 ≤ mc) (hsl : sl + ms2 ≤ ms) (hD : ∀ k, D k = false → D2 k = false)
    (K : MP D2 d mc2 ms2 ph n n2 M2 (mR (k + 5) :: as) G (fun v G' => WP o M D (d + 1) mc ms ph n' Q n2 (ce + mc2) (sl + ms2) (pc + len) L (v.toList ++ rest) G')) : WP o M D (d + 1) mc ms ph n' Q n ce sl pc L ((mR (k + 5) :: as).reverse ++ rest) G := by
  have hl0 := Nat.eq_of_beq_eq_true hi
  subst hl0
  intro l X p e R s m args below meth c H locs ls Z hR hF hW hS hL hO hLo hZ
  obtain ⟨m1, m2, m3, m4, m5, m6⟩ := hm
  have hts := hF.2.2.2.2.1
  have hKW := hF.2.2.2.2.2.2.2.2
  refine wp_back (mc2 := mc2) (ms2 := ms2) (n2 := n2) (D2 := D2) (as := mR (k + 5) :: as) hR hF hS hL (okS_drop hO) hLo hZ hD ?_
  rw [hrt] at m1
  exact va_runIN (H := H) (locs := locs) (cells := ce) (slots := sl) (g := F0 m pc ls (((mR (k + 5) :: as).reverse ++ rest).map (cv X))) (b := xB X + k) (As := as.map (cv X)) (rest := rest.map (cv X)) (below := below) (e := e) ⟨hF.1, hF.2.1, hF.2.2.1, hF.2.2.2.1, hts⟩ (K l X)
    ⟨va_cnB (bytes := M2.2.1) (maxL := M2.2.2.1) (ret := none) as.length hts (mw_good (by rw [hrt]; exact m1)) (by unfold mw; rw [hrt]) rfl rfl (hKW.2.1 _ hl) (hts _ m2) ⟨m3, m4, m5⟩ ⟨hR.1, by have := hR.2.1; show 8 + (M2.2.2.1 + 11) + 40 * d ≤ R.locals; omega⟩, hnm, hts _ hin⟩
    ⟨blind, preU hKW hS hW (okS_take hO)⟩ rfl (by simp) hL.2.1 (by simp [List.map_reverse, cv, cvr]) (lv_room (rest_cat hrest)) hd ⟨Nat.le_trans hce hR.2.2.1, Nat.le_trans hsl hR.2.2.2⟩
theorem wp_obj {i k : Nat} (hd : decode M.2.1 pc = .ok (.invokespecial i, len)) (hi : okI M.2.2.1 (.invokespecial i) len = true) (hl : Cond.methodLink o.1 i objectInit ∈ mgt) (hin : Cond.instanceMethod objectInit ∈ mgt) (hco : Cond.code objectInit ⟨#[0xb1]⟩ 1 none ∈ mgt) (hrest : S.length ≤ 4)
    (K : WP o M D (d + 1) mc ms ph n' Q n ce sl (pc + len) L S G) : WP o M D (d + 1) mc ms ph n' Q n ce sl pc L (mR (k + 5) :: S) G := by
  have hl0 := Nat.eq_of_beq_eq_true hi
  subst hl0
  intro l X p e R s m args below meth c H locs ls Z hR hF hW hS hL hO hLo hZ
  have hts := hF.2.2.2.2.1
  refine W.objInit hF.1 hF.2.1 hF.2.2.2.1 (hts _ hl) (hts _ hin) (hts _ hco) rfl (by rw [hF.2.2.1]; exact hL.2.1) (a := xB X + k) (rest := S.map (cv X)) rfl hd (by have := hR.1; omega) ?_ (K l X p e R s m args below meth c H locs ls Z hR hF hW hS hL hO.t hLo hZ)
  have h1 := lv_room (m := m) (pc := pc) (ls := ls) (rest := (mR (k + 5) :: S).map (cv X)) (rest_cat (X := X) hrest)
  have h2 := hR.2.1
  omega
end CALL
