/-! ===== cells read and written ===== -/
def gs (G : mG) (k j : Nat) (x : Int) : mG := fun a => if a = k then (fun i => if i = j then x else G k i) else G a
theorem gs_ne {G : mG} {k j a : Nat} {x : Int} (h : a ≠ k) : gs G k j x a = G a := by unfold gs; rw [if_neg h]
theorem gs_at (G : mG) (k j : Nat) (x : Int) : gs G k j x k j = x := by unfold gs; rw [if_pos rfl, if_pos rfl]
theorem gs_at_ne {G : mG} {k j i : Nat} {x : Int} (h : i ≠ j) : gs G k j x k i = G k i := by unfold gs; rw [if_pos rfl, if_neg h]
theorem gs_self (G : mG) (k j : Nat) (x : Int) : gs G k j x k = fun i => if i = j then x else G k i := by unfold gs; rw [if_pos rfl]
/-- a cell without references that never change -/
def aR (k : Nat) : Bool := match fnd crfT k with
  | none => true
  | some _ => false
theorem aR_crf {k : Nat} (h : aR k = true) (j : Nat) : crf k j = 0 := by
  unfold aR at h
  unfold crf
  split at h
  next hh => rw [hh]
  next => cases h
theorem gx_0 {ph : Bool} {G : mG} {k j : Nat} (h : ph = true → crf k j = 0) : gx ph G k j = G k j := by
  unfold gx
  cases ph with
  | false => rfl
  | true => rw [h rfl]
theorem gx_aR {ph : Bool} {G : mG} {k : Nat} (h : aR k = true) : gx ph G k = G k := by
  funext j
  exact gx_0 (fun _ => aR_crf h j)
theorem gx_gs {ph : Bool} {G : mG} {k j : Nat} {x : Int} (h : ph = true → crf k j = 0) : gx ph (gs G k j x) = gs (gx ph G) k j x := by
  funext a i
  by_cases ha : a = k
  · subst ha
    by_cases hi : i = j
    · subst hi
      rw [gx_0 h, gs_at, gs_at]
    · rw [gs_at_ne hi]
      unfold gx
      rw [gs_at_ne hi]
  · rw [gs_ne ha]
    unfold gx
    rw [gs_ne ha]
theorem gs_fr {D : Nat → Bool} {G : mG} {k j : Nat} {x : Int} (h : D k = true) : mFr D G (gs G k j x) := fun a ha => gs_ne (fun q => by rw [q, h] at ha; cases ha)
/-- what is read out of place j of cell k, of class ci -/
def rdv (ph : Bool) (ci j : Nat) (G : mG) (k : Nat) : mV := match ph, crf k j with
  | true, c + 1 => (match mfT ci j with
    | .int => mI ((c + 1 : Nat) : Int)
    | .boolean => mI ((c + 1 : Nat) : Int)
    | .long => mJ ((c + 1 : Nat) : Int)
    | _ => mR (c + 1))
  | _, _ => (match mfT ci j with
    | .int => mI (G k j)
    | .boolean => mI (G k j)
    | .long => mJ (G k j)
    | _ => mR (G k j).toNat)
theorem rdv_cv (X : mX) (ph : Bool) (ci j : Nat) (G : mG) (k : Nat) : cv X (rdv ph ci j G k) = fvv X (mfT ci j) (gx ph G k j) := by
  unfold rdv gx fvv
  generalize mfT ci j = ty
  generalize crf k j = c
  cases ph <;> cases c <;> cases ty <;> rfl
theorem rdv_ok {ph : Bool} {ci j : Nat} {G : mG} {k : Nat} (h : okF (mfT ci j) (gx ph G k j)) : okV (rdv ph ci j G k) := by
  unfold rdv
  unfold gx okF at h
  revert h
  generalize mfT ci j = ty
  generalize crf k j = c
  intro h
  cases ph <;> cases c <;> cases ty <;> first | exact h | trivial
theorem ent_obj {X : mX} {ci sz : Nat} {g : Nat → Int} (h : ci < 20) : ent X (ci, sz) g = .inr (ci, (List.range sz).map (fun j => fvv X (mfT ci j) (g j))) := by
  unfold ent
  split <;> first | omega | rfl
theorem okC_obj {ci j : Nat} {x : Int} (h : ci < 20) : okC ci j x = okF (mfT ci j) x := by
  unfold okC
  split <;> first | omega | rfl
/-- the field named by a link of the class own: class ci, place j -/
def okFl (own : String) (i ci j : Nat) : Prop := ∃ C T N, vwCl[ci]? = some (C, T, N) ∧ j < N ∧ Cond.fieldLink own i (T j).1 (T j).2.1 (T j).2.2.1 ∈ mgt ∧ ((T j).2.2.2 = true → (T j).1 = own)
def okCls : Prop := ∀ ci C T N, vwCl[ci]? = some (C, T, N) → (∀ w ∈ u_ws C T N, w ∈ mgt) ∧ (∀ k, k < N → parseFieldDescriptor (T k).2.2.1 = some (mfT ci k)) ∧ (∀ a, a < N → ∀ b, b < N → a ≠ b → (T a).2.1 ≠ (T b).2.1) ∧ Cond.instantiable C N ∈ mgt ∧ Cond.initialized C ∈ mgt
/-- a value fits a field's type: what its place holds then -/
def wrv (ty : FieldType) (v : mV) : Option Int := match ty, v with
  | .int, .inl x => some x
  | .boolean, .inl x => some x
  | .long, .inr (.inl x) => some x
  | .object _, .inr (.inr r) => some (r : Int)
  | .array _, .inr (.inr r) => some (r : Int)
  | _, _ => none
theorem wrv_cv {X : mX} {ty : FieldType} {v : mV} {x : Int} (h : wrv ty v = some x) : cv X v = fvv X ty x := by
  unfold wrv at h
  cases ty <;> rcases v with a | a | a <;> first | (injection h with h; subst h; rfl) | (exfalso; revert h; simp)
theorem wrv_ok {ty : FieldType} {v : mV} {x : Int} (h : wrv ty v = some x) (hv : okV v) : okF ty x := by
  unfold wrv at h
  cases ty <;> rcases v with a | a | a <;> first | (injection h with h; subst h; exact hv) | trivial | (exfalso; revert h; simp; done)
theorem wrv_fit {X : mX} {ty : FieldType} {v : mV} {x : Int} (h : wrv ty v = some x) (hb : ty = .boolean → x = 0 ∨ x = 1) : narrow ty (cv X v) = cv X v ∧ fits ty (cv X v) = true := by
  unfold wrv at h
  cases ty <;> rcases v with a | a | a <;> first
    | (exfalso; revert h; simp; done)
    | (injection h with h
       subst h
       first
         | exact ⟨rfl, rfl⟩
         | (rcases hb rfl with rfl | rfl
            · exact (show narrow .boolean (.int (Int32.ofInt 0)) = .int (Int32.ofInt 0) ∧ fits .boolean (.int (Int32.ofInt 0)) = true from by decide)
            · exact (show narrow .boolean (.int (Int32.ofInt 1)) = .int (Int32.ofInt 1) ∧ fits .boolean (.int (Int32.ofInt 1)) = true from by decide))
         | (show narrow _ (cvr X a) = cvr X a ∧ fits _ (cvr X a) = true
            rcases cvr_cases X a with e | ⟨q, e⟩ <;> rw [e] <;> exact ⟨rfl, rfl⟩))
theorem Wd_write {X : mX} {ph : Bool} {n k j : Nat} {G : mG} {x : Int} {H H1 : Heap} {e : va_E} (hW : Wd X ph n G H) (hk : k < n) (hc : ph = true → crf k j = 0) (hok : j < (shf k).2 → okC (shf k).1 j x)
    (hz : H1.size = H.size) (hP : va_P X.1 vwCl ((wl X n (gx ph G)).set k (xB X + k, e)) H1) (he : ent X (shf k) (gs (gx ph G) k j x k) = e) : Wd X ph n (gs G k j x) H1 := by
  obtain ⟨w1, w2, w3, w4, w5⟩ := hW
  refine ⟨hz.trans w1, ?_, ?_, ⟨w4.1, fun a h1 h2 i => ?_⟩, ?_⟩
  · rw [gx_gs hc, ← wl_set (g := gx ph G) he (fun i hi => gs_ne hi) hk]
    exact hP
  · intro a ha i hi
    rw [gx_gs hc]
    by_cases hak : a = k
    · subst hak
      by_cases hij : i = j
      · subst hij
        rw [gs_at]
        exact hok hi
      · rw [gs_at_ne hij]
        exact w3 a ha i hi
    · rw [gs_ne hak]
      exact w3 a ha i hi
  · rw [gs_ne (by omega)]
    exact w4.2 a h1 h2 i
  · have := w4.1
    refine ⟨?_, fun i hi => ?_⟩
    · rw [gs_ne (by omega)]; exact w5.1
    · rw [gs_ne (by omega)]; exact w5.2 i hi
theorem ix_cl {i : Int} (h : r32 i) : (Int32.ofInt i).toNatClampNeg = i.toNat := by
  show (Int32.ofInt i).toInt.toNat = i.toNat
  rw [i32_toInt h]
theorem ix_in {i : Int} {n : Nat} (h : r32 i) (h0 : 0 ≤ i) (h1 : i < n) : vp_in (Int32.ofInt i) n := by
  rw [vp_in_iff, i32_toInt h]
  exact ⟨h0, h1⟩
section CEL
variable {o : mO} {M : mM} {D : Nat → Bool} {d mc ms : Nat} {ph : Bool} {n' : Nat} {Q : Option mV → mG → Prop} {n ce sl pc : Nat} {L L' : List (Option mV)} {S S' : List mV} {G : mG} {len : Nat}
theorem wp_getf {i ci j k : Nat} (hC : okCls) (hd : decode M.2.1 pc = .ok (.getfield i, len)) (hi : okI M.2.2.1 (.getfield i) len = true) (hf : okFl o.1 i ci j) (hk : k < n) (hs : (shf k).1 = ci) (hci : ci < 20) (hj : j < (shf k).2) (K : WP o M D d mc ms ph n' Q n ce sl (pc + len) L (rdv ph ci j G k :: S) G) : WP o M D d mc ms ph n' Q n ce sl pc L (mR (k + 5) :: S) G := by
  have hl := Nat.eq_of_beq_eq_true hi
  subst hl
  intro l X p e R s m args below meth c H locs ls Z hR hF hW hS hL hO hLo hZ
  obtain ⟨C, T, N, h1, h2, h3, -⟩ := hf
  obtain ⟨c1, c2, c3, c4, c5⟩ := hC ci C T N h1
  have hw := wl_get (X := X) (g := gx ph G) hk
  have he : ent X (shf k) (gx ph G k) = .inr (ci, (List.range (shf k).2).map (fun j => fvv X (mfT ci j) (gx ph G k j))) := by
    have : shf k = (ci, (shf k).2) := by rw [← hs]
    rw [this]
    exact ent_obj hci
  rw [he] at hw
  have hts := hF.2.2.2.2.1
  refine va_get (C := C) (T := T) (N := N) hF.1 hF.2.1 hts c1 hF.2.2.2.1 hF.2.2.2.2.2.2.2.2.1 hW.2.1 k hw h1 j h2 (hts _ h3) (fun _ h => h) (v := cv X (rdv ph ci j G k)) ?_ hd (K l X p e R s m args below meth c H locs ls Z hR hF hW hS hL (hO.t.c (rdv_ok ?_)) hLo hZ)
  · rw [List.getElem?_map, List.getElem?_range hj, rdv_cv]
    rfl
  · have := hW.2.2.1 k hk j hj
    rw [hs, okC_obj hci] at this
    exact this
theorem wp_putf {i ci j k : Nat} {v : mV} {x : Int} (hC : okCls) (hd : decode M.2.1 pc = .ok (.putfield i, len)) (hi : okI M.2.2.1 (.putfield i) len = true) (hf : okFl o.1 i ci j) (hk : k < n) (hs : (shf k).1 = ci) (hci : ci < 20) (hj : j < (shf k).2) (hv : wrv (mfT ci j) v = some x) (hb : mfT ci j = .boolean → x = 0 ∨ x = 1) (hc : ph = true → crf k j = 0) (hD : D k = true) (hin : ph = false → M.1.name = "<init>") (hfi : ph = true → ∀ C T N, vwCl[ci]? = some (C, T, N) → (T j).2.2.2 = false)
    (K : WP o M D d mc ms ph n' Q n ce sl (pc + len) L S (gs G k j x)) : WP o M D d mc ms ph n' Q n ce sl pc L (v :: mR (k + 5) :: S) G := by
  have hl := Nat.eq_of_beq_eq_true hi
  subst hl
  intro l X p e R s m args below meth c H locs ls Z hR hF hW hS hL hO hLo hZ
  obtain ⟨C, T, N, h1, h2, h3, h4⟩ := hf
  obtain ⟨c1, c2, c3, c4, c5⟩ := hC ci C T N h1
  have hts := hF.2.2.2.2.1
  have hown := hF.2.2.2.1
  have hK := hF.2.2.2.2.2.2.2.2.1
  have hw := wl_get (X := X) (g := gx ph G) hk
  have hsk : shf k = (ci, (shf k).2) := by rw [← hs]
  have he : ent X (shf k) (gx ph G k) = .inr (ci, (List.range (shf k).2).map (fun j => fvv X (mfT ci j) (gx ph G k j))) := by
    rw [hsk]
    exact ent_obj hci
  rw [he] at hw
  have hDw := wl_D X n (gx ph G)
  obtain ⟨hn, hfit⟩ := wrv_fit (X := X) hv hb
  have hd0 := c2 j h2
  have hap := va_apart (own := o.1) hts c1 (mfT ci) c2 c3 hK h1
  have hP := hW.2.1
  obtain ⟨r, g1, cell, q1, q2, q3, q4⟩ := hP k _ hw
  have hr : r = (C, T, N) := Option.some.inj (g1.symm.trans h1)
  subst hr
  obtain ⟨hSl, hfc, kC, hkC, hkind⟩ := hK.1 ci _ h1
  obtain ⟨cf, kf, fi, f, hfi2, hsl⟩ := hSl j h2
  have hst := (u_facts hfc hkC (u_lays hts c1 h2) hfi2).1
  have hfs : j < ((List.range (shf k).2).map (fun j => fvv X (mfT ci j) (gx ph G k j))).length := by simp; exact hj
  have hent : ent X (shf k) (gs (gx ph G) k j x k) = .inr (ci, ((List.range (shf k).2).map (fun j => fvv X (mfT ci j) (gx ph G k j))).set j (cv X v)) := by
    rw [hsk, ent_obj hci]
    congr 2
    apply List.ext_getElem?
    intro a
    by_cases ha : a < (shf k).2
    · rw [List.getElem?_map, List.getElem?_range ha]
      by_cases haj : a = j
      · subst haj
        rw [List.getElem?_set_self (by simp; exact ha)]
        show some (fvv X (mfT ci a) (gs (gx ph G) k a x k a)) = _
        rw [gs_at, wrv_cv hv]
      · rw [List.getElem?_set_ne (Ne.symm haj), List.getElem?_map, List.getElem?_range ha]
        show some (fvv X (mfT ci a) (gs (gx ph G) k j x k a)) = some (fvv X (mfT ci a) (gx ph G k a))
        rw [gs_at_ne haj]
    · rw [List.getElem?_eq_none (by simp; omega), List.getElem?_eq_none (by simp; omega)]
  have hokx : j < (shf k).2 → okC (shf k).1 j x := fun _ => by
    rw [hs, okC_obj hci]
    exact wrv_ok hv hO.h
  have fin : ∀ (H1 : Heap) (sl0 : Nat), H1[xB X + k]? = some (cell.setSlot ((X.1.2 ci) j) (cv X v)) → H1.size = H.size → (∀ q, q ≠ xB X + k → H1[q]? = H[q]?) → W p l e R s m args below meth c H1 (locs ++ [⟨xB X + k, sl0⟩]) ce sl Z (F0 m (pc + 3) ls (S.map (cv X))) := by
    intro H1 sl0 e1 e2 e3
    have hP1 := hP.set hDw hw (e := .inr (ci, ((List.range (shf k).2).map (fun j => fvv X (mfT ci j) (gx ph G k j))).set j (cv X v))) ⟨_, h1, t_OB.to (V := updV (vp_V ((List.range (shf k).2).map (fun j => fvv X (mfT ci j) (gx ph G k j)))) j (cv X v)) ⟨_, e1, q2, q3, t_set q4 hap h2 (cv X v)⟩ (fun a _ => vp_updV_set hfs (cv X v) a)⟩ e3
    exact K l X p e R s m args below meth c H1 _ ls Z hR hF (Wd_write hW hk hc hokx e2 hP1 hent) (hS.put e2 e3 (Nat.le_add_right _ _)) hL hO.t.t hLo (hZ.to (gs_fr hD))
  cases hfl : (T j).2.2.2 with
  | false =>
    have hlay := hts _ (c1 _ (u_in_lay h2))
    unfold u_lay at hlay
    rw [if_neg (by rw [hfl]; decide)] at hlay
    have h6 := u_store hfc hkC hkind hlay hfi2 hd0 hn hfit
    refine W.putK hF.1 hF.2.1 (f := f) ⟨hown, hts _ h3, ⟨_, _, _, hfi2⟩, hst⟩ (by rw [q2]; exact h6) q1 q3 (by rw [hsl]; exact k2_hasslot (q4 j h2)) rfl rfl hd fun H' e1 e2 e3 => ?_
    rw [hsl] at e1 ⊢
    exact fin H' _ e1 e2 e3
  | true =>
    have hph : ph = false := by
      cases ph with
      | false => rfl
      | true => rw [hfi rfl C T N h1] at hfl; cases hfl
    have hlay := hts _ (c1 _ (u_in_lay h2))
    unfold u_lay at hlay
    rw [if_pos hfl] at hlay
    have hcf : m.cls = cf := by
      obtain ⟨_, _, c', _, _, _, -, -, hf', -, -, -, hown2, -⟩ := Cond.laysFinal_spec hlay
      have e1 : c' = cf := by have := hfi2.symm.trans hf'; simp at this; exact this.1.symm
      rw [h4 hfl] at hown2
      rw [← e1]; exact Option.some.inj (hown.symm.trans hown2)
    have h6 := u_fits hfc hkC hkind (Or.inr hlay) hfi2 hd0 hn hfit
    refine W.putFinK hF.1 hF.2.1 hown (hts _ h3) hfi2 hst hcf (by rw [hF.2.2.2.2.2.2.2.1]; exact hin hph) (by rw [q2]; exact h6) q1 q3 (by rw [hsl]; exact k2_hasslot (q4 j h2)) rfl rfl hd fun H' e1 e2 e3 => ?_
    rw [hsl] at e1 ⊢
    exact fin H' _ e1 e2 e3
end CEL
