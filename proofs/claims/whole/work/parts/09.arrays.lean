/-! ===== arrays, new cells, the script, the text constant ===== -/
theorem ent_20 (X : mX) (sz : Nat) (g : Nat → Int) : ent X (20, sz) g = .inl (X.2.1 0, sz, .inl (fun j => Int32.ofInt (g j))) := rfl
theorem ent_21 (X : mX) (sz : Nat) (g : Nat → Int) : ent X (21, sz) g = .inl (X.2.1 1, sz, .inl (fun j => Int32.ofInt (g j))) := rfl
theorem ent_22 (X : mX) (sz : Nat) (g : Nat → Int) : ent X (22, sz) g = .inl (X.2.1 2, sz, .inl (fun j => Int32.ofInt (g j))) := rfl
theorem ent_23 (X : mX) (sz : Nat) (g : Nat → Int) : ent X (23, sz) g = .inl (X.2.1 3, sz, .inr (.inl (fun j => Int64.ofInt (g j)))) := rfl
theorem ix_r {i : Int} {sz : Nat} (h0 : 0 ≤ i) (h1 : i < sz) (hs : sz ≤ 100000) : r32 i := ⟨by omega, by omega⟩
theorem w8_nar (x : Int) : narrow .byte (.int (Int32.ofInt x)) = .int (Int32.ofInt (w8 x)) := by
  show Value.int ((Int32.ofInt x).toInt8.toInt32) = _
  unfold w8
  rw [i32_back]
theorem nar_z {x : Int} (h : x = 0 ∨ x = 1) : narrow .boolean (.int (Int32.ofInt x)) = .int (Int32.ofInt x) := by
  rcases h with rfl | rfl <;> decide
theorem okF0 (ty : FieldType) : okF ty 0 := by
  cases ty <;> first | exact r32_0 | exact (⟨by decide, by decide⟩ : r64 0) | trivial
/-- no field has another type than these -/
def tyOK (ty : FieldType) : Bool := match ty with
  | .byte => false
  | .char => false
  | .short => false
  | .float => false
  | .double => false
  | _ => true
section ARR
variable {o : mO} {M : mM} {D : Nat → Bool} {d mc ms : Nat} {ph : Bool} {n' : Nat} {Q : Option mV → mG → Prop} {n ce sl pc : Nat} {L L' : List (Option mV)} {S S' : List mV} {G : mG} {len : Nat}
theorem wp_iald {k sz : Nat} {i : Int} (hd : decode M.2.1 pc = .ok (.iaload, len)) (hi : okI M.2.2.1 .iaload len = true) (hk : k < n) (hs : shf k = (20, sz)) (ha : aR k = true) (hb : 0 ≤ i ∧ i < (sz : Int)) (K : WP o M D d mc ms ph n' Q n ce sl (pc + len) L (mI (G k i.toNat) :: S) G) : WP o M D d mc ms ph n' Q n ce sl pc L (mI i :: mR (k + 5) :: S) G := by
  have hl := Nat.eq_of_beq_eq_true hi
  subst hl
  intro l X p e R s m args below meth c H locs ls Z hR hF hW hS hL hO hLo hZ
  have hir : r32 i := hO.h
  have hw := wl_get (X := X) (g := gx ph G) hk
  rw [hs, gx_aR ha, ent_20] at hw
  have hrg := hW.2.2.1 k hk i.toNat (by rw [hs]; show i.toNat < sz; omega)
  rw [hs, gx_aR ha] at hrg
  refine va_iald hF.1 hF.2.1 hF.2.2.2.2.2.2.2.2.1 hW.2.1 k 0 hw rfl (ix_in hir hb.1 hb.2) hd ?_
  rw [ix_cl hir]
  exact K l X p e R s m args below meth c H locs ls Z hR hF hW hS hL (hO.t.t.c hrg) hLo hZ
theorem wp_bald {k sz : Nat} {i : Int} (hd : decode M.2.1 pc = .ok (.baload, len)) (hi : okI M.2.2.1 .baload len = true) (hk : k < n) (hs : shf k = (21, sz)) (ha : aR k = true) (hb : 0 ≤ i ∧ i < (sz : Int)) (K : WP o M D d mc ms ph n' Q n ce sl (pc + len) L (mI (G k i.toNat) :: S) G) : WP o M D d mc ms ph n' Q n ce sl pc L (mI i :: mR (k + 5) :: S) G := by
  have hl := Nat.eq_of_beq_eq_true hi
  subst hl
  intro l X p e R s m args below meth c H locs ls Z hR hF hW hS hL hO hLo hZ
  have hir : r32 i := hO.h
  have hw := wl_get (X := X) (g := gx ph G) hk
  rw [hs, gx_aR ha, ent_21] at hw
  have hrg := hW.2.2.1 k hk i.toNat (by rw [hs]; show i.toNat < sz; omega)
  rw [hs, gx_aR ha] at hrg
  refine va_bald hF.1 hF.2.1 hF.2.2.2.2.2.2.2.2.1 hW.2.1 k 1 hw rfl (ix_in hir hb.1 hb.2) hd ?_
  rw [ix_cl hir]
  exact K l X p e R s m args below meth c H locs ls Z hR hF hW hS hL (hO.t.t.c hrg) hLo hZ
theorem wp_zald {k sz : Nat} {i : Int} (hd : decode M.2.1 pc = .ok (.baload, len)) (hi : okI M.2.2.1 .baload len = true) (hk : k < n) (hs : shf k = (22, sz)) (ha : aR k = true) (hb : 0 ≤ i ∧ i < (sz : Int)) (K : WP o M D d mc ms ph n' Q n ce sl (pc + len) L (mI (G k i.toNat) :: S) G) : WP o M D d mc ms ph n' Q n ce sl pc L (mI i :: mR (k + 5) :: S) G := by
  have hl := Nat.eq_of_beq_eq_true hi
  subst hl
  intro l X p e R s m args below meth c H locs ls Z hR hF hW hS hL hO hLo hZ
  have hir : r32 i := hO.h
  have hw := wl_get (X := X) (g := gx ph G) hk
  rw [hs, gx_aR ha, ent_22] at hw
  have hrg := hW.2.2.1 k hk i.toNat (by rw [hs]; show i.toNat < sz; omega)
  rw [hs, gx_aR ha] at hrg
  refine va_zald hF.1 hF.2.1 hF.2.2.2.2.2.2.2.2.1 hW.2.1 k 2 hw rfl (ix_in hir hb.1 hb.2) hd ?_
  rw [ix_cl hir]
  exact K l X p e R s m args below meth c H locs ls Z hR hF hW hS hL (hO.t.t.c hrg) hLo hZ
theorem wp_lald {k sz : Nat} {i : Int} (hd : decode M.2.1 pc = .ok (.laload, len)) (hi : okI M.2.2.1 .laload len = true) (hk : k < n) (hs : shf k = (23, sz)) (ha : aR k = true) (hb : 0 ≤ i ∧ i < (sz : Int)) (K : WP o M D d mc ms ph n' Q n ce sl (pc + len) L (mJ (G k i.toNat) :: S) G) : WP o M D d mc ms ph n' Q n ce sl pc L (mI i :: mR (k + 5) :: S) G := by
  have hl := Nat.eq_of_beq_eq_true hi
  subst hl
  intro l X p e R s m args below meth c H locs ls Z hR hF hW hS hL hO hLo hZ
  have hir : r32 i := hO.h
  have hw := wl_get (X := X) (g := gx ph G) hk
  rw [hs, gx_aR ha, ent_23] at hw
  have hrg := hW.2.2.1 k hk i.toNat (by rw [hs]; show i.toNat < sz; omega)
  rw [hs, gx_aR ha] at hrg
  refine va_lald hF.1 hF.2.1 hF.2.2.2.2.2.2.2.2.1 hW.2.1 k 3 hw rfl (ix_in hir hb.1 hb.2) hd ?_
  rw [ix_cl hir]
  exact K l X p e R s m args below meth c H locs ls Z hR hF hW hS hL (hO.t.t.c hrg) hLo hZ

theorem wp_iast {k sz : Nat} {i x : Int} (hd : decode M.2.1 pc = .ok (.iastore, len)) (hi : okI M.2.2.1 .iastore len = true) (hk : k < n) (hs : shf k = (20, sz)) (ha : aR k = true) (hD : D k = true) (hb : 0 ≤ i ∧ i < (sz : Int)) (K : WP o M D d mc ms ph n' Q n ce sl (pc + len) L S (gs G k i.toNat (x))) : WP o M D d mc ms ph n' Q n ce sl pc L (mI x :: mI i :: mR (k + 5) :: S) G := by
  have hl := Nat.eq_of_beq_eq_true hi
  subst hl
  intro l X p e R s m args below meth c H locs ls Z hR hF hW hS hL hO hLo hZ
  have hir : r32 i := hO.t.h
  have hw := wl_get (X := X) (g := gx ph G) hk
  rw [hs, ent_20] at hw
  have hDw := wl_D X n (gx ph G)
  have hP := hW.2.1
  have hin := ix_in hir hb.1 hb.2
  have hK := hF.2.2.2.2.2.2.2.2.1
  refine W.iast hF.1 hF.2.1 (hP k _ hw) ((hK.2 0 (X.2.1 0, .int) rfl).1 sz (fun j => .int (Int32.ofInt (gx ph G k j)))) (fun q => by cases q) (by show ¬ (_ ∨ (arrV _ _ _).slots.size ≤ _); rw [arrV_size]; exact hin) rfl rfl hd fun H1 e1 z oq => ?_
  have hent : ent X (shf k) (gs (gx ph G) k i.toNat (x) k) = .inl (X.2.1 0, sz, .inl (fun j => Int32.ofInt (gs (gx ph G) k i.toNat (x) k j))) := by rw [hs]; rfl
  have hP1 := hP.set hDw hw (e := .inl (X.2.1 0, sz, .inl (fun j => Int32.ofInt (gs (gx ph G) k i.toNat (x) k j)))) ?_ oq
  · exact K l X p e R s m args below meth c H1 _ ls Z hR hF (Wd_write hW hk (fun _ => aR_crf ha _) (fun _ => by rw [hs]; exact hO.h) z hP1 hent) (hS.put z oq (Nat.le_add_right _ _)) hL hO.t.t.t hLo (hZ.to (gs_fr hD))
  · show H1[xB X + k]? = some (vp_cell _ _)
    rw [e1, vp_cell_i, vp_cell_i, ix_cl hir, arrV_store]
    congr 2
    funext q
    by_cases hq : q = i.toNat
    · subst hq
      simp [updV, gs_at]
    · simp [updV, hq, gs_at_ne hq]
theorem wp_bast {k sz : Nat} {i x : Int} (hd : decode M.2.1 pc = .ok (.bastore, len)) (hi : okI M.2.2.1 .bastore len = true) (hk : k < n) (hs : shf k = (21, sz)) (ha : aR k = true) (hD : D k = true) (hb : 0 ≤ i ∧ i < (sz : Int)) (K : WP o M D d mc ms ph n' Q n ce sl (pc + len) L S (gs G k i.toNat (w8 x))) : WP o M D d mc ms ph n' Q n ce sl pc L (mI x :: mI i :: mR (k + 5) :: S) G := by
  have hl := Nat.eq_of_beq_eq_true hi
  subst hl
  intro l X p e R s m args below meth c H locs ls Z hR hF hW hS hL hO hLo hZ
  have hir : r32 i := hO.t.h
  have hw := wl_get (X := X) (g := gx ph G) hk
  rw [hs, ent_21] at hw
  have hDw := wl_D X n (gx ph G)
  have hP := hW.2.1
  have hin := ix_in hir hb.1 hb.2
  have hK := hF.2.2.2.2.2.2.2.2.1
  refine W.bast hF.1 hF.2.1 (hP k _ hw) ((hK.2 1 (X.2.1 1, .byte) rfl).1 sz (fun j => .int (Int32.ofInt (gx ph G k j)))) (fun q => by cases q) (by show ¬ (_ ∨ (arrV _ _ _).slots.size ≤ _); rw [arrV_size]; exact hin) rfl rfl hd fun H1 e1 z oq => ?_
  have hent : ent X (shf k) (gs (gx ph G) k i.toNat (w8 x) k) = .inl (X.2.1 1, sz, .inl (fun j => Int32.ofInt (gs (gx ph G) k i.toNat (w8 x) k j))) := by rw [hs]; rfl
  have hP1 := hP.set hDw hw (e := .inl (X.2.1 1, sz, .inl (fun j => Int32.ofInt (gs (gx ph G) k i.toNat (w8 x) k j)))) ?_ oq
  · exact K l X p e R s m args below meth c H1 _ ls Z hR hF (Wd_write hW hk (fun _ => aR_crf ha _) (fun _ => by rw [hs]; exact i32_r _) z hP1 hent) (hS.put z oq (Nat.le_add_right _ _)) hL hO.t.t.t hLo (hZ.to (gs_fr hD))
  · show H1[xB X + k]? = some (vp_cell _ _)
    rw [e1, vp_cell_i, vp_cell_i, ix_cl hir, w8_nar, arrV_store]
    congr 2
    funext q
    by_cases hq : q = i.toNat
    · subst hq
      simp [updV, gs_at]
    · simp [updV, hq, gs_at_ne hq]
theorem wp_zast {k sz : Nat} {i x : Int} (hd : decode M.2.1 pc = .ok (.bastore, len)) (hi : okI M.2.2.1 .bastore len = true) (hk : k < n) (hs : shf k = (22, sz)) (ha : aR k = true) (hD : D k = true) (hb : 0 ≤ i ∧ i < (sz : Int)) (hz : x = 0 ∨ x = 1) (K : WP o M D d mc ms ph n' Q n ce sl (pc + len) L S (gs G k i.toNat (x))) : WP o M D d mc ms ph n' Q n ce sl pc L (mI x :: mI i :: mR (k + 5) :: S) G := by
  have hl := Nat.eq_of_beq_eq_true hi
  subst hl
  intro l X p e R s m args below meth c H locs ls Z hR hF hW hS hL hO hLo hZ
  have hir : r32 i := hO.t.h
  have hw := wl_get (X := X) (g := gx ph G) hk
  rw [hs, ent_22] at hw
  have hDw := wl_D X n (gx ph G)
  have hP := hW.2.1
  have hin := ix_in hir hb.1 hb.2
  have hK := hF.2.2.2.2.2.2.2.2.1
  refine W.zast hF.1 hF.2.1 (hP k _ hw) ((hK.2 2 (X.2.1 2, .boolean) rfl).1 sz (fun j => .int (Int32.ofInt (gx ph G k j)))) (fun q => by cases q) (by show ¬ (_ ∨ (arrV _ _ _).slots.size ≤ _); rw [arrV_size]; exact hin) rfl rfl hd fun H1 e1 z oq => ?_
  have hent : ent X (shf k) (gs (gx ph G) k i.toNat (x) k) = .inl (X.2.1 2, sz, .inl (fun j => Int32.ofInt (gs (gx ph G) k i.toNat (x) k j))) := by rw [hs]; rfl
  have hP1 := hP.set hDw hw (e := .inl (X.2.1 2, sz, .inl (fun j => Int32.ofInt (gs (gx ph G) k i.toNat (x) k j)))) ?_ oq
  · exact K l X p e R s m args below meth c H1 _ ls Z hR hF (Wd_write hW hk (fun _ => aR_crf ha _) (fun _ => by rw [hs]; exact hO.h) z hP1 hent) (hS.put z oq (Nat.le_add_right _ _)) hL hO.t.t.t hLo (hZ.to (gs_fr hD))
  · show H1[xB X + k]? = some (vp_cell _ _)
    rw [e1, vp_cell_i, vp_cell_i, ix_cl hir, nar_z hz, arrV_store]
    congr 2
    funext q
    by_cases hq : q = i.toNat
    · subst hq
      simp [updV, gs_at]
    · simp [updV, hq, gs_at_ne hq]
theorem wp_last {k sz : Nat} {i x : Int} (hd : decode M.2.1 pc = .ok (.lastore, len)) (hi : okI M.2.2.1 .lastore len = true) (hk : k < n) (hs : shf k = (23, sz)) (ha : aR k = true) (hD : D k = true) (hb : 0 ≤ i ∧ i < (sz : Int)) (K : WP o M D d mc ms ph n' Q n ce sl (pc + len) L S (gs G k i.toNat (x))) : WP o M D d mc ms ph n' Q n ce sl pc L (mJ x :: mI i :: mR (k + 5) :: S) G := by
  have hl := Nat.eq_of_beq_eq_true hi
  subst hl
  intro l X p e R s m args below meth c H locs ls Z hR hF hW hS hL hO hLo hZ
  have hir : r32 i := hO.t.h
  have hw := wl_get (X := X) (g := gx ph G) hk
  rw [hs, ent_23] at hw
  have hDw := wl_D X n (gx ph G)
  have hP := hW.2.1
  have hin := ix_in hir hb.1 hb.2
  have hK := hF.2.2.2.2.2.2.2.2.1
  refine W.last hF.1 hF.2.1 (hP k _ hw) ((hK.2 3 (X.2.1 3, .long) rfl).1 sz (fun j => .long (Int64.ofInt (gx ph G k j)))) (fun q => by cases q) (by show ¬ (_ ∨ (arrV _ _ _).slots.size ≤ _); rw [arrV_size]; exact hin) rfl rfl hd fun H1 e1 z oq => ?_
  have hent : ent X (shf k) (gs (gx ph G) k i.toNat (x) k) = .inl (X.2.1 3, sz, .inr (.inl (fun j => Int64.ofInt (gs (gx ph G) k i.toNat (x) k j)))) := by rw [hs]; rfl
  have hP1 := hP.set hDw hw (e := .inl (X.2.1 3, sz, .inr (.inl (fun j => Int64.ofInt (gs (gx ph G) k i.toNat (x) k j))))) ?_ oq
  · exact K l X p e R s m args below meth c H1 _ ls Z hR hF (Wd_write hW hk (fun _ => aR_crf ha _) (fun _ => by rw [hs]; exact hO.h) z hP1 hent) (hS.put z oq (Nat.le_add_right _ _)) hL hO.t.t.t hLo (hZ.to (gs_fr hD))
  · show H1[xB X + k]? = some (vp_cell _ _)
    rw [e1, vp_cell_l, vp_cell_l, ix_cl hir, arrV_store]
    congr 2
    funext q
    by_cases hq : q = i.toNat
    · subst hq
      simp [updV, gs_at]
    · simp [updV, hq, gs_at_ne hq]

theorem wp_alen {k kd sz : Nat} (hd : decode M.2.1 pc = .ok (.arraylength, len)) (hi : okI M.2.2.1 .arraylength len = true) (hk : k < n) (hs : shf k = (kd, sz)) (hkd : 20 ≤ kd ∧ kd ≤ 23) (hsz : sz ≤ 100000) (K : WP o M D d mc ms ph n' Q n ce sl (pc + len) L (mI (sz : Int) :: S) G) : WP o M D d mc ms ph n' Q n ce sl pc L (mR (k + 5) :: S) G := by
  have hl := Nat.eq_of_beq_eq_true hi
  subst hl
  intro l X p e R s m args below meth c H locs ls Z hR hF hW hS hL hO hLo hZ
  have hw := wl_get (X := X) (g := gx ph G) hk
  rw [hs] at hw
  have kk := K l X p e R s m args below meth c H locs ls Z hR hF hW hS hL (hO.t.c ⟨by omega, by omega⟩) hLo hZ
  have hv : Int32.ofNat sz = Int32.ofInt (sz : Int) := by rw [Int32.ofInt_eq_ofNat]
  rcases (show kd = 20 ∨ kd = 21 ∨ kd = 22 ∨ kd = 23 by omega) with rfl | rfl | rfl | rfl
  · exact va_alen hF.1 hF.2.1 hF.2.2.2.2.2.2.2.2.1 hW.2.1 k 0 hw (ty := .int) rfl hv hd kk
  · exact va_alen hF.1 hF.2.1 hF.2.2.2.2.2.2.2.2.1 hW.2.1 k 1 hw (ty := .byte) rfl hv hd kk
  · exact va_alen hF.1 hF.2.1 hF.2.2.2.2.2.2.2.2.1 hW.2.1 k 2 hw (ty := .boolean) rfl hv hd kk
  · exact va_alen hF.1 hF.2.1 hF.2.2.2.2.2.2.2.2.1 hW.2.1 k 3 hw (ty := .long) rfl hv hd kk
/-- the script -/
theorem wp_sld {i : Int} (hd : decode M.2.1 pc = .ok (.iaload, len)) (hi : okI M.2.2.1 .iaload len = true) (hb : 0 ≤ i ∧ i < G 1001 0) (K : WP o M D d mc ms ph n' Q n ce sl (pc + len) L (mI (G 1000 i.toNat) :: S) G) : WP o M D d mc ms ph n' Q n ce sl pc L (mI i :: mR 1 :: S) G := by
  have hl := Nat.eq_of_beq_eq_true hi
  subst hl
  intro l X p e R s m args below meth c H locs ls Z hR hF hW hS hL hO hLo hZ
  have hir : r32 i := hO.h
  have hKW := hF.2.2.2.2.2.2.2.2
  obtain ⟨sc1, sc2⟩ := hW.2.2.2.2
  have hin : vp_in (Int32.ofInt i) X.2.2.2.1.2.1 := ix_in hir hb.1 (by rw [← sc1]; exact hb.2)
  have e1 : G 1000 i.toNat = (X.2.2.2.1.2.2 i.toNat).toInt := sc2 _ (by omega)
  refine va_sld hF.1 hF.2.1 (A := xA X) hKW.2.2.2.1 (Nat.lt_of_lt_of_le hKW.2.2.2.2.1 hKW.2.2.2.2.2.2.2.2) (Nat.not_le.mpr hKW.2.2.2.2.1) hS hin hd ?_
  rw [ix_cl hir, ← i32_back (X.2.2.2.1.2.2 i.toNat), ← e1]
  exact K l X p e R s m args below meth c H locs ls Z hR hF hW hS hL (hO.t.t.c (by rw [e1]; exact i32_r _)) hLo hZ
theorem wp_slen (hd : decode M.2.1 pc = .ok (.arraylength, len)) (hi : okI M.2.2.1 .arraylength len = true) (hb : G 1001 0 < 2147483648) (K : WP o M D d mc ms ph n' Q n ce sl (pc + len) L (mI (G 1001 0) :: S) G) : WP o M D d mc ms ph n' Q n ce sl pc L (mR 1 :: S) G := by
  have hl := Nat.eq_of_beq_eq_true hi
  subst hl
  intro l X p e R s m args below meth c H locs ls Z hR hF hW hS hL hO hLo hZ
  have hKW := hF.2.2.2.2.2.2.2.2
  obtain ⟨sc1, sc2⟩ := hW.2.2.2.2
  refine va_slen hF.1 hF.2.1 (A := xA X) hKW.2.2.2.1 (Nat.lt_of_lt_of_le hKW.2.2.2.2.1 hKW.2.2.2.2.2.2.2.2) (Nat.not_le.mpr hKW.2.2.2.2.1) hS hd ?_
  have e1 : Int32.ofNat X.2.2.2.1.2.1 = Int32.ofInt (G 1001 0) := by rw [sc1, Int32.ofInt_eq_ofNat]
  rw [e1]
  exact K l X p e R s m args below meth c H locs ls Z hR hF hW hS hL (hO.t.c ⟨by rw [sc1]; omega, hb⟩) hLo hZ
/-- the text constant -/
theorem wp_sval {i : Nat} (hd : decode M.2.1 pc = .ok (.getfield i, len)) (hi : okI M.2.2.1 (.getfield i) len = true) (hf : Cond.fieldLink o.1 i "java/lang/String" "value" "[B" ∈ mgt) (K : WP o M D d mc ms ph n' Q n ce sl (pc + len) L (mR 3 :: S) G) : WP o M D d mc ms ph n' Q n ce sl pc L (mR 2 :: S) G := by
  have hl := Nat.eq_of_beq_eq_true hi
  subst hl
  intro l X p e R s m args below meth c H locs ls Z hR hF hW hS hL hO hLo hZ
  have hKW := hF.2.2.2.2.2.2.2.2
  exact vk_getf hF.1 hF.2.1 (hKW.2.2.2.2.2.1.1 0 (by omega)).2.2.1 hS hF.2.2.2.1 (hF.2.2.2.2.1 _ hf) (fun _ h => h) hd (K l X p e R s m args below meth c H locs ls Z hR hF hW hS hL (hO.t.c trivial) hLo hZ)
theorem wp_scod {i : Nat} (hd : decode M.2.1 pc = .ok (.getfield i, len)) (hi : okI M.2.2.1 (.getfield i) len = true) (hf : Cond.fieldLink o.1 i "java/lang/String" "coder" "B" ∈ mgt) (K : WP o M D d mc ms ph n' Q n ce sl (pc + len) L (mI 0 :: S) G) : WP o M D d mc ms ph n' Q n ce sl pc L (mR 2 :: S) G := by
  have hl := Nat.eq_of_beq_eq_true hi
  subst hl
  intro l X p e R s m args below meth c H locs ls Z hR hF hW hS hL hO hLo hZ
  have hKW := hF.2.2.2.2.2.2.2.2
  exact vk_getf hF.1 hF.2.1 (hKW.2.2.2.2.2.1.1 0 (by omega)).2.1 hS hF.2.2.2.1 (hF.2.2.2.2.1 _ hf) (fun _ h => h) hd (K l X p e R s m args below meth c H locs ls Z hR hF hW hS hL (hO.t.c r32_0) hLo hZ)
theorem wp_gcom {i : Nat} (hd : decode M.2.1 pc = .ok (.getstatic i, len)) (hi : okI M.2.2.1 (.getstatic i) len = true) (hf : Cond.fieldLink o.1 i "java/lang/String" "COMPACT_STRINGS" "Z" ∈ mgt) (K : WP o M D d mc ms ph n' Q n ce sl (pc + len) L (mI 1 :: S) G) : WP o M D d mc ms ph n' Q n ce sl pc L S G := by
  have hl := Nat.eq_of_beq_eq_true hi
  subst hl
  intro l X p e R s m args below meth c H locs ls Z hR hF hW hS hL hO hLo hZ
  have hKW := hF.2.2.2.2.2.2.2.2
  exact va_gets hF.1 hF.2.1 hKW.2.2.2.2.2.2.1 hS hF.2.2.2.1 (hF.2.2.2.2.1 _ hf) (fun _ h => h) hd (K l X p e R s m args below meth c H locs ls Z hR hF hW hS hL (hO.c ⟨by decide, by decide⟩) hLo hZ)
theorem wp_gfmt {i : Nat} (hd : decode M.2.1 pc = .ok (.getstatic i, len)) (hi : okI M.2.2.1 (.getstatic i) len = true) (hf : Cond.fieldLink o.1 i "jdk/internal/util/Preconditions" "SIOOBE_FORMATTER" "Ljava/util/function/BiFunction;" ∈ mgt) (K : WP o M D d mc ms ph n' Q n ce sl (pc + len) L (mR 4 :: S) G) : WP o M D d mc ms ph n' Q n ce sl pc L S G := by
  have hl := Nat.eq_of_beq_eq_true hi
  subst hl
  intro l X p e R s m args below meth c H locs ls Z hR hF hW hS hL hO hLo hZ
  have hKW := hF.2.2.2.2.2.2.2.2
  exact va_gets hF.1 hF.2.1 hKW.2.2.2.2.2.2.2.1 hS hF.2.2.2.1 (hF.2.2.2.2.1 _ hf) (fun _ h => h) hd (K l X p e R s m args below meth c H locs ls Z hR hF hW hS hL (hO.c trivial) hLo hZ)
theorem wp_tlen (hd : decode M.2.1 pc = .ok (.arraylength, len)) (hi : okI M.2.2.1 .arraylength len = true) (K : WP o M D d mc ms ph n' Q n ce sl (pc + len) L (mI 160 :: S) G) : WP o M D d mc ms ph n' Q n ce sl pc L (mR 3 :: S) G := by
  have hl := Nat.eq_of_beq_eq_true hi
  subst hl
  intro l X p e R s m args below meth c H locs ls Z hR hF hW hS hL hO hLo hZ
  have hKW := hF.2.2.2.2.2.2.2.2
  obtain ⟨cell, h1, h2, h3, h4, h5, h6, h7⟩ := (hKW.2.2.2.2.2.1.1 0 (by omega)).2.2.2.kept hS.2.1
  exact W.alen (n := Int32.ofInt 160) hF.1 hF.2.1 h1 h2 (h5.trans (by decide)) rfl rfl hd (K l X p e R s m args below meth c H locs ls Z hR hF hW hS hL (hO.t.c ⟨by decide, by decide⟩) hLo hZ)
theorem wp_tald {i : Int} (hd : decode M.2.1 pc = .ok (.baload, len)) (hi : okI M.2.2.1 .baload len = true) (hb : 0 ≤ i ∧ i < 160) (K : WP o M D d mc ms ph n' Q n ce sl (pc + len) L (mI (wordsB.getD i.toNat 0).toInt :: S) G) : WP o M D d mc ms ph n' Q n ce sl pc L (mI i :: mR 3 :: S) G := by
  have hl := Nat.eq_of_beq_eq_true hi
  subst hl
  intro l X p e R s m args below meth c H locs ls Z hR hF hW hS hL hO hLo hZ
  have hKW := hF.2.2.2.2.2.2.2.2
  have hir : r32 i := hO.h
  obtain ⟨cell, h1, h2, h3, h4, h5, h6, h7⟩ := (hKW.2.2.2.2.2.1.1 0 (by omega)).2.2.2.kept hS.2.1
  have h4' : 160 ≤ cell.slots.size := h4
  have hlt : i.toNat < 160 := by omega
  have hv : cell.slots[(Int32.ofInt i).toNatClampNeg]? = some (.int (Int32.ofInt (wordsB.getD i.toNat 0).toInt)) := by
    rw [ix_cl hir, i32_back]
    simp only [List.getD_cons_zero] at h6
    exact h6 i.toNat hlt
  have kk := K l X p e R s m args below meth c H locs ls Z hR hF hW hS hL (hO.t.t.c (i32_r _)) hLo hZ
  refine W.bald hF.1 hF.2.1 h1 h2 h3 ?_ hv rfl rfl hd kk
  rintro (q | q)
  · rw [i32_0, i32_lt hir r32_0] at q
    omega
  · rw [ix_cl hir] at q
    omega
/-- a new object, a new array: the next cell, as it is foreseen -/
theorem wp_new {i ci sz : Nat} (hC : okCls) (hd : decode M.2.1 pc = .ok (.new i, len)) (hi : okI M.2.2.1 (.new i) len = true) (hs : shf n = (ci, sz)) (hci : ci < 20) (hcl : ∃ C T, vwCl[ci]? = some (C, T, sz) ∧ Cond.classLink o.1 i C ∈ mgt) (hto : ∀ j, j < sz → tyOK (mfT ci j) = true) (hph : ph = false) (hn : n < 1000) (hce : ce + 1 ≤ mc) (hsl : sl + sz ≤ ms) (K : WP o M D d mc ms ph n' Q (n + 1) (ce + 1) (sl + sz) (pc + len) L (mR (n + 5) :: S) G) : WP o M D d mc ms ph n' Q n ce sl pc L S G := by
  have hl := Nat.eq_of_beq_eq_true hi
  subst hl
  subst hph
  intro l X p e R s m args below meth c H locs ls Z hR hF hW hS hL hO hLo hZ
  obtain ⟨C, T, h1, h2⟩ := hcl
  obtain ⟨c1, c2, c3, c4, c5⟩ := hC ci C T sz h1
  have hts := hF.2.2.2.2.1
  have hK := hF.2.2.2.2.2.2.2.2.1
  have hKn := hK.1 ci _ h1
  obtain ⟨w1, w2, w3, w4, w5⟩ := hW
  refine W.newcK hF.1 hF.2.1 hF.2.2.2.1 (hts _ h2) (hts _ c4) (hts _ c5) rfl hd (Nat.le_trans hce hR.2.2.1) (Nat.le_trans hsl hR.2.2.2) hKn.2.1 w1 fun H1 kC hkC e1 z1 o1 => ?_
  have hk : ∀ (k : Nat) (x : Nat × va_E), (wl X n (gx false G))[k]? = some x → H1[x.1]? = H[x.1]? := fun k x hx => o1 x.1 (by rw [← w1]; exact (w2 k x hx).lt)
  have hz : ∀ j, gx false G n j = 0 := fun j => w4.2 n (Nat.le_refl _) hn j
  have hP1 : va_P X.1 vwCl (wl X n (gx false G) ++ [(xB X + n, ent X (shf n) (gx false G n))]) H1 := by
    refine (w2.kept hk).app (fun k x hx => ?_)
    have hz1 : k < 1 := (List.getElem?_eq_some_iff.mp hx).1
    rw [show k = 0 by omega] at hx
    cases hx
    rw [hs, ent_obj hci]
    refine ⟨_, h1, (u_born (mfT ci) hts c1 hKn hkC e1 c2).to (fun j hj => ?_)⟩
    have hj' : j < sz := hj
    show defaultValue (mfT ci j) = ((List.range sz).map (fun j => fvv X (mfT ci j) (gx false G n j))).getD j .null
    rw [List.getD_eq_getElem?_getD, List.getElem?_map, List.getElem?_range hj']
    show defaultValue (mfT ci j) = fvv X (mfT ci j) (gx false G n j)
    rw [hz j]
    have hpd := c2 j hj'
    have hto2 := hto j hj'
    revert hto2
    generalize mfT ci j = ty
    intro hto2
    cases ty <;> first | rfl | cases hto2
  have hW1 : Wd X false (n + 1) G H1 := by
    refine ⟨by rw [z1]; omega, ?_, fun k hk j hj => ?_, ⟨by omega, fun k h1 h2 j => w4.2 k (by omega) h2 j⟩, w5⟩
    · rw [← wl_push (q := xB X + n) rfl rfl]
      exact hP1
    · by_cases hkn : k = n
      · subst hkn
        rw [hz j, hs, okC_obj hci]
        exact okF0 _
      · exact w3 k (by omega) j hj
  exact K l X p e R s m args below meth c H1 locs ls Z hR hF hW1 ⟨Nat.le_trans hS.1 (by omega), fun x h1 h2 => (o1 x (by have := hS.1; omega)).trans (hS.2.1 x h1 h2), hS.2.2⟩ hL (hO.c trivial) hLo hZ
theorem wp_newa {at0 : ArrayType} {kd ix sz : Nat} {ty : FieldType} {i : Int} (hd : decode M.2.1 pc = .ok (.newarray at0, len)) (hi : okI M.2.2.1 (.newarray at0) len = true) (hty : newarray.typeOf at0 = ty) (hix : (kd = 20 ∧ ix = 0 ∧ ty = .int) ∨ (kd = 21 ∧ ix = 1 ∧ ty = .byte) ∨ (kd = 22 ∧ ix = 2 ∧ ty = .boolean) ∨ (kd = 23 ∧ ix = 3 ∧ ty = .long)) (hw : Cond.arrayClass ty ∈ mgt) (hs : shf n = (kd, sz)) (hsz : sz ≤ 100000) (hiz : i = (sz : Int)) (hph : ph = false) (hn : n < 1000) (hce : ce + 1 ≤ mc) (hsl : sl + sz ≤ ms) (K : WP o M D d mc ms ph n' Q (n + 1) (ce + 1) (sl + sz) (pc + len) L (mR (n + 5) :: S) G) : WP o M D d mc ms ph n' Q n ce sl pc L (mI i :: S) G := by
  have hl := Nat.eq_of_beq_eq_true hi
  subst hl
  subst hph
  subst hiz
  subst hty
  intro l X p e R s m args below meth c H locs ls Z hR hF hW hS hL hO hLo hZ
  have hts := hF.2.2.2.2.1
  have hK := hF.2.2.2.2.2.2.2.2.1
  obtain ⟨w1, w2, w3, w4, w5⟩ := hW
  have hir : r32 (sz : Int) := ⟨by omega, by omega⟩
  have hN : (Int32.ofInt (sz : Int)).toNatClampNeg = sz := by rw [ix_cl hir]; simp
  have hng : ¬ Int32.ofInt (sz : Int) < 0 := by
    rw [i32_0, i32_lt hir r32_0]
    omega
  have hcb : sz * componentBytes (newarray.typeOf at0) ≤ 536870912 := by
    have : componentBytes (newarray.typeOf at0) ≤ 8 := by rcases hix with ⟨-, -, h⟩ | ⟨-, -, h⟩ | ⟨-, -, h⟩ | ⟨-, -, h⟩ <;> rw [h] <;> decide
    calc sz * componentBytes (newarray.typeOf at0) ≤ 100000 * 8 := Nat.mul_le_mul hsz this
      _ ≤ 536870912 := by decide
  refine va_newaK hF.1 hF.2.1 (hts _ hw) rfl hd rfl hng hN hcb (Nat.le_trans hce hR.2.2.1) (Nat.le_trans hsl hR.2.2.2) w1 fun H1 cA e1 z1 o1 hAr hNm => ?_
  have hk : ∀ (k : Nat) (x : Nat × va_E), (wl X n (gx false G))[k]? = some x → H1[x.1]? = H[x.1]? := fun k x hx => o1 x.1 (by rw [← w1]; exact (w2 k x hx).lt)
  have hz : gx false G n = fun _ => 0 := funext fun j => w4.2 n (Nat.le_refl _) hn j
  have hent : va_at X.1 vwCl (xB X + n, ent X (shf n) (gx false G n)) H1 := by
    rw [hs, hz]
    rcases hix with ⟨rfl, rfl, h⟩ | ⟨rfl, rfl, h⟩ | ⟨rfl, rfl, h⟩ | ⟨rfl, rfl, h⟩ <;> rw [h] at e1 hNm
    · have hcA : cA = X.2.1 0 := Option.some.inj (hNm.symm.trans (hK.2 0 (X.2.1 0, .int) rfl).2)
      rw [hcA] at e1
      exact e1
    · have hcA : cA = X.2.1 1 := Option.some.inj (hNm.symm.trans (hK.2 1 (X.2.1 1, .byte) rfl).2)
      rw [hcA] at e1
      exact e1
    · have hcA : cA = X.2.1 2 := Option.some.inj (hNm.symm.trans (hK.2 2 (X.2.1 2, .boolean) rfl).2)
      rw [hcA] at e1
      exact e1
    · have hcA : cA = X.2.1 3 := Option.some.inj (hNm.symm.trans (hK.2 3 (X.2.1 3, .long) rfl).2)
      rw [hcA] at e1
      exact e1
  have hP1 : va_P X.1 vwCl (wl X n (gx false G) ++ [(xB X + n, ent X (shf n) (gx false G n))]) H1 := by
    refine (w2.kept hk).app (fun k x hx => ?_)
    have hz1 : k < 1 := (List.getElem?_eq_some_iff.mp hx).1
    rw [show k = 0 by omega] at hx
    cases hx
    exact hent
  have hW1 : Wd X false (n + 1) G H1 := by
    refine ⟨by rw [z1]; omega, ?_, fun k hk j hj => ?_, ⟨by omega, fun k h1 h2 j => w4.2 k (by omega) h2 j⟩, w5⟩
    · rw [← wl_push (q := xB X + n) rfl rfl]
      exact hP1
    · by_cases hkn : k = n
      · subst hkn
        rw [hz, hs]
        rcases hix with ⟨rfl, -, -⟩ | ⟨rfl, -, -⟩ | ⟨rfl, -, -⟩ | ⟨rfl, -, -⟩
        · exact r32_0
        · exact r32_0
        · exact r32_0
        · exact (⟨by decide, by decide⟩ : r64 0)
      · exact w3 k (by omega) j hj
  exact K l X p e R s m args below meth c H1 locs ls Z hR hF hW1 ⟨Nat.le_trans hS.1 (by omega), fun x h1 h2 => (o1 x (by have := hS.1; omega)).trans (hS.2.1 x h1 h2), hS.2.2⟩ hL (hO.t.c trivial) hLo hZ
end ARR
