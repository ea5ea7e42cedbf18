/-! ===== branches ===== -/
def cndT (c : ClassFile.Cond) (x y : Int) : Prop := match c with
  | .eq => x = y
  | .ne => ¬ x = y
  | .lt => x < y
  | .ge => y ≤ x
  | .gt => y < x
  | .le => x ≤ y
def cndF (c : ClassFile.Cond) (x y : Int) : Prop := match c with
  | .eq => ¬ x = y
  | .ne => x = y
  | .lt => y ≤ x
  | .ge => x < y
  | .gt => x ≤ y
  | .le => y < x
theorem r32_0 : r32 0 := ⟨by decide, by decide⟩
theorem i32_0 : (0 : Int32) = Int32.ofInt 0 := by decide
section BRN
variable {o : mO} {M : mM} {D : Nat → Bool} {d mc ms : Nat} {ph : Bool} {n' : Nat} {Q : Option mV → mG → Prop} {n ce sl pc : Nat} {L L' : List (Option mV)} {S S' : List mV} {G : mG} {len : Nat}
theorem wp_if {c0 : ClassFile.Cond} {off : Int} {tgt : Nat} {x : Int} (hd : decode M.2.1 pc = .ok (.ifCond c0 off, len)) (hi : okI M.2.2.1 (.ifCond c0 off) len = true) (ht : (pc : Int) + off = (tgt : Int)) (kt : cndT c0 x 0 → WP o M D d mc ms ph n' Q n ce sl tgt L S G) (kf : cndF c0 x 0 → WP o M D d mc ms ph n' Q n ce sl (pc + len) L S G) : WP o M D d mc ms ph n' Q n ce sl pc L (mI x :: S) G := by
  have hl := Nat.eq_of_beq_eq_true hi
  subst hl
  intro l X p e R s m args below meth c H locs ls Z hR hF hW hS hL hO hLo hZ
  have hx : r32 x := hO.h
  have kt' : cndT c0 x 0 → W p l e R s m args below meth c H locs ce sl Z (F0 m tgt ls (S.map (cv X))) := fun q => kt q l X p e R s m args below meth c H locs ls Z hR hF hW hS hL hO.t hLo hZ
  have kf' : cndF c0 x 0 → W p l e R s m args below meth c H locs ce sl Z (F0 m (pc + 3) ls (S.map (cv X))) := fun q => kf q l X p e R s m args below meth c H locs ls Z hR hF hW hS hL hO.t hLo hZ
  cases c0 with
  | eq => exact lv_if_eq hF.1 hF.2.1 hd ht (fun q => kt' (by rw [i32_0, i32_inj hx r32_0] at q; exact q)) (fun q => kf' (by rw [i32_0, i32_inj hx r32_0] at q; exact q))
  | ne => exact lv_if_ne hF.1 hF.2.1 hd ht (fun q => kt' (by rw [i32_0, i32_inj hx r32_0] at q; exact q)) (fun q => kf' (by rw [i32_0, i32_inj hx r32_0] at q; exact q))
  | lt => exact lv_if_lt hF.1 hF.2.1 hd ht (fun q => kt' (by rw [i32_0, i32_lt hx r32_0] at q; exact q)) (fun q => kf' (by rw [i32_0, i32_lt hx r32_0] at q; exact Int.not_lt.mp q))
  | ge => exact lv_if_ge hF.1 hF.2.1 hd ht (fun q => kt' (by rw [i32_0, i32_le r32_0 hx] at q; exact q)) (fun q => kf' (by rw [i32_0, i32_le r32_0 hx] at q; exact Int.not_le.mp q))
  | gt => exact lv_if_gt hF.1 hF.2.1 hd ht (fun q => kt' (by rw [i32_0, i32_lt r32_0 hx] at q; exact q)) (fun q => kf' (by rw [i32_0, i32_lt r32_0 hx] at q; exact Int.not_lt.mp q))
  | le => exact lv_if_le hF.1 hF.2.1 hd ht (fun q => kt' (by rw [i32_0, i32_le hx r32_0] at q; exact q)) (fun q => kf' (by rw [i32_0, i32_le hx r32_0] at q; exact Int.not_le.mp q))
theorem wp_icmp {c0 : ClassFile.Cond} {off : Int} {tgt : Nat} {x y : Int} (hd : decode M.2.1 pc = .ok (.if_icmp c0 off, len)) (hi : okI M.2.2.1 (.if_icmp c0 off) len = true) (ht : (pc : Int) + off = (tgt : Int)) (kt : cndT c0 x y → WP o M D d mc ms ph n' Q n ce sl tgt L S G) (kf : cndF c0 x y → WP o M D d mc ms ph n' Q n ce sl (pc + len) L S G) : WP o M D d mc ms ph n' Q n ce sl pc L (mI y :: mI x :: S) G := by
  have hl := Nat.eq_of_beq_eq_true hi
  subst hl
  intro l X p e R s m args below meth c H locs ls Z hR hF hW hS hL hO hLo hZ
  have hx : r32 x := hO.t.h
  have hy : r32 y := hO.h
  have kt' : cndT c0 x y → W p l e R s m args below meth c H locs ce sl Z (F0 m tgt ls (S.map (cv X))) := fun q => kt q l X p e R s m args below meth c H locs ls Z hR hF hW hS hL hO.t.t hLo hZ
  have kf' : cndF c0 x y → W p l e R s m args below meth c H locs ce sl Z (F0 m (pc + 3) ls (S.map (cv X))) := fun q => kf q l X p e R s m args below meth c H locs ls Z hR hF hW hS hL hO.t.t hLo hZ
  cases c0 with
  | eq => exact lv_icmp_eq hF.1 hF.2.1 hd ht (fun q => kt' (by rw [i32_inj hx hy] at q; exact q)) (fun q => kf' (by rw [i32_inj hx hy] at q; exact q))
  | ne => exact lv_icmp_ne hF.1 hF.2.1 hd ht (fun q => kt' (by rw [i32_inj hx hy] at q; exact q)) (fun q => kf' (by rw [i32_inj hx hy] at q; exact q))
  | lt => exact lv_icmp_lt hF.1 hF.2.1 hd ht (fun q => kt' (by rw [i32_lt hx hy] at q; exact q)) (fun q => kf' (by rw [i32_lt hx hy] at q; exact Int.not_lt.mp q))
  | ge => exact lv_icmp_ge hF.1 hF.2.1 hd ht (fun q => kt' (by rw [i32_le hy hx] at q; exact q)) (fun q => kf' (by rw [i32_le hy hx] at q; exact Int.not_le.mp q))
  | gt => exact lv_icmp_gt hF.1 hF.2.1 hd ht (fun q => kt' (by rw [i32_lt hy hx] at q; exact q)) (fun q => kf' (by rw [i32_lt hy hx] at q; exact Int.not_lt.mp q))
  | le => exact lv_icmp_le hF.1 hF.2.1 hd ht (fun q => kt' (by rw [i32_le hx hy] at q; exact q)) (fun q => kf' (by rw [i32_le hx hy] at q; exact Int.not_le.mp q))
theorem wp_goto {off : Int} {tgt : Nat} (hd : decode M.2.1 pc = .ok (.goto off, len)) (hi : okI M.2.2.1 (.goto off) len = true) (ht : (pc : Int) + off = (tgt : Int)) (k : WP o M D d mc ms ph n' Q n ce sl tgt L S G) : WP o M D d mc ms ph n' Q n ce sl pc L S G := by
  have hl := Nat.eq_of_beq_eq_true hi
  subst hl
  intro l X p e R s m args below meth c H locs ls Z hR hF hW hS hL hO hLo hZ
  exact lv_goto hF.1 hF.2.1 hd ht (k l X p e R s m args below meth c H locs ls Z hR hF hW hS hL hO hLo hZ)
/-- a reference of a cell is none that is null; code 0 is -/
theorem wp_ifnull0 {off : Int} {tgt : Nat} (hd : decode M.2.1 pc = .ok (.ifnull off, len)) (hi : okI M.2.2.1 (.ifnull off) len = true) (ht : (pc : Int) + off = (tgt : Int)) (k : WP o M D d mc ms ph n' Q n ce sl tgt L S G) : WP o M D d mc ms ph n' Q n ce sl pc L (mR 0 :: S) G := by
  have hl := Nat.eq_of_beq_eq_true hi
  subst hl
  intro l X p e R s m args below meth c H locs ls Z hR hF hW hS hL hO hLo hZ
  exact lv_ifnullN hF.1 hF.2.1 hd ht (k l X p e R s m args below meth c H locs ls Z hR hF hW hS hL hO.t hLo hZ)
theorem wp_ifnull1 {off : Int} {r : Nat} (hd : decode M.2.1 pc = .ok (.ifnull off, len)) (hi : okI M.2.2.1 (.ifnull off) len = true) (k : WP o M D d mc ms ph n' Q n ce sl (pc + len) L S G) : WP o M D d mc ms ph n' Q n ce sl pc L (mR (r + 5) :: S) G := by
  have hl := Nat.eq_of_beq_eq_true hi
  subst hl
  intro l X p e R s m args below meth c H locs ls Z hR hF hW hS hL hO hLo hZ
  exact lv_ifnull hF.1 hF.2.1 hd (k l X p e R s m args below meth c H locs ls Z hR hF hW hS hL hO.t hLo hZ)
theorem wp_tsw {dflt lo hi0 : Int} {offs : Array Int} {x : Int} {tgt : Nat} (hd : decode M.2.1 pc = .ok (.tableswitch dflt lo hi0 offs, len))
    (kd : (x < lo ∨ hi0 < x) → ∃ tgt : Nat, (pc : Int) + dflt = (tgt : Int) ∧ WP o M D d mc ms ph n' Q n ce sl tgt L S G)
    (kt : lo ≤ x → x ≤ hi0 → ∃ (off : Int) (tgt : Nat), offs[(x - lo).toNat]? = some off ∧ (pc : Int) + off = (tgt : Int) ∧ WP o M D d mc ms ph n' Q n ce sl tgt L S G) : WP o M D d mc ms ph n' Q n ce sl pc L (mI x :: S) G := by
  intro l X p e R s m args below meth c H locs ls Z hR hF hW hS hL hO hLo hZ
  have hx : r32 x := hO.h
  by_cases h : x < lo ∨ hi0 < x
  · obtain ⟨tgt, h1, h2⟩ := kd h
    exact lv_tableOut hF.1 hF.2.1 hd (by rw [i32_toInt hx]; exact h) h1 (h2 l X p e R s m args below meth c H locs ls Z hR hF hW hS hL hO.t hLo hZ)
  · obtain ⟨off, tgt, h1, h2, h3⟩ := kt (by omega) (by omega)
    exact lv_tableIn hF.1 hF.2.1 hd (by rw [i32_toInt hx]; omega) (by rw [i32_toInt hx]; omega) (by rw [i32_toInt hx]; exact h1) h2 (h3 l X p e R s m args below meth c H locs ls Z hR hF hW hS hL hO.t hLo hZ)
theorem wp_lsw {dflt : Int} {ps : Array (Int × Int)} {x : Int} {tgt : Nat} (hd : decode M.2.1 pc = .ok (.lookupswitch dflt ps, len)) (hi : okI M.2.2.1 (.lookupswitch dflt ps) len = true)
    (k : ∃ tgt : Nat, (pc : Int) + Op.lookupswitch.offset ps.toList dflt x = (tgt : Int) ∧ WP o M D d mc ms ph n' Q n ce sl tgt L S G) : WP o M D d mc ms ph n' Q n ce sl pc L (mI x :: S) G := by
  intro l X p e R s m args below meth c H locs ls Z hR hF hW hS hL hO hLo hZ
  have hx : r32 x := hO.h
  obtain ⟨tgt, h1, h2⟩ := k
  exact lv_lookup hF.1 hF.2.1 hd hi (by rw [i32_toInt hx]) h1 (h2 l X p e R s m args below meth c H locs ls Z hR hF hW hS hL hO.t hLo hZ)
theorem wp_idiv {a b : Int} (hd : decode M.2.1 pc = .ok (.idiv, len)) (hi : okI M.2.2.1 .idiv len = true) (hb : ¬ b = 0) (k : WP o M D d mc ms ph n' Q n ce sl (pc + len) L (mI (mDiv a b) :: S) G) : WP o M D d mc ms ph n' Q n ce sl pc L (mI b :: mI a :: S) G := by
  have hl := Nat.eq_of_beq_eq_true hi
  subst hl
  intro l X p e R s m args below meth c H locs ls Z hR hF hW hS hL hO hLo hZ
  have ha : r32 a := hO.t.h
  have hb' : r32 b := hO.h
  refine lv_idiv hF.1 hF.2.1 hd (fun q => hb ?_) ?_
  · rw [i32_0, i32_inj hb' r32_0] at q
    exact q
  · rw [← i32_div ha hb']
    exact k l X p e R s m args below meth c H locs ls Z hR hF hW hS hL (hO.t.t.c (w32_r _)) hLo hZ
theorem wp_irem {a b : Int} (hd : decode M.2.1 pc = .ok (.irem, len)) (hi : okI M.2.2.1 .irem len = true) (hb : ¬ b = 0) (k : WP o M D d mc ms ph n' Q n ce sl (pc + len) L (mI (mRem a b) :: S) G) : WP o M D d mc ms ph n' Q n ce sl pc L (mI b :: mI a :: S) G := by
  have hl := Nat.eq_of_beq_eq_true hi
  subst hl
  intro l X p e R s m args below meth c H locs ls Z hR hF hW hS hL hO hLo hZ
  have ha : r32 a := hO.t.h
  have hb' : r32 b := hO.h
  refine lv_irem hF.1 hF.2.1 hd (fun q => hb ?_) ?_
  · rw [i32_0, i32_inj hb' r32_0] at q
    exact q
  · rw [← i32_rem ha hb']
    exact k l X p e R s m args below meth c H locs ls Z hR hF hW hS hL (hO.t.t.c (w32_r _)) hLo hZ
end BRN
