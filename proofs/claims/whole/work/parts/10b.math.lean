/-! ===== Math.max, Math.min: not run as bytecode everywhere ===== -/
def mMax (x y : Int) : Int := if x < y then y else x
def mMin (x y : Int) : Int := if y < x then y else x
section MTH
variable {o : mO} {M : mM} {D : Nat → Bool} {d mc ms : Nat} {ph : Bool} {n' : Nat} {Q : Option mV → mG → Prop} {n ce sl pc : Nat} {L : List (Option mV)} {S : List mV} {G : mG} {len : Nat}
theorem wp_max {i : Nat} {x y : Int} (hd : decode M.2.1 pc = .ok (.invokestatic i, len)) (hi : okI M.2.2.1 (.invokestatic i) len = true) (h1 : Cond.methodLink o.1 i Lib.Math.max.name ∈ mgt) (h2 : Cond.static Lib.Math.max.name ∈ mgt) (h3 : Cond.initialized "java/lang/Math" ∈ mgt) (h4 : Cond.code Lib.Math.max.name Lib.Math.max.code 2 (some .int) ∈ mgt) (hrest : S.length ≤ 4) (hce : ce ≤ mc) (hsl : sl ≤ ms)
    (K : WP o M D (d + 1) mc ms ph n' Q n ce sl (pc + len) L (mI (mMax x y) :: S) G) : WP o M D (d + 1) mc ms ph n' Q n ce sl pc L (mI y :: mI x :: S) G := by
  have hl0 := Nat.eq_of_beq_eq_true hi
  subst hl0
  intro l X p e R s m args below meth c H locs ls Z hR hF hW hS hL hO hLo hZ
  have hts := hF.2.2.2.2.1
  have hx : r32 x := hO.t.h
  have hy : r32 y := hO.h
  have hr := rest_cat (X := X) hrest
  have hm : r32 (mMax x y) := by unfold mMax; split <;> assumption
  refine va_mmax hF.1 hF.2.1 (by rw [hF.2.2.1]; exact hL.2.1.symm) hF.2.2.2.1 (hts _ h1) (hts _ h2) (hts _ h3) (hts _ h4) (by have := hR.1; omega) (by have := hR.2.1; omega) (Nat.le_trans hce hR.2.2.1) (Nat.le_trans hsl hR.2.2.2) hd ?_
  have e0 : (if Int32.ofInt x < Int32.ofInt y then Int32.ofInt y else Int32.ofInt x) = Int32.ofInt (mMax x y) := by
    unfold mMax
    by_cases c : x < y
    · rw [if_pos ((i32_lt hx hy).mpr c), if_pos c]
    · rw [if_neg (fun q => c ((i32_lt hx hy).mp q)), if_neg c]
  rw [e0]
  exact K l X p e R s m args below meth c H locs ls Z hR hF hW hS hL (hO.t.t.c hm) hLo hZ
theorem wp_min {i : Nat} {x y : Int} (hd : decode M.2.1 pc = .ok (.invokestatic i, len)) (hi : okI M.2.2.1 (.invokestatic i) len = true) (h1 : Cond.methodLink o.1 i Lib.Math.min.name ∈ mgt) (h2 : Cond.static Lib.Math.min.name ∈ mgt) (h3 : Cond.initialized "java/lang/Math" ∈ mgt) (h4 : Cond.code Lib.Math.min.name Lib.Math.min.code 2 (some .int) ∈ mgt) (hrest : S.length ≤ 4) (hce : ce ≤ mc) (hsl : sl ≤ ms)
    (K : WP o M D (d + 1) mc ms ph n' Q n ce sl (pc + len) L (mI (mMin x y) :: S) G) : WP o M D (d + 1) mc ms ph n' Q n ce sl pc L (mI y :: mI x :: S) G := by
  have hl0 := Nat.eq_of_beq_eq_true hi
  subst hl0
  intro l X p e R s m args below meth c H locs ls Z hR hF hW hS hL hO hLo hZ
  have hts := hF.2.2.2.2.1
  have hx : r32 x := hO.t.h
  have hy : r32 y := hO.h
  have hr := rest_cat (X := X) hrest
  have hm : r32 (mMin x y) := by unfold mMin; split <;> assumption
  refine va_mmin hF.1 hF.2.1 (by rw [hF.2.2.1]; exact hL.2.1.symm) hF.2.2.2.1 (hts _ h1) (hts _ h2) (hts _ h3) (hts _ h4) (by have := hR.1; omega) (by have := hR.2.1; omega) (Nat.le_trans hce hR.2.2.1) (Nat.le_trans hsl hR.2.2.2) hd ?_
  have e0 : (if Int32.ofInt y < Int32.ofInt x then Int32.ofInt y else Int32.ofInt x) = Int32.ofInt (mMin x y) := by
    unfold mMin
    by_cases c : y < x
    · rw [if_pos ((i32_lt hy hx).mpr c), if_pos c]
    · rw [if_neg (fun q => c ((i32_lt hy hx).mp q)), if_neg c]
  rw [e0]
  exact K l X p e R s m args below meth c H locs ls Z hR hF hW hS hL (hO.t.t.c hm) hLo hZ
end MTH
