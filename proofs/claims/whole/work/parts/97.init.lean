/-! ===== printed by wip/whole/gen97.py: the constructors ===== -/
def tD : Nat → Bool := fun _ => true
/-- a walk in a constructor, from its start -/
theorem cp_vc {o : mO} {M : mM} {code : mCd} {D : Nat → Bool} {d mc ms n n' : Nat} {as : List mV} {G : mG} {Q : Option mV → mG → Prop} (cuts : List Nat) (f : Nat) (hO : okO o) (hq : Cert M code) (hi : M.1.name = "<init>") (hpl : plainName M.1.cls = true) (ho : o.1 = M.1.cls) (hn : (iniL as).length ≤ M.2.2.1)
    (h : vc o M D d mc ms false true n' Q code cuts f false n 0 0 0 (iniP as M.2.2.1) [] G) : MP D (d + 1) mc ms false n n' M as G Q :=
  mp_of_wp hpl ho hn (vc_sound hO (fun _ => hi) hq f false n 0 0 0 _ _ _ h)
/-- from a place where it was cut -/
theorem cw_vc {o : mO} {M : mM} {code : mCd} {D : Nat → Bool} {d mc ms n n' ce sl pc : Nat} {L : List (Option mV)} {S : List mV} {G : mG} {Q : Option mV → mG → Prop} (cuts : List Nat) (f : Nat) (hO : okO o) (hq : Cert M code) (hi : M.1.name = "<init>")
    (h : vc o M D d mc ms false true n' Q code cuts f false n ce sl pc L S G) : WP o M D (d + 1) mc ms false n' Q n ce sl pc L S G :=
  vc_sound hO (fun _ => hi) hq f false n ce sl pc _ _ _ h
/-- a static method before the constructors have ended -/
theorem np_vc {o : mO} {M : mM} {code : mCd} {D : Nat → Bool} {d n : Nat} {as : List mV} {G : mG} {Q : Option mV → mG → Prop} (cuts : List Nat) (f : Nat) (hO : okO o) (hq : Cert M code) (hpl : plainName M.1.cls = true) (ho : o.1 = M.1.cls) (hn : (iniL as).length ≤ M.2.2.1)
    (h : vc o M D d 0 0 false false n Q code cuts f false n 0 0 0 (iniP as M.2.2.1) [] G) : MP D (d + 1) 0 0 false n n M as G Q :=
  mp_of_wp hpl ho hn (vc_sound hO (fun h => by cases h) hq f false n 0 0 0 _ _ _ h)
theorem nw_vc {o : mO} {M : mM} {code : mCd} {D : Nat → Bool} {d n ce sl pc : Nat} {L : List (Option mV)} {S : List mV} {G : mG} {Q : Option mV → mG → Prop} (cuts : List Nat) (f : Nat) (hO : okO o) (hq : Cert M code)
    (h : vc o M D d 0 0 false false n Q code cuts f false n ce sl pc L S G) : WP o M D (d + 1) 0 0 false n Q n ce sl pc L S G :=
  vc_sound hO (fun h => by cases h) hq f false n ce sl pc _ _ _ h
set_option maxHeartbeats 4000000 in
theorem np_fill_7 {q : Nat} {G : mG} {x : Int} {Q : Option mV → mG → Prop} (h : Q none (gf G 7 6 x)) : MP tD (q + 1) 0 0 false 8 8 M_J7_fill_53178 [mR 12, mI x] G Q := by
  have key : ∀ d j : Nat, j + d = 6 → WP o_J7 M_J7_fill_53178 tD (q + 1) 0 0 false 8 Q 8 0 0 5 [some (mR 12), some (mI x), some (mI ((j : Nat) : Int)), some (mI ((6 : Nat) : Int))] [] (gf G 7 j x) := by
    intro d
    induction d with
    | zero =>
      intro j hj
      have e : j = 6 := by omega
      subst e
      refine nw_vc [5, 14] 400 oo_J7 q_J7_fill_53178 ?_
      exact ⟨fun _ => h, fun (c1 : ((6 : Nat) : Int) < ((6 : Nat) : Int)) => absurd c1 (by decide)⟩
    | succ d ih =>
      intro j hj
      refine nw_vc [5, 14] 400 oo_J7 q_J7_fill_53178 ?_
      refine ⟨fun (c1 : ((6 : Nat) : Int) ≤ ((j : Nat) : Int)) => absurd c1 (by omega), fun _ => ?_⟩
      refine ⟨(show 0 ≤ ((j : Nat) : Int) ∧ ((j : Nat) : Int) < ((6 : Nat) : Int) from by omega), ?_⟩
      refine (show WP o_J7 M_J7_fill_53178 tD (q + 1) 0 0 false 8 Q 8 0 0 14 [some (mR 12), some (mI x), some (mI ((j : Nat) : Int)), some (mI ((6 : Nat) : Int))] [] (gs (gf G 7 j x) 7 (Int.toNat ((j : Nat) : Int)) x) from ?_)
      rw [st_nat, gs_gf]
      refine nw_vc [5, 14] 400 oo_J7 q_J7_fill_53178 ?_
      refine (show WP o_J7 M_J7_fill_53178 tD (q + 1) 0 0 false 8 Q 8 0 0 5 [some (mR 12), some (mI x), some (mI (w32 (((j : Nat) : Int) + 1))), some (mI ((6 : Nat) : Int))] [] (gf G 7 (j + 1) x) from ?_)
      rw [w32_nat (by omega)]
      exact ih (j + 1) (by omega)
  have k0 := key 6 0 (by omega)
  rw [gf_0] at k0
  refine np_vc [5, 14] 400 oo_J7 q_J7_fill_53178 (by decide) rfl (Nat.le_of_ble_eq_true rfl) ?_
  exact k0
set_option maxHeartbeats 4000000 in
theorem np_fill_22 {q : Nat} {G : mG} {x : Int} {Q : Option mV → mG → Prop} (h : Q none (gf G 22 234 x)) : MP tD (q + 1) 0 0 false 24 24 M_J7_fill_53178 [mR 27, mI x] G Q := by
  have key : ∀ d j : Nat, j + d = 234 → WP o_J7 M_J7_fill_53178 tD (q + 1) 0 0 false 24 Q 24 0 0 5 [some (mR 27), some (mI x), some (mI ((j : Nat) : Int)), some (mI ((234 : Nat) : Int))] [] (gf G 22 j x) := by
    intro d
    induction d with
    | zero =>
      intro j hj
      have e : j = 234 := by omega
      subst e
      refine nw_vc [5, 14] 400 oo_J7 q_J7_fill_53178 ?_
      exact ⟨fun _ => h, fun (c1 : ((234 : Nat) : Int) < ((234 : Nat) : Int)) => absurd c1 (by decide)⟩
    | succ d ih =>
      intro j hj
      refine nw_vc [5, 14] 400 oo_J7 q_J7_fill_53178 ?_
      refine ⟨fun (c1 : ((234 : Nat) : Int) ≤ ((j : Nat) : Int)) => absurd c1 (by omega), fun _ => ?_⟩
      refine ⟨(show 0 ≤ ((j : Nat) : Int) ∧ ((j : Nat) : Int) < ((234 : Nat) : Int) from by omega), ?_⟩
      refine (show WP o_J7 M_J7_fill_53178 tD (q + 1) 0 0 false 24 Q 24 0 0 14 [some (mR 27), some (mI x), some (mI ((j : Nat) : Int)), some (mI ((234 : Nat) : Int))] [] (gs (gf G 22 j x) 22 (Int.toNat ((j : Nat) : Int)) x) from ?_)
      rw [st_nat, gs_gf]
      refine nw_vc [5, 14] 400 oo_J7 q_J7_fill_53178 ?_
      refine (show WP o_J7 M_J7_fill_53178 tD (q + 1) 0 0 false 24 Q 24 0 0 5 [some (mR 27), some (mI x), some (mI (w32 (((j : Nat) : Int) + 1))), some (mI ((234 : Nat) : Int))] [] (gf G 22 (j + 1) x) from ?_)
      rw [w32_nat (by omega)]
      exact ih (j + 1) (by omega)
  have k0 := key 234 0 (by omega)
  rw [gf_0] at k0
  refine np_vc [5, 14] 400 oo_J7 q_J7_fill_53178 (by decide) rfl (Nat.le_of_ble_eq_true rfl) ?_
  exact k0
def mr_ (x y : Int) : Int := if ¬ y = 0 then (w64 ((w64 (27 * x)) + (w32 ((w32 (y - 97)) + 1)))) else x
theorem np_more {q : Nat} {G : mG} {x y : Int} {Q : Option mV → mG → Prop} (h : Q (some (mJ (mr_ x y))) G) : MP tD (q + 1) 0 0 false 119 119 M_X12_more [mJ x, mI y] G Q := by
  unfold mr_ at h
  refine np_vc [] 400 oo_X12 q_X12_more (by decide) rfl (Nat.le_of_ble_eq_true rfl) ?_
  refine ⟨fun (c1 : ¬ y = 0) => ?_, fun (c1 : y = 0) => ?_⟩
  · rw [if_pos c1] at h
    exact h
  · rw [if_neg (fun q => q c1)] at h
    exact h
def wd_ (a b c d e f g h : Int) : Int := mr_ (mr_ (mr_ (mr_ (mr_ (mr_ (mr_ (mr_ 0 a) b) c) d) e) f) g) h
set_option maxHeartbeats 4000000 in
theorem np_word {q : Nat} {G : mG} {a b c d e f g h : Int} {Q : Option mV → mG → Prop} (hq : Q (some (mJ (wd_ a b c d e f g h))) G) : MP tD (q + 2) 0 0 false 119 119 M_X12_word [mI a, mI b, mI c, mI d, mI e, mI f, mI g, mI h] G Q := by
  refine np_vc [] 400 oo_X12 q_X12_word (by decide) rfl (Nat.le_of_ble_eq_true rfl) ?_
  refine np_more ?_
  refine np_more ?_
  refine np_more ?_
  refine np_more ?_
  refine np_more ?_
  refine np_more ?_
  refine np_more ?_
  refine np_more ?_
  exact hq
def i1_1 (G : mG) : mG := gs G 1 0 ((7 : Nat) : Int)
def i1_2 (G : mG) : mG := gs (i1_1 G) 1 1 ((8 : Nat) : Int)
def i1_3 (G : mG) : mG := gs (i1_2 G) 1 2 ((9 : Nat) : Int)
def i1_4 (G : mG) : mG := gs (i1_3 G) 1 3 ((10 : Nat) : Int)
def i1_5 (G : mG) : mG := gs (i1_4 G) 1 4 ((11 : Nat) : Int)
def i1_6 (G : mG) : mG := gs (i1_5 G) 1 5 ((12 : Nat) : Int)
def i1_7 (G : mG) : mG := gf (i1_6 G) 7 6 3
def E_i1 (G : mG) : mG := (i1_7 G)
set_option maxHeartbeats 4000000 in
theorem sp_i1 {q : Nat} {G : mG} {Q : Option mV → mG → Prop} (h : Q none (E_i1 G)) : MP tD (q + 2) 6 51 false 2 8 M_X0_init [mR 6] G Q := by
  refine cp_vc [12, 20, 28, 36, 44, 52, 56, 60] 400 oo_X0 q_X0_init rfl (by decide) rfl (Nat.le_of_ble_eq_true rfl) ?_
  refine ⟨(show (9 : Int) = ((9 : Nat) : Int) from rfl), ?_⟩
  refine (show WP o_X0 M_X0_init tD (q + 2) 6 51 false 8 Q 3 1 9 12 [some (mR 6)] [] (i1_1 G) from ?_)
  refine cw_vc [12, 20, 28, 36, 44, 52, 56, 60] 400 oo_X0 q_X0_init rfl ?_
  refine ⟨(show (9 : Int) = ((9 : Nat) : Int) from rfl), ?_⟩
  refine (show WP o_X0 M_X0_init tD (q + 2) 6 51 false 8 Q 4 2 18 20 [some (mR 6)] [] (i1_2 G) from ?_)
  refine cw_vc [12, 20, 28, 36, 44, 52, 56, 60] 400 oo_X0 q_X0_init rfl ?_
  refine ⟨(show (9 : Int) = ((9 : Nat) : Int) from rfl), ?_⟩
  refine (show WP o_X0 M_X0_init tD (q + 2) 6 51 false 8 Q 5 3 27 28 [some (mR 6)] [] (i1_3 G) from ?_)
  refine cw_vc [12, 20, 28, 36, 44, 52, 56, 60] 400 oo_X0 q_X0_init rfl ?_
  refine ⟨(show (9 : Int) = ((9 : Nat) : Int) from rfl), ?_⟩
  refine (show WP o_X0 M_X0_init tD (q + 2) 6 51 false 8 Q 6 4 36 36 [some (mR 6)] [] (i1_4 G) from ?_)
  refine cw_vc [12, 20, 28, 36, 44, 52, 56, 60] 400 oo_X0 q_X0_init rfl ?_
  refine ⟨(show (9 : Int) = ((9 : Nat) : Int) from rfl), ?_⟩
  refine (show WP o_X0 M_X0_init tD (q + 2) 6 51 false 8 Q 7 5 45 44 [some (mR 6)] [] (i1_5 G) from ?_)
  refine cw_vc [12, 20, 28, 36, 44, 52, 56, 60] 400 oo_X0 q_X0_init rfl ?_
  refine ⟨(show (6 : Int) = ((6 : Nat) : Int) from rfl), ?_⟩
  refine (show WP o_X0 M_X0_init tD (q + 2) 6 51 false 8 Q 8 6 51 52 [some (mR 6)] [] (i1_6 G) from ?_)
  refine cw_vc [12, 20, 28, 36, 44, 52, 56, 60] 400 oo_X0 q_X0_init rfl ?_
  refine (show WP o_X0 M_X0_init tD (q + 2) 6 51 false 8 Q 8 6 51 56 [some (mR 6)] [mR 12] (i1_6 G) from ?_)
  refine cw_vc [12, 20, 28, 36, 44, 52, 56, 60] 400 oo_X0 q_X0_init rfl ?_
  refine np_fill_7 ?_
  refine (show WP o_X0 M_X0_init tD (q + 2) 6 51 false 8 Q 8 6 51 60 [some (mR 6)] [] (i1_7 G) from ?_)
  refine cw_vc [12, 20, 28, 36, 44, 52, 56, 60] 400 oo_X0 q_X0_init rfl ?_
  exact h
def i8_1 (G : mG) : mG := gs G 8 0 ((14 : Nat) : Int)
def i8_2 (G : mG) : mG := gs (i8_1 G) 8 1 ((15 : Nat) : Int)
def i8_3 (G : mG) : mG := gs (i8_2 G) 8 2 ((16 : Nat) : Int)
def i8_4 (G : mG) : mG := gs (i8_3 G) 8 3 ((17 : Nat) : Int)
def E_i8 (G : mG) : mG := (i8_4 G)
set_option maxHeartbeats 4000000 in
theorem sp_i8 {q : Nat} {G : mG} {Q : Option mV → mG → Prop} (h : Q none (E_i8 G)) : MP tD (q + 1) 4 1200 false 9 13 M_X3_init [mR 13] G Q := by
  refine cp_vc [13, 22, 31, 40] 400 oo_X3 q_X3_init rfl (by decide) rfl (Nat.le_of_ble_eq_true rfl) ?_
  refine ⟨(show (300 : Int) = ((300 : Nat) : Int) from rfl), ?_⟩
  refine (show WP o_X3 M_X3_init tD (q + 1) 4 1200 false 13 Q 10 1 300 13 [some (mR 13)] [] (i8_1 G) from ?_)
  refine cw_vc [13, 22, 31, 40] 400 oo_X3 q_X3_init rfl ?_
  refine ⟨(show (300 : Int) = ((300 : Nat) : Int) from rfl), ?_⟩
  refine (show WP o_X3 M_X3_init tD (q + 1) 4 1200 false 13 Q 11 2 600 22 [some (mR 13)] [] (i8_2 G) from ?_)
  refine cw_vc [13, 22, 31, 40] 400 oo_X3 q_X3_init rfl ?_
  refine ⟨(show (300 : Int) = ((300 : Nat) : Int) from rfl), ?_⟩
  refine (show WP o_X3 M_X3_init tD (q + 1) 4 1200 false 13 Q 12 3 900 31 [some (mR 13)] [] (i8_3 G) from ?_)
  refine cw_vc [13, 22, 31, 40] 400 oo_X3 q_X3_init rfl ?_
  refine ⟨(show (300 : Int) = ((300 : Nat) : Int) from rfl), ?_⟩
  refine (show WP o_X3 M_X3_init tD (q + 1) 4 1200 false 13 Q 13 4 1200 40 [some (mR 13)] [] (i8_4 G) from ?_)
  refine cw_vc [13, 22, 31, 40] 400 oo_X3 q_X3_init rfl ?_
  exact h
def i13_1 (G : mG) : mG := gs G 13 0 ((19 : Nat) : Int)
def E_i13 (G : mG) : mG := (i13_1 G)
set_option maxHeartbeats 4000000 in
theorem sp_i13 {q : Nat} {G : mG} {Q : Option mV → mG → Prop} (h : Q none (E_i13 G)) : MP tD (q + 1) 1 3000 false 14 15 M_X9_init [mR 18] G Q := by
  refine cp_vc [13] 400 oo_X9 q_X9_init rfl (by decide) rfl (Nat.le_of_ble_eq_true rfl) ?_
  refine ⟨(show (3000 : Int) = ((3000 : Nat) : Int) from rfl), ?_⟩
  refine (show WP o_X9 M_X9_init tD (q + 1) 1 3000 false 15 Q 15 1 3000 13 [some (mR 18)] [] (i13_1 G) from ?_)
  refine cw_vc [13] 400 oo_X9 q_X9_init rfl ?_
  exact h
def i20_1 (G : mG) : mG := gs G 20 0 ((18 : Nat) : Int)
def E_i20 (G : mG) : mG := (i20_1 G)
set_option maxHeartbeats 4000000 in
theorem sp_i20 {q : Nat} {G : mG} {Q : Option mV → mG → Prop} (h : Q none (E_i20 G)) : MP tD (q + 1) 0 0 false 21 21 M_X10_init [mR 25, mR 18] G Q := by
  refine cp_vc [9] 400 oo_X10 q_X10_init rfl (by decide) rfl (Nat.le_of_ble_eq_true rfl) ?_
  refine (show WP o_X10 M_X10_init tD (q + 1) 0 0 false 21 Q 21 0 0 9 [some (mR 25), some (mR 18)] [] (i20_1 G) from ?_)
  refine cw_vc [9] 400 oo_X10 q_X10_init rfl ?_
  exact h
def i15_1 (G : mG) : mG := gs G 15 1 ((21 : Nat) : Int)
def i15_2 (G : mG) : mG := gs (i15_1 G) 15 2 ((22 : Nat) : Int)
def i15_3 (G : mG) : mG := gs (i15_2 G) 15 3 ((23 : Nat) : Int)
def i15_4 (G : mG) : mG := gs (i15_3 G) 15 4 ((24 : Nat) : Int)
def i15_5 (G : mG) : mG := E_i20 (i15_4 G)
def i15_6 (G : mG) : mG := gs (i15_5 G) 15 0 ((25 : Nat) : Int)
def E_i15 (G : mG) : mG := (i15_6 G)
set_option maxHeartbeats 4000000 in
theorem sp_i15 {q : Nat} {G : mG} {Q : Option mV → mG → Prop} (h : Q none (E_i15 G)) : MP tD (q + 2) 5 129 false 16 21 M_X7_init [mR 20, mR 18] G Q := by
  refine cp_vc [12, 20, 28, 36, 40, 45, 48] 400 oo_X7 q_X7_init rfl (by decide) rfl (Nat.le_of_ble_eq_true rfl) ?_
  refine ⟨(show (8 : Int) = ((8 : Nat) : Int) from rfl), ?_⟩
  refine (show WP o_X7 M_X7_init tD (q + 2) 5 129 false 21 Q 17 1 8 12 [some (mR 20), some (mR 18)] [] (i15_1 G) from ?_)
  refine cw_vc [12, 20, 28, 36, 40, 45, 48] 400 oo_X7 q_X7_init rfl ?_
  refine ⟨(show (40 : Int) = ((40 : Nat) : Int) from rfl), ?_⟩
  refine (show WP o_X7 M_X7_init tD (q + 2) 5 129 false 21 Q 18 2 48 20 [some (mR 20), some (mR 18)] [] (i15_2 G) from ?_)
  refine cw_vc [12, 20, 28, 36, 40, 45, 48] 400 oo_X7 q_X7_init rfl ?_
  refine ⟨(show (40 : Int) = ((40 : Nat) : Int) from rfl), ?_⟩
  refine (show WP o_X7 M_X7_init tD (q + 2) 5 129 false 21 Q 19 3 88 28 [some (mR 20), some (mR 18)] [] (i15_3 G) from ?_)
  refine cw_vc [12, 20, 28, 36, 40, 45, 48] 400 oo_X7 q_X7_init rfl ?_
  refine ⟨(show (35 : Int) = ((35 : Nat) : Int) from rfl), ?_⟩
  refine (show WP o_X7 M_X7_init tD (q + 2) 5 129 false 21 Q 20 4 123 36 [some (mR 20), some (mR 18)] [] (i15_4 G) from ?_)
  refine cw_vc [12, 20, 28, 36, 40, 45, 48] 400 oo_X7 q_X7_init rfl ?_
  refine (show WP o_X7 M_X7_init tD (q + 2) 5 129 false 21 Q 21 5 129 40 [some (mR 20), some (mR 18)] [mR 25, mR 20] (i15_4 G) from ?_)
  refine cw_vc [12, 20, 28, 36, 40, 45, 48] 400 oo_X7 q_X7_init rfl ?_
  refine sp_i20 (q := q + 0) ?_
  refine (show WP o_X7 M_X7_init tD (q + 2) 5 129 false 21 Q 21 5 129 45 [some (mR 20), some (mR 18)] [mR 25, mR 20] (i15_5 G) from ?_)
  refine cw_vc [12, 20, 28, 36, 40, 45, 48] 400 oo_X7 q_X7_init rfl ?_
  refine (show WP o_X7 M_X7_init tD (q + 2) 5 129 false 21 Q 21 5 129 48 [some (mR 20), some (mR 18)] [] (i15_6 G) from ?_)
  refine cw_vc [12, 20, 28, 36, 40, 45, 48] 400 oo_X7 q_X7_init rfl ?_
  exact h
def i21_1 (G : mG) : mG := gs G 21 0 ((27 : Nat) : Int)
def i21_2 (G : mG) : mG := gs (i21_1 G) 21 1 ((28 : Nat) : Int)
def i21_3 (G : mG) : mG := gf (i21_2 G) 22 234 (-1)
def E_i21 (G : mG) : mG := (i21_3 G)
set_option maxHeartbeats 4000000 in
theorem sp_i21 {q : Nat} {G : mG} {Q : Option mV → mG → Prop} (h : Q none (E_i21 G)) : MP tD (q + 2) 2 260 false 22 24 M_X4_init [mR 26] G Q := by
  refine cp_vc [13, 21, 25, 29] 400 oo_X4 q_X4_init rfl (by decide) rfl (Nat.le_of_ble_eq_true rfl) ?_
  refine ⟨(show (234 : Int) = ((234 : Nat) : Int) from rfl), ?_⟩
  refine (show WP o_X4 M_X4_init tD (q + 2) 2 260 false 24 Q 23 1 234 13 [some (mR 26)] [] (i21_1 G) from ?_)
  refine cw_vc [13, 21, 25, 29] 400 oo_X4 q_X4_init rfl ?_
  refine ⟨(show (26 : Int) = ((26 : Nat) : Int) from rfl), ?_⟩
  refine (show WP o_X4 M_X4_init tD (q + 2) 2 260 false 24 Q 24 2 260 21 [some (mR 26)] [] (i21_2 G) from ?_)
  refine cw_vc [13, 21, 25, 29] 400 oo_X4 q_X4_init rfl ?_
  refine (show WP o_X4 M_X4_init tD (q + 2) 2 260 false 24 Q 24 2 260 25 [some (mR 26)] [mR 27] (i21_2 G) from ?_)
  refine cw_vc [13, 21, 25, 29] 400 oo_X4 q_X4_init rfl ?_
  refine np_fill_22 ?_
  refine (show WP o_X4 M_X4_init tD (q + 2) 2 260 false 24 Q 24 2 260 29 [some (mR 26)] [] (i21_3 G) from ?_)
  refine cw_vc [13, 21, 25, 29] 400 oo_X4 q_X4_init rfl ?_
  exact h
def i24_1 (G : mG) : mG := gs G 24 0 ((30 : Nat) : Int)
def E_i24 (G : mG) : mG := (i24_1 G)
set_option maxHeartbeats 4000000 in
theorem sp_i24 {q : Nat} {G : mG} {Q : Option mV → mG → Prop} (h : Q none (E_i24 G)) : MP tD (q + 1) 1 35 false 25 26 M_X5_init [mR 29] G Q := by
  refine cp_vc [12] 400 oo_X5 q_X5_init rfl (by decide) rfl (Nat.le_of_ble_eq_true rfl) ?_
  refine ⟨(show (35 : Int) = ((35 : Nat) : Int) from rfl), ?_⟩
  refine (show WP o_X5 M_X5_init tD (q + 1) 1 35 false 26 Q 26 1 35 12 [some (mR 29)] [] (i24_1 G) from ?_)
  refine cw_vc [12] 400 oo_X5 q_X5_init rfl ?_
  exact h
def i26_1 (G : mG) : mG := gs G 26 0 ((32 : Nat) : Int)
def i26_2 (G : mG) : mG := gs (i26_1 G) 26 1 ((33 : Nat) : Int)
def E_i26 (G : mG) : mG := (i26_2 G)
set_option maxHeartbeats 4000000 in
theorem sp_i26 {q : Nat} {G : mG} {Q : Option mV → mG → Prop} (h : Q none (E_i26 G)) : MP tD (q + 1) 2 28 false 27 29 M_X2_init [mR 31] G Q := by
  refine cp_vc [12, 20] 400 oo_X2 q_X2_init rfl (by decide) rfl (Nat.le_of_ble_eq_true rfl) ?_
  refine ⟨(show (14 : Int) = ((14 : Nat) : Int) from rfl), ?_⟩
  refine (show WP o_X2 M_X2_init tD (q + 1) 2 28 false 29 Q 28 1 14 12 [some (mR 31)] [] (i26_1 G) from ?_)
  refine cw_vc [12, 20] 400 oo_X2 q_X2_init rfl ?_
  refine ⟨(show (14 : Int) = ((14 : Nat) : Int) from rfl), ?_⟩
  refine (show WP o_X2 M_X2_init tD (q + 1) 2 28 false 29 Q 29 2 28 20 [some (mR 31)] [] (i26_2 G) from ?_)
  refine cw_vc [12, 20] 400 oo_X2 q_X2_init rfl ?_
  exact h
def i29_1 (G : mG) : mG := gs G 29 5 ((35 : Nat) : Int)
def i29_2 (G : mG) : mG := gs (i29_1 G) 29 6 ((36 : Nat) : Int)
def i29_3 (G : mG) : mG := gs (i29_2 G) 29 7 ((37 : Nat) : Int)
def i29_4 (G : mG) : mG := gs (i29_3 G) 29 8 ((38 : Nat) : Int)
def i29_5 (G : mG) : mG := gs (i29_4 G) 29 9 ((39 : Nat) : Int)
def i29_6 (G : mG) : mG := gs (i29_5 G) 29 10 ((40 : Nat) : Int)
def i29_7 (G : mG) : mG := gs (i29_6 G) 29 11 ((41 : Nat) : Int)
def i29_8 (G : mG) : mG := gs (i29_7 G) 29 12 ((42 : Nat) : Int)
def i29_9 (G : mG) : mG := gs (i29_8 G) 29 13 ((43 : Nat) : Int)
def i29_10 (G : mG) : mG := gs (i29_9 G) 29 14 ((44 : Nat) : Int)
def i29_11 (G : mG) : mG := gs (i29_10 G) 29 0 ((6 : Nat) : Int)
def i29_12 (G : mG) : mG := gs (i29_11 G) 29 1 ((13 : Nat) : Int)
def i29_13 (G : mG) : mG := gs (i29_12 G) 29 2 ((29 : Nat) : Int)
def E_i29 (G : mG) : mG := (i29_13 G)
set_option maxHeartbeats 4000000 in
theorem sp_i29 {q : Nat} {G : mG} {Q : Option mV → mG → Prop} (h : Q none (E_i29 G)) : MP tD (q + 1) 10 1591 false 30 40 M_X8_init [mR 34, mR 6, mR 13, mR 29] G Q := by
  refine cp_vc [12, 20, 28, 36, 45, 53, 61, 69, 78, 87, 92, 97, 102] 400 oo_X8 q_X8_init rfl (by decide) rfl (Nat.le_of_ble_eq_true rfl) ?_
  refine ⟨(show (9 : Int) = ((9 : Nat) : Int) from rfl), ?_⟩
  refine (show WP o_X8 M_X8_init tD (q + 1) 10 1591 false 40 Q 31 1 9 12 [some (mR 34), some (mR 6), some (mR 13), some (mR 29)] [] (i29_1 G) from ?_)
  refine cw_vc [12, 20, 28, 36, 45, 53, 61, 69, 78, 87, 92, 97, 102] 400 oo_X8 q_X8_init rfl ?_
  refine ⟨(show (45 : Int) = ((45 : Nat) : Int) from rfl), ?_⟩
  refine (show WP o_X8 M_X8_init tD (q + 1) 10 1591 false 40 Q 32 2 54 20 [some (mR 34), some (mR 6), some (mR 13), some (mR 29)] [] (i29_2 G) from ?_)
  refine cw_vc [12, 20, 28, 36, 45, 53, 61, 69, 78, 87, 92, 97, 102] 400 oo_X8 q_X8_init rfl ?_
  refine ⟨(show (45 : Int) = ((45 : Nat) : Int) from rfl), ?_⟩
  refine (show WP o_X8 M_X8_init tD (q + 1) 10 1591 false 40 Q 33 3 99 28 [some (mR 34), some (mR 6), some (mR 13), some (mR 29)] [] (i29_3 G) from ?_)
  refine cw_vc [12, 20, 28, 36, 45, 53, 61, 69, 78, 87, 92, 97, 102] 400 oo_X8 q_X8_init rfl ?_
  refine ⟨(show (40 : Int) = ((40 : Nat) : Int) from rfl), ?_⟩
  refine (show WP o_X8 M_X8_init tD (q + 1) 10 1591 false 40 Q 34 4 139 36 [some (mR 34), some (mR 6), some (mR 13), some (mR 29)] [] (i29_4 G) from ?_)
  refine cw_vc [12, 20, 28, 36, 45, 53, 61, 69, 78, 87, 92, 97, 102] 400 oo_X8 q_X8_init rfl ?_
  refine ⟨(show (400 : Int) = ((400 : Nat) : Int) from rfl), ?_⟩
  refine (show WP o_X8 M_X8_init tD (q + 1) 10 1591 false 40 Q 35 5 539 45 [some (mR 34), some (mR 6), some (mR 13), some (mR 29)] [] (i29_5 G) from ?_)
  refine cw_vc [12, 20, 28, 36, 45, 53, 61, 69, 78, 87, 92, 97, 102] 400 oo_X8 q_X8_init rfl ?_
  refine ⟨(show (9 : Int) = ((9 : Nat) : Int) from rfl), ?_⟩
  refine (show WP o_X8 M_X8_init tD (q + 1) 10 1591 false 40 Q 36 6 548 53 [some (mR 34), some (mR 6), some (mR 13), some (mR 29)] [] (i29_6 G) from ?_)
  refine cw_vc [12, 20, 28, 36, 45, 53, 61, 69, 78, 87, 92, 97, 102] 400 oo_X8 q_X8_init rfl ?_
  refine ⟨(show (9 : Int) = ((9 : Nat) : Int) from rfl), ?_⟩
  refine (show WP o_X8 M_X8_init tD (q + 1) 10 1591 false 40 Q 37 7 557 61 [some (mR 34), some (mR 6), some (mR 13), some (mR 29)] [] (i29_7 G) from ?_)
  refine cw_vc [12, 20, 28, 36, 45, 53, 61, 69, 78, 87, 92, 97, 102] 400 oo_X8 q_X8_init rfl ?_
  refine ⟨(show (10 : Int) = ((10 : Nat) : Int) from rfl), ?_⟩
  refine (show WP o_X8 M_X8_init tD (q + 1) 10 1591 false 40 Q 38 8 567 69 [some (mR 34), some (mR 6), some (mR 13), some (mR 29)] [] (i29_8 G) from ?_)
  refine cw_vc [12, 20, 28, 36, 45, 53, 61, 69, 78, 87, 92, 97, 102] 400 oo_X8 q_X8_init rfl ?_
  refine ⟨(show (512 : Int) = ((512 : Nat) : Int) from rfl), ?_⟩
  refine (show WP o_X8 M_X8_init tD (q + 1) 10 1591 false 40 Q 39 9 1079 78 [some (mR 34), some (mR 6), some (mR 13), some (mR 29)] [] (i29_9 G) from ?_)
  refine cw_vc [12, 20, 28, 36, 45, 53, 61, 69, 78, 87, 92, 97, 102] 400 oo_X8 q_X8_init rfl ?_
  refine ⟨(show (512 : Int) = ((512 : Nat) : Int) from rfl), ?_⟩
  refine (show WP o_X8 M_X8_init tD (q + 1) 10 1591 false 40 Q 40 10 1591 87 [some (mR 34), some (mR 6), some (mR 13), some (mR 29)] [] (i29_10 G) from ?_)
  refine cw_vc [12, 20, 28, 36, 45, 53, 61, 69, 78, 87, 92, 97, 102] 400 oo_X8 q_X8_init rfl ?_
  refine (show WP o_X8 M_X8_init tD (q + 1) 10 1591 false 40 Q 40 10 1591 92 [some (mR 34), some (mR 6), some (mR 13), some (mR 29)] [] (i29_11 G) from ?_)
  refine cw_vc [12, 20, 28, 36, 45, 53, 61, 69, 78, 87, 92, 97, 102] 400 oo_X8 q_X8_init rfl ?_
  refine (show WP o_X8 M_X8_init tD (q + 1) 10 1591 false 40 Q 40 10 1591 97 [some (mR 34), some (mR 6), some (mR 13), some (mR 29)] [] (i29_12 G) from ?_)
  refine cw_vc [12, 20, 28, 36, 45, 53, 61, 69, 78, 87, 92, 97, 102] 400 oo_X8 q_X8_init rfl ?_
  refine (show WP o_X8 M_X8_init tD (q + 1) 10 1591 false 40 Q 40 10 1591 102 [some (mR 34), some (mR 6), some (mR 13), some (mR 29)] [] (i29_13 G) from ?_)
  refine cw_vc [12, 20, 28, 36, 45, 53, 61, 69, 78, 87, 92, 97, 102] 400 oo_X8 q_X8_init rfl ?_
  exact h
def i40_1 (G : mG) : mG := gs G 40 0 ((46 : Nat) : Int)
def i40_2 (G : mG) : mG := gs (i40_1 G) 40 1 ((47 : Nat) : Int)
def i40_3 (G : mG) : mG := gs (i40_2 G) 40 2 ((48 : Nat) : Int)
def i40_4 (G : mG) : mG := gs (i40_3 G) 40 3 ((49 : Nat) : Int)
def i40_5 (G : mG) : mG := gs (i40_4 G) 40 4 ((50 : Nat) : Int)
def i40_6 (G : mG) : mG := gs (i40_5 G) 40 5 ((51 : Nat) : Int)
def i40_7 (G : mG) : mG := gs (i40_6 G) 40 6 ((52 : Nat) : Int)
def i40_8 (G : mG) : mG := gs (i40_7 G) 40 7 ((53 : Nat) : Int)
def i40_9 (G : mG) : mG := gs (i40_8 G) 40 8 ((54 : Nat) : Int)
def i40_10 (G : mG) : mG := gs (i40_9 G) 40 9 ((55 : Nat) : Int)
def i40_11 (G : mG) : mG := gs (i40_10 G) 40 10 ((56 : Nat) : Int)
def E_i40 (G : mG) : mG := (i40_11 G)
set_option maxHeartbeats 4000000 in
theorem sp_i40 {q : Nat} {G : mG} {Q : Option mV → mG → Prop} (h : Q none (E_i40 G)) : MP tD (q + 1) 11 960 false 41 52 M_X1_init [mR 45] G Q := by
  refine cp_vc [12, 20, 28, 36, 44, 52, 60, 68, 76, 84, 93] 400 oo_X1 q_X1_init rfl (by decide) rfl (Nat.le_of_ble_eq_true rfl) ?_
  refine ⟨(show (8 : Int) = ((8 : Nat) : Int) from rfl), ?_⟩
  refine (show WP o_X1 M_X1_init tD (q + 1) 11 960 false 52 Q 42 1 8 12 [some (mR 45)] [] (i40_1 G) from ?_)
  refine cw_vc [12, 20, 28, 36, 44, 52, 60, 68, 76, 84, 93] 400 oo_X1 q_X1_init rfl ?_
  refine ⟨(show (8 : Int) = ((8 : Nat) : Int) from rfl), ?_⟩
  refine (show WP o_X1 M_X1_init tD (q + 1) 11 960 false 52 Q 43 2 16 20 [some (mR 45)] [] (i40_2 G) from ?_)
  refine cw_vc [12, 20, 28, 36, 44, 52, 60, 68, 76, 84, 93] 400 oo_X1 q_X1_init rfl ?_
  refine ⟨(show (64 : Int) = ((64 : Nat) : Int) from rfl), ?_⟩
  refine (show WP o_X1 M_X1_init tD (q + 1) 11 960 false 52 Q 44 3 80 28 [some (mR 45)] [] (i40_3 G) from ?_)
  refine cw_vc [12, 20, 28, 36, 44, 52, 60, 68, 76, 84, 93] 400 oo_X1 q_X1_init rfl ?_
  refine ⟨(show (40 : Int) = ((40 : Nat) : Int) from rfl), ?_⟩
  refine (show WP o_X1 M_X1_init tD (q + 1) 11 960 false 52 Q 45 4 120 36 [some (mR 45)] [] (i40_4 G) from ?_)
  refine cw_vc [12, 20, 28, 36, 44, 52, 60, 68, 76, 84, 93] 400 oo_X1 q_X1_init rfl ?_
  refine ⟨(show (40 : Int) = ((40 : Nat) : Int) from rfl), ?_⟩
  refine (show WP o_X1 M_X1_init tD (q + 1) 11 960 false 52 Q 46 5 160 44 [some (mR 45)] [] (i40_5 G) from ?_)
  refine cw_vc [12, 20, 28, 36, 44, 52, 60, 68, 76, 84, 93] 400 oo_X1 q_X1_init rfl ?_
  refine ⟨(show (40 : Int) = ((40 : Nat) : Int) from rfl), ?_⟩
  refine (show WP o_X1 M_X1_init tD (q + 1) 11 960 false 52 Q 47 6 200 52 [some (mR 45)] [] (i40_6 G) from ?_)
  refine cw_vc [12, 20, 28, 36, 44, 52, 60, 68, 76, 84, 93] 400 oo_X1 q_X1_init rfl ?_
  refine ⟨(show (40 : Int) = ((40 : Nat) : Int) from rfl), ?_⟩
  refine (show WP o_X1 M_X1_init tD (q + 1) 11 960 false 52 Q 48 7 240 60 [some (mR 45)] [] (i40_7 G) from ?_)
  refine cw_vc [12, 20, 28, 36, 44, 52, 60, 68, 76, 84, 93] 400 oo_X1 q_X1_init rfl ?_
  refine ⟨(show (40 : Int) = ((40 : Nat) : Int) from rfl), ?_⟩
  refine (show WP o_X1 M_X1_init tD (q + 1) 11 960 false 52 Q 49 8 280 68 [some (mR 45)] [] (i40_8 G) from ?_)
  refine cw_vc [12, 20, 28, 36, 44, 52, 60, 68, 76, 84, 93] 400 oo_X1 q_X1_init rfl ?_
  refine ⟨(show (40 : Int) = ((40 : Nat) : Int) from rfl), ?_⟩
  refine (show WP o_X1 M_X1_init tD (q + 1) 11 960 false 52 Q 50 9 320 76 [some (mR 45)] [] (i40_9 G) from ?_)
  refine cw_vc [12, 20, 28, 36, 44, 52, 60, 68, 76, 84, 93] 400 oo_X1 q_X1_init rfl ?_
  refine ⟨(show (40 : Int) = ((40 : Nat) : Int) from rfl), ?_⟩
  refine (show WP o_X1 M_X1_init tD (q + 1) 11 960 false 52 Q 51 10 360 84 [some (mR 45)] [] (i40_10 G) from ?_)
  refine cw_vc [12, 20, 28, 36, 44, 52, 60, 68, 76, 84, 93] 400 oo_X1 q_X1_init rfl ?_
  refine ⟨(show (600 : Int) = ((600 : Nat) : Int) from rfl), ?_⟩
  refine (show WP o_X1 M_X1_init tD (q + 1) 11 960 false 52 Q 52 11 960 93 [some (mR 45)] [] (i40_11 G) from ?_)
  refine cw_vc [12, 20, 28, 36, 44, 52, 60, 68, 76, 84, 93] 400 oo_X1 q_X1_init rfl ?_
  exact h
def i52_1 (G : mG) : mG := gs G 52 0 ((58 : Nat) : Int)
def i52_2 (G : mG) : mG := gs (i52_1 G) 52 1 ((59 : Nat) : Int)
def i52_3 (G : mG) : mG := gs (i52_2 G) 52 2 ((60 : Nat) : Int)
def i52_4 (G : mG) : mG := gs (i52_3 G) 52 3 ((61 : Nat) : Int)
def i52_5 (G : mG) : mG := gs (i52_4 G) 52 4 ((62 : Nat) : Int)
def i52_6 (G : mG) : mG := gs (i52_5 G) 52 5 ((63 : Nat) : Int)
def i52_7 (G : mG) : mG := gs (i52_6 G) 52 6 ((64 : Nat) : Int)
def i52_8 (G : mG) : mG := gs (i52_7 G) 52 7 ((65 : Nat) : Int)
def i52_9 (G : mG) : mG := gs (i52_8 G) 52 8 ((66 : Nat) : Int)
def i52_10 (G : mG) : mG := gs (i52_9 G) 52 9 ((67 : Nat) : Int)
def i52_11 (G : mG) : mG := gs (i52_10 G) 52 10 ((68 : Nat) : Int)
def E_i52 (G : mG) : mG := (i52_11 G)
set_option maxHeartbeats 4000000 in
theorem sp_i52 {q : Nat} {G : mG} {Q : Option mV → mG → Prop} (h : Q none (E_i52 G)) : MP tD (q + 1) 11 960 false 53 64 M_X1_init [mR 57] G Q := by
  refine cp_vc [12, 20, 28, 36, 44, 52, 60, 68, 76, 84, 93] 400 oo_X1 q_X1_init rfl (by decide) rfl (Nat.le_of_ble_eq_true rfl) ?_
  refine ⟨(show (8 : Int) = ((8 : Nat) : Int) from rfl), ?_⟩
  refine (show WP o_X1 M_X1_init tD (q + 1) 11 960 false 64 Q 54 1 8 12 [some (mR 57)] [] (i52_1 G) from ?_)
  refine cw_vc [12, 20, 28, 36, 44, 52, 60, 68, 76, 84, 93] 400 oo_X1 q_X1_init rfl ?_
  refine ⟨(show (8 : Int) = ((8 : Nat) : Int) from rfl), ?_⟩
  refine (show WP o_X1 M_X1_init tD (q + 1) 11 960 false 64 Q 55 2 16 20 [some (mR 57)] [] (i52_2 G) from ?_)
  refine cw_vc [12, 20, 28, 36, 44, 52, 60, 68, 76, 84, 93] 400 oo_X1 q_X1_init rfl ?_
  refine ⟨(show (64 : Int) = ((64 : Nat) : Int) from rfl), ?_⟩
  refine (show WP o_X1 M_X1_init tD (q + 1) 11 960 false 64 Q 56 3 80 28 [some (mR 57)] [] (i52_3 G) from ?_)
  refine cw_vc [12, 20, 28, 36, 44, 52, 60, 68, 76, 84, 93] 400 oo_X1 q_X1_init rfl ?_
  refine ⟨(show (40 : Int) = ((40 : Nat) : Int) from rfl), ?_⟩
  refine (show WP o_X1 M_X1_init tD (q + 1) 11 960 false 64 Q 57 4 120 36 [some (mR 57)] [] (i52_4 G) from ?_)
  refine cw_vc [12, 20, 28, 36, 44, 52, 60, 68, 76, 84, 93] 400 oo_X1 q_X1_init rfl ?_
  refine ⟨(show (40 : Int) = ((40 : Nat) : Int) from rfl), ?_⟩
  refine (show WP o_X1 M_X1_init tD (q + 1) 11 960 false 64 Q 58 5 160 44 [some (mR 57)] [] (i52_5 G) from ?_)
  refine cw_vc [12, 20, 28, 36, 44, 52, 60, 68, 76, 84, 93] 400 oo_X1 q_X1_init rfl ?_
  refine ⟨(show (40 : Int) = ((40 : Nat) : Int) from rfl), ?_⟩
  refine (show WP o_X1 M_X1_init tD (q + 1) 11 960 false 64 Q 59 6 200 52 [some (mR 57)] [] (i52_6 G) from ?_)
  refine cw_vc [12, 20, 28, 36, 44, 52, 60, 68, 76, 84, 93] 400 oo_X1 q_X1_init rfl ?_
  refine ⟨(show (40 : Int) = ((40 : Nat) : Int) from rfl), ?_⟩
  refine (show WP o_X1 M_X1_init tD (q + 1) 11 960 false 64 Q 60 7 240 60 [some (mR 57)] [] (i52_7 G) from ?_)
  refine cw_vc [12, 20, 28, 36, 44, 52, 60, 68, 76, 84, 93] 400 oo_X1 q_X1_init rfl ?_
  refine ⟨(show (40 : Int) = ((40 : Nat) : Int) from rfl), ?_⟩
  refine (show WP o_X1 M_X1_init tD (q + 1) 11 960 false 64 Q 61 8 280 68 [some (mR 57)] [] (i52_8 G) from ?_)
  refine cw_vc [12, 20, 28, 36, 44, 52, 60, 68, 76, 84, 93] 400 oo_X1 q_X1_init rfl ?_
  refine ⟨(show (40 : Int) = ((40 : Nat) : Int) from rfl), ?_⟩
  refine (show WP o_X1 M_X1_init tD (q + 1) 11 960 false 64 Q 62 9 320 76 [some (mR 57)] [] (i52_9 G) from ?_)
  refine cw_vc [12, 20, 28, 36, 44, 52, 60, 68, 76, 84, 93] 400 oo_X1 q_X1_init rfl ?_
  refine ⟨(show (40 : Int) = ((40 : Nat) : Int) from rfl), ?_⟩
  refine (show WP o_X1 M_X1_init tD (q + 1) 11 960 false 64 Q 63 10 360 84 [some (mR 57)] [] (i52_10 G) from ?_)
  refine cw_vc [12, 20, 28, 36, 44, 52, 60, 68, 76, 84, 93] 400 oo_X1 q_X1_init rfl ?_
  refine ⟨(show (600 : Int) = ((600 : Nat) : Int) from rfl), ?_⟩
  refine (show WP o_X1 M_X1_init tD (q + 1) 11 960 false 64 Q 64 11 960 93 [some (mR 57)] [] (i52_11 G) from ?_)
  refine cw_vc [12, 20, 28, 36, 44, 52, 60, 68, 76, 84, 93] 400 oo_X1 q_X1_init rfl ?_
  exact h
def i0_1 (G : mG) : mG := E_i1 G
def i0_2 (G : mG) : mG := gs (i0_1 G) 0 0 ((6 : Nat) : Int)
def i0_3 (G : mG) : mG := E_i8 (i0_2 G)
def i0_4 (G : mG) : mG := gs (i0_3 G) 0 1 ((13 : Nat) : Int)
def i0_5 (G : mG) : mG := E_i13 (i0_4 G)
def i0_6 (G : mG) : mG := gs (i0_5 G) 0 2 ((18 : Nat) : Int)
def i0_7 (G : mG) : mG := E_i15 (i0_6 G)
def i0_8 (G : mG) : mG := gs (i0_7 G) 0 3 ((20 : Nat) : Int)
def i0_9 (G : mG) : mG := E_i21 (i0_8 G)
def i0_10 (G : mG) : mG := gs (i0_9 G) 0 4 ((26 : Nat) : Int)
def i0_11 (G : mG) : mG := E_i24 (i0_10 G)
def i0_12 (G : mG) : mG := gs (i0_11 G) 0 5 ((29 : Nat) : Int)
def i0_13 (G : mG) : mG := E_i26 (i0_12 G)
def i0_14 (G : mG) : mG := gs (i0_13 G) 0 6 ((31 : Nat) : Int)
def i0_15 (G : mG) : mG := E_i29 (i0_14 G)
def i0_16 (G : mG) : mG := gs (i0_15 G) 0 7 ((34 : Nat) : Int)
def i0_17 (G : mG) : mG := E_i40 (i0_16 G)
def i0_18 (G : mG) : mG := gs (i0_17 G) 0 8 ((45 : Nat) : Int)
def i0_19 (G : mG) : mG := E_i52 (i0_18 G)
def i0_20 (G : mG) : mG := gs (i0_19 G) 0 9 ((57 : Nat) : Int)
def i0_21 (G : mG) : mG := gs (i0_20 G) 0 10 (-1)
def E_i0 (G : mG) : mG := (i0_21 G)
set_option maxHeartbeats 4000000 in
theorem sp_i0 {q : Nat} {G : mG} {Q : Option mV → mG → Prop} (h : Q none (E_i0 G)) : MP tD (q + 3) 63 8297 false 1 64 M_X11_init [mR 5] G Q := by
  refine cp_vc [8, 12, 15, 19, 23, 26, 30, 34, 37, 41, 46, 49, 52, 56, 60, 63, 67, 71, 74, 78, 82, 85, 89, 94, 98, 102, 105, 108, 112, 116, 119, 123, 127, 130, 135] 400 oo_X11 q_X11_init rfl (by decide) rfl (Nat.le_of_ble_eq_true rfl) ?_
  refine (show WP o_X11 M_X11_init tD (q + 3) 63 8297 false 64 Q 2 1 7 8 [some (mR 5)] [mR 6, mR 5] G from ?_)
  refine cw_vc [8, 12, 15, 19, 23, 26, 30, 34, 37, 41, 46, 49, 52, 56, 60, 63, 67, 71, 74, 78, 82, 85, 89, 94, 98, 102, 105, 108, 112, 116, 119, 123, 127, 130, 135] 400 oo_X11 q_X11_init rfl ?_
  refine sp_i1 (q := q + 0) ?_
  refine (show WP o_X11 M_X11_init tD (q + 3) 63 8297 false 64 Q 8 7 58 12 [some (mR 5)] [mR 6, mR 5] (i0_1 G) from ?_)
  refine cw_vc [8, 12, 15, 19, 23, 26, 30, 34, 37, 41, 46, 49, 52, 56, 60, 63, 67, 71, 74, 78, 82, 85, 89, 94, 98, 102, 105, 108, 112, 116, 119, 123, 127, 130, 135] 400 oo_X11 q_X11_init rfl ?_
  refine (show WP o_X11 M_X11_init tD (q + 3) 63 8297 false 64 Q 8 7 58 15 [some (mR 5)] [] (i0_2 G) from ?_)
  refine cw_vc [8, 12, 15, 19, 23, 26, 30, 34, 37, 41, 46, 49, 52, 56, 60, 63, 67, 71, 74, 78, 82, 85, 89, 94, 98, 102, 105, 108, 112, 116, 119, 123, 127, 130, 135] 400 oo_X11 q_X11_init rfl ?_
  refine (show WP o_X11 M_X11_init tD (q + 3) 63 8297 false 64 Q 9 8 63 19 [some (mR 5)] [mR 13, mR 5] (i0_2 G) from ?_)
  refine cw_vc [8, 12, 15, 19, 23, 26, 30, 34, 37, 41, 46, 49, 52, 56, 60, 63, 67, 71, 74, 78, 82, 85, 89, 94, 98, 102, 105, 108, 112, 116, 119, 123, 127, 130, 135] 400 oo_X11 q_X11_init rfl ?_
  refine sp_i8 (q := q + 1) ?_
  refine (show WP o_X11 M_X11_init tD (q + 3) 63 8297 false 64 Q 13 12 1263 23 [some (mR 5)] [mR 13, mR 5] (i0_3 G) from ?_)
  refine cw_vc [8, 12, 15, 19, 23, 26, 30, 34, 37, 41, 46, 49, 52, 56, 60, 63, 67, 71, 74, 78, 82, 85, 89, 94, 98, 102, 105, 108, 112, 116, 119, 123, 127, 130, 135] 400 oo_X11 q_X11_init rfl ?_
  refine (show WP o_X11 M_X11_init tD (q + 3) 63 8297 false 64 Q 13 12 1263 26 [some (mR 5)] [] (i0_4 G) from ?_)
  refine cw_vc [8, 12, 15, 19, 23, 26, 30, 34, 37, 41, 46, 49, 52, 56, 60, 63, 67, 71, 74, 78, 82, 85, 89, 94, 98, 102, 105, 108, 112, 116, 119, 123, 127, 130, 135] 400 oo_X11 q_X11_init rfl ?_
  refine (show WP o_X11 M_X11_init tD (q + 3) 63 8297 false 64 Q 14 13 1265 30 [some (mR 5)] [mR 18, mR 5] (i0_4 G) from ?_)
  refine cw_vc [8, 12, 15, 19, 23, 26, 30, 34, 37, 41, 46, 49, 52, 56, 60, 63, 67, 71, 74, 78, 82, 85, 89, 94, 98, 102, 105, 108, 112, 116, 119, 123, 127, 130, 135] 400 oo_X11 q_X11_init rfl ?_
  refine sp_i13 (q := q + 1) ?_
  refine (show WP o_X11 M_X11_init tD (q + 3) 63 8297 false 64 Q 15 14 4265 34 [some (mR 5)] [mR 18, mR 5] (i0_5 G) from ?_)
  refine cw_vc [8, 12, 15, 19, 23, 26, 30, 34, 37, 41, 46, 49, 52, 56, 60, 63, 67, 71, 74, 78, 82, 85, 89, 94, 98, 102, 105, 108, 112, 116, 119, 123, 127, 130, 135] 400 oo_X11 q_X11_init rfl ?_
  refine (show WP o_X11 M_X11_init tD (q + 3) 63 8297 false 64 Q 15 14 4265 37 [some (mR 5)] [] (i0_6 G) from ?_)
  refine cw_vc [8, 12, 15, 19, 23, 26, 30, 34, 37, 41, 46, 49, 52, 56, 60, 63, 67, 71, 74, 78, 82, 85, 89, 94, 98, 102, 105, 108, 112, 116, 119, 123, 127, 130, 135] 400 oo_X11 q_X11_init rfl ?_
  refine (show WP o_X11 M_X11_init tD (q + 3) 63 8297 false 64 Q 16 15 4277 41 [some (mR 5)] [mR 20, mR 5] (i0_6 G) from ?_)
  refine cw_vc [8, 12, 15, 19, 23, 26, 30, 34, 37, 41, 46, 49, 52, 56, 60, 63, 67, 71, 74, 78, 82, 85, 89, 94, 98, 102, 105, 108, 112, 116, 119, 123, 127, 130, 135] 400 oo_X11 q_X11_init rfl ?_
  refine (show WP o_X11 M_X11_init tD (q + 3) 63 8297 false 64 Q 16 15 4277 46 [some (mR 5)] [mR 18, mR 20, mR 20, mR 5] (i0_6 G) from ?_)
  refine cw_vc [8, 12, 15, 19, 23, 26, 30, 34, 37, 41, 46, 49, 52, 56, 60, 63, 67, 71, 74, 78, 82, 85, 89, 94, 98, 102, 105, 108, 112, 116, 119, 123, 127, 130, 135] 400 oo_X11 q_X11_init rfl ?_
  refine sp_i15 (q := q + 0) ?_
  refine (show WP o_X11 M_X11_init tD (q + 3) 63 8297 false 64 Q 21 20 4406 49 [some (mR 5)] [mR 20, mR 5] (i0_7 G) from ?_)
  refine cw_vc [8, 12, 15, 19, 23, 26, 30, 34, 37, 41, 46, 49, 52, 56, 60, 63, 67, 71, 74, 78, 82, 85, 89, 94, 98, 102, 105, 108, 112, 116, 119, 123, 127, 130, 135] 400 oo_X11 q_X11_init rfl ?_
  refine (show WP o_X11 M_X11_init tD (q + 3) 63 8297 false 64 Q 21 20 4406 52 [some (mR 5)] [] (i0_8 G) from ?_)
  refine cw_vc [8, 12, 15, 19, 23, 26, 30, 34, 37, 41, 46, 49, 52, 56, 60, 63, 67, 71, 74, 78, 82, 85, 89, 94, 98, 102, 105, 108, 112, 116, 119, 123, 127, 130, 135] 400 oo_X11 q_X11_init rfl ?_
  refine (show WP o_X11 M_X11_init tD (q + 3) 63 8297 false 64 Q 22 21 4408 56 [some (mR 5)] [mR 26, mR 5] (i0_8 G) from ?_)
  refine cw_vc [8, 12, 15, 19, 23, 26, 30, 34, 37, 41, 46, 49, 52, 56, 60, 63, 67, 71, 74, 78, 82, 85, 89, 94, 98, 102, 105, 108, 112, 116, 119, 123, 127, 130, 135] 400 oo_X11 q_X11_init rfl ?_
  refine sp_i21 (q := q + 0) ?_
  refine (show WP o_X11 M_X11_init tD (q + 3) 63 8297 false 64 Q 24 23 4668 60 [some (mR 5)] [mR 26, mR 5] (i0_9 G) from ?_)
  refine cw_vc [8, 12, 15, 19, 23, 26, 30, 34, 37, 41, 46, 49, 52, 56, 60, 63, 67, 71, 74, 78, 82, 85, 89, 94, 98, 102, 105, 108, 112, 116, 119, 123, 127, 130, 135] 400 oo_X11 q_X11_init rfl ?_
  refine (show WP o_X11 M_X11_init tD (q + 3) 63 8297 false 64 Q 24 23 4668 63 [some (mR 5)] [] (i0_10 G) from ?_)
  refine cw_vc [8, 12, 15, 19, 23, 26, 30, 34, 37, 41, 46, 49, 52, 56, 60, 63, 67, 71, 74, 78, 82, 85, 89, 94, 98, 102, 105, 108, 112, 116, 119, 123, 127, 130, 135] 400 oo_X11 q_X11_init rfl ?_
  refine (show WP o_X11 M_X11_init tD (q + 3) 63 8297 false 64 Q 25 24 4676 67 [some (mR 5)] [mR 29, mR 5] (i0_10 G) from ?_)
  refine cw_vc [8, 12, 15, 19, 23, 26, 30, 34, 37, 41, 46, 49, 52, 56, 60, 63, 67, 71, 74, 78, 82, 85, 89, 94, 98, 102, 105, 108, 112, 116, 119, 123, 127, 130, 135] 400 oo_X11 q_X11_init rfl ?_
  refine sp_i24 (q := q + 1) ?_
  refine (show WP o_X11 M_X11_init tD (q + 3) 63 8297 false 64 Q 26 25 4711 71 [some (mR 5)] [mR 29, mR 5] (i0_11 G) from ?_)
  refine cw_vc [8, 12, 15, 19, 23, 26, 30, 34, 37, 41, 46, 49, 52, 56, 60, 63, 67, 71, 74, 78, 82, 85, 89, 94, 98, 102, 105, 108, 112, 116, 119, 123, 127, 130, 135] 400 oo_X11 q_X11_init rfl ?_
  refine (show WP o_X11 M_X11_init tD (q + 3) 63 8297 false 64 Q 26 25 4711 74 [some (mR 5)] [] (i0_12 G) from ?_)
  refine cw_vc [8, 12, 15, 19, 23, 26, 30, 34, 37, 41, 46, 49, 52, 56, 60, 63, 67, 71, 74, 78, 82, 85, 89, 94, 98, 102, 105, 108, 112, 116, 119, 123, 127, 130, 135] 400 oo_X11 q_X11_init rfl ?_
  refine (show WP o_X11 M_X11_init tD (q + 3) 63 8297 false 64 Q 27 26 4714 78 [some (mR 5)] [mR 31, mR 5] (i0_12 G) from ?_)
  refine cw_vc [8, 12, 15, 19, 23, 26, 30, 34, 37, 41, 46, 49, 52, 56, 60, 63, 67, 71, 74, 78, 82, 85, 89, 94, 98, 102, 105, 108, 112, 116, 119, 123, 127, 130, 135] 400 oo_X11 q_X11_init rfl ?_
  refine sp_i26 (q := q + 1) ?_
  refine (show WP o_X11 M_X11_init tD (q + 3) 63 8297 false 64 Q 29 28 4742 82 [some (mR 5)] [mR 31, mR 5] (i0_13 G) from ?_)
  refine cw_vc [8, 12, 15, 19, 23, 26, 30, 34, 37, 41, 46, 49, 52, 56, 60, 63, 67, 71, 74, 78, 82, 85, 89, 94, 98, 102, 105, 108, 112, 116, 119, 123, 127, 130, 135] 400 oo_X11 q_X11_init rfl ?_
  refine (show WP o_X11 M_X11_init tD (q + 3) 63 8297 false 64 Q 29 28 4742 85 [some (mR 5)] [] (i0_14 G) from ?_)
  refine cw_vc [8, 12, 15, 19, 23, 26, 30, 34, 37, 41, 46, 49, 52, 56, 60, 63, 67, 71, 74, 78, 82, 85, 89, 94, 98, 102, 105, 108, 112, 116, 119, 123, 127, 130, 135] 400 oo_X11 q_X11_init rfl ?_
  refine (show WP o_X11 M_X11_init tD (q + 3) 63 8297 false 64 Q 30 29 4758 89 [some (mR 5)] [mR 34, mR 5] (i0_14 G) from ?_)
  refine cw_vc [8, 12, 15, 19, 23, 26, 30, 34, 37, 41, 46, 49, 52, 56, 60, 63, 67, 71, 74, 78, 82, 85, 89, 94, 98, 102, 105, 108, 112, 116, 119, 123, 127, 130, 135] 400 oo_X11 q_X11_init rfl ?_
  refine (show WP o_X11 M_X11_init tD (q + 3) 63 8297 false 64 Q 30 29 4758 94 [some (mR 5)] [mR 6, mR 34, mR 34, mR 5] (i0_14 G) from ?_)
  refine cw_vc [8, 12, 15, 19, 23, 26, 30, 34, 37, 41, 46, 49, 52, 56, 60, 63, 67, 71, 74, 78, 82, 85, 89, 94, 98, 102, 105, 108, 112, 116, 119, 123, 127, 130, 135] 400 oo_X11 q_X11_init rfl ?_
  refine (show WP o_X11 M_X11_init tD (q + 3) 63 8297 false 64 Q 30 29 4758 98 [some (mR 5)] [mR 13, mR 6, mR 34, mR 34, mR 5] (i0_14 G) from ?_)
  refine cw_vc [8, 12, 15, 19, 23, 26, 30, 34, 37, 41, 46, 49, 52, 56, 60, 63, 67, 71, 74, 78, 82, 85, 89, 94, 98, 102, 105, 108, 112, 116, 119, 123, 127, 130, 135] 400 oo_X11 q_X11_init rfl ?_
  refine (show WP o_X11 M_X11_init tD (q + 3) 63 8297 false 64 Q 30 29 4758 102 [some (mR 5)] [mR 29, mR 13, mR 6, mR 34, mR 34, mR 5] (i0_14 G) from ?_)
  refine cw_vc [8, 12, 15, 19, 23, 26, 30, 34, 37, 41, 46, 49, 52, 56, 60, 63, 67, 71, 74, 78, 82, 85, 89, 94, 98, 102, 105, 108, 112, 116, 119, 123, 127, 130, 135] 400 oo_X11 q_X11_init rfl ?_
  refine sp_i29 (q := q + 1) ?_
  refine (show WP o_X11 M_X11_init tD (q + 3) 63 8297 false 64 Q 40 39 6349 105 [some (mR 5)] [mR 34, mR 5] (i0_15 G) from ?_)
  refine cw_vc [8, 12, 15, 19, 23, 26, 30, 34, 37, 41, 46, 49, 52, 56, 60, 63, 67, 71, 74, 78, 82, 85, 89, 94, 98, 102, 105, 108, 112, 116, 119, 123, 127, 130, 135] 400 oo_X11 q_X11_init rfl ?_
  refine (show WP o_X11 M_X11_init tD (q + 3) 63 8297 false 64 Q 40 39 6349 108 [some (mR 5)] [] (i0_16 G) from ?_)
  refine cw_vc [8, 12, 15, 19, 23, 26, 30, 34, 37, 41, 46, 49, 52, 56, 60, 63, 67, 71, 74, 78, 82, 85, 89, 94, 98, 102, 105, 108, 112, 116, 119, 123, 127, 130, 135] 400 oo_X11 q_X11_init rfl ?_
  refine (show WP o_X11 M_X11_init tD (q + 3) 63 8297 false 64 Q 41 40 6363 112 [some (mR 5)] [mR 45, mR 5] (i0_16 G) from ?_)
  refine cw_vc [8, 12, 15, 19, 23, 26, 30, 34, 37, 41, 46, 49, 52, 56, 60, 63, 67, 71, 74, 78, 82, 85, 89, 94, 98, 102, 105, 108, 112, 116, 119, 123, 127, 130, 135] 400 oo_X11 q_X11_init rfl ?_
  refine sp_i40 (q := q + 1) ?_
  refine (show WP o_X11 M_X11_init tD (q + 3) 63 8297 false 64 Q 52 51 7323 116 [some (mR 5)] [mR 45, mR 5] (i0_17 G) from ?_)
  refine cw_vc [8, 12, 15, 19, 23, 26, 30, 34, 37, 41, 46, 49, 52, 56, 60, 63, 67, 71, 74, 78, 82, 85, 89, 94, 98, 102, 105, 108, 112, 116, 119, 123, 127, 130, 135] 400 oo_X11 q_X11_init rfl ?_
  refine (show WP o_X11 M_X11_init tD (q + 3) 63 8297 false 64 Q 52 51 7323 119 [some (mR 5)] [] (i0_18 G) from ?_)
  refine cw_vc [8, 12, 15, 19, 23, 26, 30, 34, 37, 41, 46, 49, 52, 56, 60, 63, 67, 71, 74, 78, 82, 85, 89, 94, 98, 102, 105, 108, 112, 116, 119, 123, 127, 130, 135] 400 oo_X11 q_X11_init rfl ?_
  refine (show WP o_X11 M_X11_init tD (q + 3) 63 8297 false 64 Q 53 52 7337 123 [some (mR 5)] [mR 57, mR 5] (i0_18 G) from ?_)
  refine cw_vc [8, 12, 15, 19, 23, 26, 30, 34, 37, 41, 46, 49, 52, 56, 60, 63, 67, 71, 74, 78, 82, 85, 89, 94, 98, 102, 105, 108, 112, 116, 119, 123, 127, 130, 135] 400 oo_X11 q_X11_init rfl ?_
  refine sp_i52 (q := q + 1) ?_
  refine (show WP o_X11 M_X11_init tD (q + 3) 63 8297 false 64 Q 64 63 8297 127 [some (mR 5)] [mR 57, mR 5] (i0_19 G) from ?_)
  refine cw_vc [8, 12, 15, 19, 23, 26, 30, 34, 37, 41, 46, 49, 52, 56, 60, 63, 67, 71, 74, 78, 82, 85, 89, 94, 98, 102, 105, 108, 112, 116, 119, 123, 127, 130, 135] 400 oo_X11 q_X11_init rfl ?_
  refine (show WP o_X11 M_X11_init tD (q + 3) 63 8297 false 64 Q 64 63 8297 130 [some (mR 5)] [] (i0_20 G) from ?_)
  refine cw_vc [8, 12, 15, 19, 23, 26, 30, 34, 37, 41, 46, 49, 52, 56, 60, 63, 67, 71, 74, 78, 82, 85, 89, 94, 98, 102, 105, 108, 112, 116, 119, 123, 127, 130, 135] 400 oo_X11 q_X11_init rfl ?_
  refine (show WP o_X11 M_X11_init tD (q + 3) 63 8297 false 64 Q 64 63 8297 135 [some (mR 5)] [] (i0_21 G) from ?_)
  refine cw_vc [8, 12, 15, 19, 23, 26, 30, 34, 37, 41, 46, 49, 52, 56, 60, 63, 67, 71, 74, 78, 82, 85, 89, 94, 98, 102, 105, 108, 112, 116, 119, 123, 127, 130, 135] 400 oo_X11 q_X11_init rfl ?_
  exact h
