/-! ===== give and mend, on both sides ===== -/
section GVM
variable {c : Nat} {G : mG} {f nf : Int} {n nk : Nat}
/-- a heap whose reference side is the coupled one's, but for the flags of lost boards -/
def rbX (G B : mG) : Prop := ∀ k, 64 ≤ k → k ≠ 118 → B k = G k
theorem rb_L {B : mG} (hB : rbX G B) : rfL B = rfL G := by unfold rfL; rw [hB 64 (by decide) (by decide)]
theorem rb_lsC {B : mG} (hB : rbX G B) {bv : Nat → Int} {b : Nat} : lsC B f bv b = lsC G f bv b := by
  funext w
  unfold lsC
  rw [rb_L hB, hB 77 (by decide) (by decide), hB 78 (by decide) (by decide), hB 80 (by decide) (by decide), hB 94 (by decide) (by decide), force_r (hB 74 (by decide) (by decide)) (hB 75 (by decide) (by decide)) (by rw [hB 64 (by decide) (by decide)])]
theorem rb_lsl {B : mG} (hB : rbX G B) {bv : Nat → Nat → Int} {b : Nat} : lsl B f nf bv nk b = lsl G f nf bv nk b := by
  unfold lsl lsO
  rw [rb_lsC hB, lost_r (hB 100 (by decide) (by decide)) (hB 101 (by decide) (by decide)) (hB 102 (by decide) (by decide))]
theorem rb_lsB {B : mG} (hB : rbX G B) {x y : Int} : lsB B nk x y ↔ lsB G nk x y := by
  unfold lsB
  rw [rb_L hB, hB 77 (by decide) (by decide), hB 78 (by decide) (by decide), hB 79 (by decide) (by decide)]
theorem op_bw (h : Cpl c G) (hn : G 1 6 = (n : Int)) (hnk : (nk : Int) = G c 12) {b w : Nat} (hb : b < n) {Hj : mG} (hX : ∀ k, k ∈ ([77, 78, 82, 83, 86, 87, 88, 89, 90, 91, 92, 94, 95, 96, 97] : List Nat) → Hj k = G k) (h18 : Hj 64 18 = G 64 18) : fs (pR (e_X12_asksBoard Hj ((b : Nat) : Int)) 1 ((b : Nat) : Int) (G 78 (rfL G + w))) nk = opV G nk b w := by
  have hb9 : (0 : Int) ≤ ((b : Nat) : Int) ∧ ((b : Nat) : Int) < G 1 6 := by omega
  have h9 := h.1.1.1
  obtain ⟨r1, r2, r3, r4, r5, r6, r7, r8⟩ := regard_eq (G := G) (b := ((b : Nat) : Int)) ⟨hb9.1, hb9.2, by omega⟩
  have hc := Cpl_c h
  rw [opV, ← bar_eq h hb9 hnk (fun i hi => r8 _ (by omega)) r1 r2 r3 r4 r5 r6 r7 hX h18]
  exact bar_eq h hb9 hnk (fun i hi => r8 _ (by omega)) r1 r2 r3 r4 r5 r6 r7 (fun k hk => rfl) rfl
theorem fdH_of (h : Cpl c G) (hn : G 1 6 = (n : Int)) (hnk : (nk : Int) = G c 12) (hf : 0 ≤ f ∧ f < 26) (hk : 0 ≤ nf ∧ nf ≤ G 8 4) {B : mG} (hB : rbX G B) {lf : Nat → Int} (hlf : ∀ w, w < 40 → lf w = f_X1_amountOf c G ((w : Nat) : Int)) : fdH B f nf n nk (opV G nk) lf := by
  have hl := Cpl_l h
  obtain ⟨p1, p2, ⟨p3, p4, p5, p6, p7, p8⟩, p9, p10, p11, p12, p13, p14⟩ := id h.1.1
  obtain ⟨d1, d2, d3, d4, d5, d6, d7, d8, d9⟩ := id h.2.2.1
  have g1 := h.1.2.1.1
  have e64 : B 64 = G 64 := hB 64 (by decide) (by decide)
  refine ⟨⟨by omega, by rw [e64, p2]; exact hn, by rw [e64]; exact hl, by rw [e64, hB 76 (by decide) (by decide), d4]; exact hnk, by omega, rW_to h.2.2.2.2.2 (by rw [e64]) (fun k hk2 => hB k (by simp only [List.mem_cons, List.not_mem_nil, or_false] at hk2; omega) (by simp only [List.mem_cons, List.not_mem_nil, or_false] at hk2; omega)), by omega, fun k hk2 => ?_, fun k hk2 hs => ?_, fun k hk2 hs => ?_⟩, fun b w hb hw hs Hj hX => ?_, hf, by rw [hB 98 (by decide) (by decide), p7]; exact p13, fun k hk2 hs => ?_⟩
  · rw [rb_L hB, hB 78 (by decide) (by decide)]
    have hq := (d6 k (by omega)).1
    have e : G 78 (rfL G + k) = G (c + 5) k := hq.1
    rw [e]; omega
  · rw [rb_L hB, hB 77 (by decide) (by decide)] at hs
    rw [rb_L hB, hB 79 (by decide) (by decide)]
    have hq := (d6 k (by omega)).2
    unfold rfL at hs ⊢
    omega
  · rw [rb_L hB, hB 77 (by decide) (by decide)] at hs
    rw [rb_L hB, hB 81 (by decide) (by decide)]
    have hq := (d6 k (by omega)).2
    unfold rfL at hs ⊢
    omega
  · rw [rb_L hB, hB 78 (by decide) (by decide)]
    refine op_bw h hn hnk hb (fun k hk2 => ?_) (by rw [hX.k 64 (by decide), e64])
    rw [hX k (fun a ha => by simp only [List.mem_cons, List.not_mem_nil, or_false] at hk2 ha; omega), hB k (by simp only [List.mem_cons, List.not_mem_nil, or_false] at hk2; omega) (by simp only [List.mem_cons, List.not_mem_nil, or_false] at hk2; omega)]
  · rw [rb_L hB, hB 77 (by decide) (by decide)] at hs
    rw [rb_L hB, hB 79 (by decide) (by decide), hlf k (by omega), at_amount d3.2 (by omega)]
    have hq := (d6 k (by omega)).2
    unfold rfL at hs ⊢
    omega
/-- the class's plan and the reference's agree -/
theorem plan_agr (h : Cpl c G) (hn : G 1 6 = (n : Int)) (hnk : (nk : Int) = G c 12) (hf : 0 ≤ f ∧ f < 26) {v : Int} (hv : v = 0 ∨ (v = 1 ∧ G 23 f.toNat = 1)) {HT B H1 : mG} (hrow : ∀ b, b < n → opR v c G f nf nk b HT) (hT : ∀ k, (∀ a ∈ ([24, 25, 29, 30, 31, 32, 33, 34] : List Nat), k ≠ a) → HT k = G k) (hB : rbX G B) (hgone : v = 1 → ∀ b, b < n → B 118 b = f_X12_isLost G ((b : Nat) : Int) f nf) (hP : lsP B f nf n nk (opV G nk) H1) :
    agr (cP c HT) (rfP H1 f v) n ∧ (∀ ah, (ah = -1 ∨ (0 ≤ ah ∧ ah < G c 11)) → agA (cP c HT) (rfP H1 f v) n ah) ∧ (∀ b i, b < n → i < sop (cP c HT) b → scl (cP c HT) b i = -1 ∨ ∃ k : Nat, scl (cP c HT) b i = (k : Int) ∧ k < nk ∧ G (c + 4) k = 18 ∧ G (c + 7) k = G 2 b) ∧ (∀ b i, b < n → i < sop (cP c HT) b → sgn (cP c HT) b i = opG v c G f nf b (scl (cP c HT) b i)) ∧ (∀ b i, b < n → i < sop (cP c HT) b → sow (cP c HT) (scl (cP c HT) b i) = -1 ∨ (0 ≤ sow (cP c HT) (scl (cP c HT) b i) ∧ sow (cP c HT) (scl (cP c HT) b i) < G c 11)) := by
  have hc := Cpl_c h
  have hl := Cpl_l h
  obtain ⟨p1, p2, ⟨p3, p4, p5, p6, p7, p8⟩, p9, p10, p11, p12, p13, p14⟩ := id h.1.1
  obtain ⟨d1, d2, d3, d4, d5, d6, d7, d8, d9⟩ := id h.2.2.1
  obtain ⟨q1, q2, q3⟩ := id h.2.2.2.1
  obtain ⟨x1, x2, x3, x4⟩ := hP
  have kc : ∀ i, i < 12 → HT (c + i) = G (c + i) := fun i hi => hT _ (fun a ha => by simp only [List.mem_cons, List.not_mem_nil, or_false] at ha; omega)
  have e0 : HT c = G c := kc 0 (by omega)
  have k1 : ∀ k, (∀ a ∈ ([106, 107, 108, 109, 110, 115] : List Nat), k ≠ a) → 64 ≤ k → k ≠ 118 → H1 k = G k := fun k h1 h2 h3 => by rw [x1 k h1, hB k h2 h3]
  have eL : rfL H1 = rfL G := by unfold rfL; rw [k1 64 (by decide) (by decide) (by decide)]
  -- an option
  have opt : ∀ b i, b < n → i < sop (cP c HT) b → (scl (cP c HT) b i = -1 ∧ i = (lsl G f nf (opV G nk) nk b).length ∧ sgn (cP c HT) b i = opG v c G f nf b (-1)) ∨ ∃ hi : i < (lsl G f nf (opV G nk) nk b).length, scl (cP c HT) b i = ((lsl G f nf (opV G nk) nk b)[i] : Int) ∧ sgn (cP c HT) b i = opG v c G f nf b ((lsl G f nf (opV G nk) nk b)[i] : Int) := by
    intro b i hb hi
    obtain ⟨r1, r2, r3, r4⟩ := hrow b hb
    have hi : i < (HT 30 b).toNat := hi
    show (HT 31 (5 * b + i) = -1 ∧ _ ∧ HT 32 (5 * b + i) = _) ∨ ∃ hi, HT 31 (5 * b + i) = _ ∧ HT 32 (5 * b + i) = _
    by_cases hl : i < (lsl G f nf (opV G nk) nk b).length
    · exact Or.inr ⟨hl, r2 i hl⟩
    · have e : i = (lsl G f nf (opV G nk) nk b).length := by omega
      rw [e]
      exact Or.inl ⟨r3, rfl, r4⟩
  have wnt : ∀ b i, b < n → i < sop (cP c HT) b → scl (cP c HT) b i = -1 ∨ ∃ k : Nat, scl (cP c HT) b i = (k : Int) ∧ k < nk ∧ G (c + 4) k = 18 ∧ G (c + 7) k = G 2 b := by
    intro b i hb hi
    rcases opt b i hb hi with o | ⟨hl2, o1, o2⟩
    · exact Or.inl o.1
    · have lw := lsl_want (f := f) (nf := nf) (bv := opV G nk) h hnk hl2
      exact Or.inr ⟨_, o1, lw.1, lw.2.1, lw.2.2.1⟩
  have own : ∀ w : Int, (w = -1 ∨ ∃ k : Nat, w = (k : Int) ∧ k < nk) → sow (cP c HT) w = rfN H1 w ∧ (sow (cP c HT) w = -1 ∨ (0 ≤ sow (cP c HT) w ∧ sow (cP c HT) w < G c 11)) := by
    intro w hw
    show f_X1_ownerOf c HT w = _ ∧ (f_X1_ownerOf c HT w = -1 ∨ (0 ≤ f_X1_ownerOf c HT w ∧ f_X1_ownerOf c HT w < G c 11))
    unfold rfN
    rcases hw with e | ⟨k, e, hk⟩
    · rw [e, if_pos rfl, fa_own_none]; exact ⟨rfl, Or.inl rfl⟩
    · rw [e, if_neg (show ¬ (k : Int) = -1 by omega), st_nat, at_owner (by rw [e0]; exact d3.2) (by rw [e0]; omega), kc 5 (by omega), eL, k1 78 (by decide) (by decide) (by decide)]
      have hq := (d6 k (by omega)).1
      exact ⟨hq.1.symm, Or.inr ⟨hq.2.1, hq.2.2⟩⟩
  refine ⟨fun b hb => ⟨?_, ?_, fun i hi => ?_⟩, fun ah hah b i hb hi hbe => ?_, wnt, fun b i hb hi => ?_, fun b i hb hi => ?_⟩
  · show (HT 30 b).toNat = (H1 108 b).toNat + 1
    rw [(hrow b hb).1, (x3 b hb).1, rb_lsl hB]
    omega
  · show decide (f_X0_isBesideOneAhead HT ((b : Nat) : Int) = 1) = decide (¬ H1 98 b = 0)
    have hh := fa_X0_has HT ((b : Nat) : Int)
    rw [hT 1 (by decide)] at hh
    unfold f_X0_isBesideOneAhead
    rw [if_neg (by omega), st_nat, hT 6 (by decide), k1 98 (by decide) (by decide) (by decide), p7]
    by_cases z : G 6 b = 0
    · rw [if_pos z, decide_eq_false (show ¬ (0 : Int) = 1 by decide), decide_eq_false (fun y => y z)]
    · rw [if_neg z, decide_eq_true (show (1 : Int) = 1 from rfl), decide_eq_true z]
  · have hx := x3 b hb
    rw [rb_lsl hB] at hx
    have main : scl (cP c HT) b i = rfC H1 b i ∧ sgn (cP c HT) b i = opG v c G f nf b (scl (cP c HT) b i) := by
      unfold rfC
      rw [hx.1]
      rcases opt b i hb hi with ⟨o1, o2, o3⟩ | ⟨hl2, o1, o2⟩
      · rw [if_neg (by omega), o1, o3]; exact ⟨rfl, rfl⟩
      · rw [if_pos (by omega), o1, o2, hx.2 i hl2]; exact ⟨rfl, rfl⟩
    have hw := wnt b i hb hi
    refine ⟨main.1, ?_, (own _ (by rcases hw with e | ⟨k, e, hk, _⟩; exact Or.inl e; exact Or.inr ⟨k, e, hk⟩)).1⟩
    rw [main.2]
    show opG v c G f nf b (scl (cP c HT) b i) = 16 * rfW H1 (rfC H1 b i) - rfO H1 f v b (rfC H1 b i)
    rw [← main.1]
    generalize scl (cP c HT) b i = w at hw
    have ew : (if w = -1 then (0 : Int) else G (c + 8) w.toNat) = rfW H1 w := by
      unfold rfW
      rcases hw with e | ⟨k, e, hk, h18, _⟩
      · rw [if_pos e, if_pos e]
      · rw [if_neg (show ¬ w = -1 by omega), if_neg (show ¬ w = -1 by omega), e, st_nat, eL, k1 81 (by decide) (by decide) (by decide)]
        have hq := (d6 k (by omega)).2
        unfold rfL
        omega
    have eo : (if v = 1 ∧ f_X12_isLost G ((b : Nat) : Int) f nf = 0 ∧ ¬ w = G 22 (9 * f.toNat + b) then (1 : Int) else 0) = rfO H1 f v b w := by
      unfold rfO
      rcases hv with e | ⟨e, em⟩
      · rw [e, if_neg (fun y => absurd y.1 (by decide)), if_neg (fun y => y.1 rfl)]
      · have t5 := (q3 f.toNat (by omega)).2.2.2.2 em b (by omega)
        rw [k1 105 (by decide) (by decide) (by decide), t5, x1 118 (by decide), hgone e b hb, e]
        by_cases y : f_X12_isLost G ((b : Nat) : Int) f nf = 0 ∧ ¬ w = G 22 (9 * f.toNat + b)
        · rw [if_pos ⟨rfl, y⟩, if_pos ⟨by decide, y⟩]
        · rw [if_neg (fun z => y z.2), if_neg (fun z => y z.2)]
    unfold opG
    rw [ew, eo]
  · have hw := wnt b i hb hi
    have ho := (own _ (by rcases hw with e | ⟨k, e, hk, _⟩; exact Or.inl e; exact Or.inr ⟨k, e, hk⟩)).2
    clear hw
    generalize sow (cP c HT) (scl (cP c HT) b i) = y at ho
    show decide (f_X1_areApart c HT ah y = 1) = decide (0 ≤ ah ∧ 0 ≤ y ∧ ¬ H1 110 (8 * ah.toNat + y.toNat) = 0)
    have ha1 := fa_X1_hasCampaign c HT ah
    have ha2 := fa_X1_hasCampaign c HT y
    rw [e0] at ha1 ha2
    unfold f_X1_areApart
    by_cases z1 : ah = -1
    · rw [if_pos (show f_X1_hasCampaign c HT ah = 0 by omega), decide_eq_false (show ¬ (0 : Int) = 1 by decide), decide_eq_false (fun y => absurd y.1 (by omega))]
    · rw [if_neg (show ¬ f_X1_hasCampaign c HT ah = 0 by omega)]
      by_cases z2 : y = -1
      · rw [if_pos (show f_X1_hasCampaign c HT y = 0 by omega), decide_eq_false (show ¬ (0 : Int) = 1 by decide), decide_eq_false (fun q => absurd q.2.1 (by omega))]
      · rw [if_neg (show ¬ f_X1_hasCampaign c HT y = 0 by omega)]
        obtain ⟨xa, hxa⟩ : ∃ xa : Nat, ah = (xa : Int) := ⟨ah.toNat, by omega⟩
        obtain ⟨ya, hya⟩ : ∃ ya : Nat, y = (ya : Int) := ⟨y.toNat, by omega⟩
        have ix : Unit → w32 ((w32 (ah * 8)) + y) = ((8 * xa + ya : Nat) : Int) := fun _ => by
          rw [hxa, hya, w32_i (x := (xa : Int) * 8) (by omega) (by omega), w32_i (by omega) (by omega)]; omega
        rw [ix (), st_nat, kc 3 (by omega), hxa, hya, st_nat, st_nat]
        have hd8 := d8 xa ya (by omega) (by omega)
        have hx2 := x2 xa ya (by omega) (by omega)
        rw [rb_lsB hB] at hx2
        have e : G (c + 3) (8 * xa + ya) = 1 ↔ lsB G nk (xa : Int) (ya : Int) := by
          rw [hd8.2]
          unfold lsB rfL
          constructor
          · rintro ⟨k, a, b⟩; exact ⟨k, by omega, b⟩
          · rintro ⟨k, a, b⟩; exact ⟨k, by omega, b⟩
        have hd1 := hd8.1
        clear hd8
        by_cases z3 : G (c + 3) (8 * xa + ya) = 0
        · rw [if_pos z3, decide_eq_false (show ¬ (0 : Int) = 1 by decide)]
          symm
          refine decide_eq_false (fun q => ?_)
          have := e.mpr (hx2.mp q.2.2)
          omega
        · rw [if_neg z3, decide_eq_true (show (1 : Int) = 1 from rfl)]
          symm
          have hz : G (c + 3) (8 * xa + ya) = 1 := by
            rcases hd1 with y1 | y1
            · exact absurd y1 z3
            · exact y1
          exact decide_eq_true ⟨by omega, by omega, hx2.mpr (e.mp hz)⟩
  · rcases opt b i hb hi with ⟨o1, o2, o3⟩ | ⟨hl2, o1, o2⟩
    · rw [o1, o3]
    · rw [o1, o2]
  · have hw := wnt b i hb hi
    exact (own _ (by rcases hw with e | ⟨k, e, hk, _⟩; exact Or.inl e; exact Or.inr ⟨k, e, hk⟩)).2
/-- both find the same best way -/
theorem plan_best (h : Cpl c G) (hn : G 1 6 = (n : Int)) (hnk : (nk : Int) = G c 12) (hf : 0 ≤ f ∧ f < 26) {v : Int} (hv : v = 0 ∨ (v = 1 ∧ G 23 f.toNat = 1)) {HT B H1 H2 G' : mG} (hrow : ∀ b, b < n → opR v c G f nf nk b HT) (hT : ∀ k, (∀ a ∈ ([24, 25, 29, 30, 31, 32, 33, 34] : List Nat), k ≠ a) → HT k = G k) (hF : sF0 c HT n (HT 33)) (hL : sL c HT n n G') (hB : rbX G B) (hgone : v = 1 → ∀ b, b < n → B 118 b = f_X12_isLost G ((b : Nat) : Int) f nf) (hP : lsP B f nf n nk (opV G nk) H1) (hD : fdP B f v n H1 (HT 33) H2) :
    (∀ i, i < n → H2 105 (9 * f.toNat + i) = G' 36 i) ∧ (∀ i, i < n → G' 36 i = -1 ∨ ∃ k : Nat, G' 36 i = (k : Int) ∧ k < nk ∧ G (c + 4) k = 18 ∧ G (c + 7) k = G 2 i) ∧ 16 * H2 64 70 - H2 64 71 = gsum (opG v c G f nf) (G' 36) n := by
  obtain ⟨a1, a2, a3, a4, a5⟩ := plan_agr h hn hnk hf hv hrow hT hB hgone hP
  obtain ⟨pk2, bst2, x1, x2, x3, x4, x5, x6, x7, x8⟩ := hD
  have cg : ∀ pk A, proc (rfP H1 f v) n 0 0 (-1) (HT 33) pk A = proc (cP c HT) n 0 0 (-1) (HT 33) pk A := fun pk A => (proc_cg a1 (fun b i hb hi => a2 _ (a5 b i hb hi)) n 0 (by omega) 0 (-1) (HT 33) pk A (a2 _ (Or.inl rfl))).symm
  rw [cg] at x6
  have x4 : ∀ i, i < n → H2 105 (9 * f.toNat + i) = (proc (cP c HT) n 0 0 (-1) (HT 33) pk2 (-16, bst2)).2 i := fun i hi => by rw [x4 i hi, cg]
  obtain ⟨f1, f2, f3, f4, f5, f6, f7, f8, f9, f10, f11, f12, f13⟩ := id hF
  have hgr : ∀ b i, b < n → i < sop (cP c HT) b → -1 ≤ sgn (cP c HT) b i ∧ sgn (cP c HT) b i ≤ 160000 := fun b i hb hi => (f6 b i hb hi).2
  obtain ⟨v0, hv0⟩ := rc_ex (P := cP c HT) (n := n) (fun b hb => f13 b hb) (fun b x => cP_none c HT b x) (m := n) (b := 0) (by omega) (ah := -1) (lf := HT 33)
  have hlo : ∀ u, rc (cP c HT) n 0 (-1) (HT 33) u → -9 ≤ u := fun u hu => by have := (rc_bd hgr (m := n) (b := 0) (by omega) hu).1; omega
  by_cases h0 : 0 < n
  · obtain ⟨pk1, bst1, y1, y2⟩ := hL.2.2.2 rfl h0
    have same := proc_same (P := cP c HT) (n := n) (l := -9) (lf := HT 33) (pk := pk1) (pk' := pk2) (A := (-1000000, bst1)) (B := (-16, bst2)) hv0 hlo (by show (-1000000 : Int) < -9; omega) (by show (-16 : Int) < -9; omega)
    have good := proc_best (P := cP c HT) (gn := opG v c G f nf) (n := n) (fun b i hb hi => a4 b i hb hi) (l := -9) (lf := HT 33) (pk := pk1) (A := (-1000000, bst1)) hv0 (hlo _ hv0) (by show (-1000000 : Int) < -9; omega)
    have e36 : ∀ i, i < n → G' 36 i = (proc (cP c HT) n 0 0 (-1) (HT 33) pk1 (-1000000, bst1)).2 i := fun i hi => y2 i (by omega)
    refine ⟨fun i hi => by rw [x4 i hi, ← same.2 i hi, e36 i hi], fun i hi => ?_, ?_⟩
    · obtain ⟨j, j1, j2⟩ := good.2 i hi
      rw [e36 i hi, j2]
      exact a3 i j hi j1
    · rw [← x6, ← same.1, good.1]
      exact (gsum_congr e36).symm
  · have hn0 : n = 0 := by omega
    subst hn0
    refine ⟨fun i hi => absurd hi (by omega), fun i hi => absurd hi (by omega), ?_⟩
    rw [← x6]
    show (if (-16 : Int) < 0 then ((0 : Int), pk2) else (-16, bst2)).1 = 0
    rw [if_pos (by decide)]
theorem gsum_lin {a o : Nat → Int → Int} {g : Nat → Int → Int} {bst : Nat → Int} {m : Nat} (h : ∀ b, b < m → g b (bst b) = 16 * a b (bst b) - o b (bst b)) : gsum g bst m = 16 * gsum a bst m - gsum o bst m := by
  induction m with
  | zero => rfl
  | succ m ih =>
    show gsum g bst m + g m (bst m) = 16 * (gsum a bst m + a m (bst m)) - (gsum o bst m + o m (bst m))
    rw [ih (fun b hb => h b (by omega)), h m (by omega)]
    omega
theorem gsum_r {a : Nat → Int → Int} {bst : Nat → Int} {m : Nat} {u : Int} (h : ∀ b, b < m → 0 ≤ a b (bst b) ∧ a b (bst b) ≤ u) : 0 ≤ gsum a bst m ∧ gsum a bst m ≤ u * (m : Int) := by
  induction m with
  | zero => show (0 : Int) ≤ 0 ∧ (0 : Int) ≤ u * 0; omega
  | succ m ih =>
    have h1 := ih (fun b hb => h b (by omega))
    have h2 := h m (by omega)
    show 0 ≤ gsum a bst m + a m (bst m) ∧ gsum a bst m + a m (bst m) ≤ u * ((m + 1 : Nat) : Int)
    have e : u * ((m + 1 : Nat) : Int) = u * (m : Int) + u := by rw [show ((m + 1 : Nat) : Int) = (m : Int) + 1 from rfl, Int.mul_add, Int.mul_one]
    omega
/-- what takeOver leaves -/
theorem tako_eq {G' : mG} (hn : G' 1 6 = (n : Int)) (hn9 : n ≤ 9) (h4 : G' 29 4 = (n : Int)) (hf : 0 ≤ f ∧ f < 26) : (∀ b, b < 9 → (e_X11_takeOver G' f) 22 (9 * f.toNat + b) = if b < n then G' 36 b else -1) ∧ (∀ i, (i < 9 * f.toNat ∨ 9 * f.toNat + 9 ≤ i) → (e_X11_takeOver G' f) 22 i = G' 22 i) ∧ (e_X11_takeOver G' f) 23 = (fun i => if i = f.toNat then 1 else G' 23 i) ∧ ∀ k, k ≠ 22 → k ≠ 23 → (e_X11_takeOver G' f) k = G' k := by
  have key : ∀ m, m ≤ 9 → (∀ b, b < m → (fd (g_X11_takeOver_2 G' f) G' m) 22 (9 * f.toNat + b) = if b < n then G' 36 b else -1) ∧ (∀ i, (i < 9 * f.toNat ∨ 9 * f.toNat + m ≤ i) → (fd (g_X11_takeOver_2 G' f) G' m) 22 i = G' 22 i) ∧ ∀ k, k ≠ 22 → (fd (g_X11_takeOver_2 G' f) G' m) k = G' k := by
    intro m
    induction m with
    | zero => intro _; exact ⟨fun b hb => absurd hb (by omega), fun _ _ => rfl, fun _ _ => rfl⟩
    | succ m ih =>
      intro hm
      obtain ⟨i1, i2, i3⟩ := ih (by omega)
      rw [fd_s]
      generalize fd (g_X11_takeOver_2 G' f) G' m = s at *
      have eset : ∀ x, e_X4_set s ((m : Nat) : Int) f x = gs s 22 (9 * f.toNat + m) x := fun x => by
        have := fa_X4_hasRow s ((m : Nat) : Int) f
        unfold e_X4_set
        rw [if_neg (by omega), (ix_g hf (show m < 9 by omega)).2, st_nat]
      have ecf : m < n → f_X8_clauseFor s ((m : Nat) : Int) = G' 36 m := fun hmn => by
        unfold f_X8_clauseFor
        rw [i3 29 (by decide), h4, if_neg (by omega), if_neg (by omega), if_neg (by omega), st_nat, i3 36 (by decide)]
      have eg : g_X11_takeOver_2 G' f m s = gs s 22 (9 * f.toNat + m) (if m < n then G' 36 m else -1) := by
        unfold g_X11_takeOver_2 f_X0_size
        rw [i3 1 (by decide), hn, eset, eset]
        by_cases hmn : m < n
        · rw [if_neg (by omega), if_pos hmn, ecf hmn]
        · rw [if_pos (by omega), if_neg hmn]
      rw [eg]
      refine ⟨fun b hb => ?_, fun i hi => ?_, fun k hk => by rw [gs_ne hk]; exact i3 k hk⟩
      · by_cases hbm : b = m
        · rw [hbm, gs_at]
        · rw [gs_at_ne (by omega)]; exact i1 b (by omega)
      · rw [gs_at_ne (by omega)]; exact i2 i (by omega)
  obtain ⟨k1, k2, k3⟩ := key 9 (Nat.le_refl _)
  unfold e_X11_takeOver e_X4_setMade
  generalize fd (g_X11_takeOver_2 G' f) G' 9 = s at *
  have := fa_X11_isFortnight s f
  rw [if_neg (by omega)]
  refine ⟨fun b hb => by rw [gs_ne (by decide)]; exact k1 b hb, fun i hi => by rw [gs_ne (by decide)]; exact k2 i hi, by rw [gs_row, k3 23 (by decide)], fun k h1 h2 => by rw [gs_ne h2]; exact k3 k h1⟩
end GVM
