/-! ===== the course of a board: the class's days beside the reference's ===== -/
/-- what the first m facts prove of a day (the last told of it), and the first day hung -/
def cpf (kd bd wh dy : Nat → Int) (b f : Int) : Nat → (Nat → Int) × Int
  | 0 => (fun _ => -1, 14)
  | m + 1 => if bd m = b ∧ wh m = f then
      (if kd m = 0 then ((cpf kd bd wh dy b f m).1, mMin (cpf kd bd wh dy b f m).2 (dy m))
       else if kd m = 4 then cpf kd bd wh dy b f m
       else (fun d => if (d : Int) = dy m then kd m else (cpf kd bd wh dy b f m).1 d, (cpf kd bd wh dy b f m).2))
      else cpf kd bd wh dy b f m
/-- the latest that is proved on or before a day -/
def lat (p : Nat → Int) : Nat → Int
  | 0 => p 0
  | d + 1 => if p (d + 1) = -1 then lat p d else p (d + 1)
def lk (p : Nat → Int) (fh : Int) (d : Nat) : Int := if lat p d = -1 then (if fh ≤ (d : Int) then 2 else 0) else (if lat p d = 1 then 1 else 0)
theorem lat_none {p : Nat → Int} {d : Nat} (h : ∀ i, i ≤ d → p i = -1) : lat p d = -1 := by
  induction d with
  | zero => exact h 0 (Nat.le_refl _)
  | succ d ih => unfold lat; rw [if_pos (h (d + 1) (Nat.le_refl _))]; exact ih (fun i hi => h i (by omega))
theorem lat_at {p : Nat → Int} {d D : Nat} (hD : D ≤ d) (hp : ¬ p D = -1) (h : ∀ i, D < i → i ≤ d → p i = -1) : lat p d = p D := by
  induction d with
  | zero =>
    have : D = 0 := by omega
    rw [this]; rfl
  | succ d ih =>
    unfold lat
    by_cases hd : D = d + 1
    · rw [← hd, if_neg hp]
    · rw [if_pos (h (d + 1) (by omega) (Nat.le_refl _))]
      exact ih (by omega) (fun i h1 h2 => h i h1 (by omega))
/-- facts as they may stand -/
def fOK (kd dy : Nat → Int) (n : Nat) : Prop := ∀ i, i < n → (0 ≤ kd i ∧ kd i ≤ 4) ∧ (0 ≤ dy i ∧ dy i ≤ 13)
def shI (p : Nat → Int) (fh : Int) (kd dyr : Nat → Int) (d m : Nat) (s : Int × Int) : Prop :=
  ((s.2 = 0 ∧ (d : Int) < fh) ∨ (s.2 = 1 ∧ fh ≤ (d : Int))) ∧ ((s.1 = -1 ∧ ∀ i, i ≤ d → p i = -1) ∨ (∃ l D : Nat, l < m ∧ s.1 = (l : Int) ∧ dyr l = (D : Int) ∧ D ≤ d ∧ p D = kd l ∧ 0 ≤ kd l ∧ ∀ i, D < i → i ≤ d → p i = -1))
theorem shI_up {p : Nat → Int} {fh : Int} {kd dyr : Nat → Int} {d m : Nat} {s : Int × Int} (h : shI p fh kd dyr d m s) : shI p fh kd dyr d (m + 1) s := by
  refine ⟨h.1, ?_⟩
  rcases h.2 with h2 | ⟨l, D, h1, h2⟩
  · exact Or.inl h2
  · exact Or.inr ⟨l, D, by omega, h2⟩
theorem shI_s {G : mG} {b f : Int} {n m d : Nat} {s : Int × Int} (hf : fOK (G 100) (G 103) n) (hm : m < n)
    (h : shI (cpf (G 100) (G 101) (G 102) (G 103) b f m).1 (cpf (G 100) (G 101) (G 102) (G 103) b f m).2 (G 100) (G 103) d m s) :
    shI (cpf (G 100) (G 101) (G 102) (G 103) b f (m + 1)).1 (cpf (G 100) (G 101) (G 102) (G 103) b f (m + 1)).2 (G 100) (G 103) d (m + 1) (g_X12_shownOn_9 G b f (d : Int) (n : Int) m s) := by
  have hr := hf m hm
  have same := shI_up h
  have eK : cpf (G 100) (G 101) (G 102) (G 103) b f (m + 1) = (if G 101 m = b ∧ G 102 m = f then (if G 100 m = 0 then ((cpf (G 100) (G 101) (G 102) (G 103) b f m).1, mMin (cpf (G 100) (G 101) (G 102) (G 103) b f m).2 (G 103 m)) else if G 100 m = 4 then cpf (G 100) (G 101) (G 102) (G 103) b f m else (fun d => if (d : Int) = G 103 m then G 100 m else (cpf (G 100) (G 101) (G 102) (G 103) b f m).1 d, (cpf (G 100) (G 101) (G 102) (G 103) b f m).2)) else cpf (G 100) (G 101) (G 102) (G 103) b f m) := rfl
  have eZ : g_X12_shownOn_9 G b f (d : Int) (n : Int) m s = (if G 100 m = 4 then (s.1, s.2) else (if ¬ G 101 m = b then (s.1, s.2) else (if ¬ G 102 m = f then (s.1, s.2) else (if G 103 m ≤ (d : Int) then (if ¬ G 100 m = 0 then (if s.1 = (-1) then (((m : Nat) : Int), s.2) else (if G 103 m < G 103 (Int.toNat s.1) then (s.1, s.2) else (((m : Nat) : Int), s.2))) else (s.1, 1)) else (s.1, s.2))))) := by
    unfold g_X12_shownOn_9
    rw [st_nat]
  generalize cpf (G 100) (G 101) (G 102) (G 103) b f (m + 1) = K at eK ⊢
  generalize g_X12_shownOn_9 G b f (d : Int) (n : Int) m s = Z at eZ ⊢
  generalize cpf (G 100) (G 101) (G 102) (G 103) b f m = C at *
  by_cases hb : G 101 m = b ∧ G 102 m = f
  · rw [if_pos hb] at eK
    by_cases h4 : G 100 m = 4
    · rw [if_neg (by omega), if_pos h4] at eK
      rw [if_pos h4] at eZ
      rw [eK, eZ]
      exact same
    · rw [if_neg h4, if_neg (fun q => q hb.1), if_neg (fun q => q hb.2)] at eZ
      by_cases h0 : G 100 m = 0
      · rw [if_pos h0] at eK
        rw [eK]
        by_cases hd : G 103 m ≤ (d : Int)
        · rw [if_pos hd, if_neg (fun q => q h0)] at eZ
          rw [eZ]
          refine ⟨Or.inr ⟨rfl, ?_⟩, same.2⟩
          show mMin C.2 (G 103 m) ≤ (d : Int)
          unfold mMin
          split <;> omega
        · rw [if_neg hd] at eZ
          rw [eZ]
          refine ⟨?_, same.2⟩
          have : mMin C.2 (G 103 m) ≤ (d : Int) ↔ C.2 ≤ (d : Int) := by
            unfold mMin
            split <;> omega
          rcases same.1 with ⟨a1, a2⟩ | ⟨a1, a2⟩
          · refine Or.inl ⟨a1, ?_⟩
            show (d : Int) < mMin C.2 (G 103 m)
            omega
          · exact Or.inr ⟨a1, this.mpr a2⟩
      · rw [if_neg h0, if_neg h4] at eK
        obtain ⟨e, he⟩ : ∃ e : Nat, G 103 m = (e : Int) := ⟨(G 103 m).toNat, by omega⟩
        rw [he] at eK eZ
        rw [eK]
        by_cases hd : ((e : Nat) : Int) ≤ (d : Int)
        · rw [if_pos hd, if_pos h0] at eZ
          have taken : (∀ i, e < i → i ≤ d → C.1 i = -1) → shI (fun i => if ((i : Nat) : Int) = (e : Int) then G 100 m else C.1 i) C.2 (G 100) (G 103) d (m + 1) (((m : Nat) : Int), s.2) := by
            intro hi
            refine ⟨same.1, Or.inr ⟨m, e, by omega, rfl, he, by omega, ?_, by omega, fun i h1 h2 => ?_⟩⟩
            · show (if ((e : Nat) : Int) = (e : Int) then G 100 m else C.1 e) = G 100 m
              rw [if_pos rfl]
            · show (if ((i : Nat) : Int) = (e : Int) then G 100 m else C.1 i) = -1
              rw [if_neg (by omega)]
              exact hi i h1 h2
          rcases h.2 with ⟨a1, a2⟩ | ⟨l, D, l1, l2, l3, l4, l5, l6, l7⟩
          · rw [if_pos a1] at eZ
            rw [eZ]
            exact taken (fun i _ h2 => a2 i h2)
          · rw [if_neg (by omega), l2, st_nat, l3] at eZ
            by_cases hq : ((e : Nat) : Int) < (D : Int)
            · rw [if_pos hq] at eZ
              rw [eZ]
              refine ⟨same.1, Or.inr ⟨l, D, by omega, rfl, l3, l4, ?_, l6, fun i h1 h2 => ?_⟩⟩
              · show (if ((D : Nat) : Int) = (e : Int) then G 100 m else C.1 D) = G 100 l
                rw [if_neg (by omega)]; exact l5
              · show (if ((i : Nat) : Int) = (e : Int) then G 100 m else C.1 i) = -1
                rw [if_neg (by omega)]; exact l7 i h1 h2
            · rw [if_neg hq] at eZ
              rw [eZ]
              exact taken (fun i h1 h2 => l7 i (by omega) h2)
        · rw [if_neg hd] at eZ
          rw [eZ]
          refine ⟨same.1, ?_⟩
          rcases same.2 with ⟨a1, a2⟩ | ⟨l, D, l1, l2, l3, l4, l5, l6, l7⟩
          · refine Or.inl ⟨a1, fun i hi => ?_⟩
            show (if ((i : Nat) : Int) = (e : Int) then G 100 m else C.1 i) = -1
            rw [if_neg (by omega)]; exact a2 i hi
          · refine Or.inr ⟨l, D, l1, l2, l3, l4, ?_, l6, fun i h1 h2 => ?_⟩
            · show (if ((D : Nat) : Int) = (e : Int) then G 100 m else C.1 D) = G 100 l
              rw [if_neg (by omega)]; exact l5
            · show (if ((i : Nat) : Int) = (e : Int) then G 100 m else C.1 i) = -1
              rw [if_neg (by omega)]; exact l7 i h1 h2
  · rw [if_neg hb] at eK
    have eZ2 : Z = (s.1, s.2) := by
      rw [eZ]
      by_cases h4 : G 100 m = 4
      · rw [if_pos h4]
      · rw [if_neg h4]
        by_cases hb1 : G 101 m = b
        · rw [if_neg (fun q => q hb1), if_pos (fun q => hb ⟨hb1, q⟩)]
        · rw [if_pos hb1]
    rw [eK, eZ2]
    exact same
theorem shownOn_eq {G : mG} {b f : Int} {n : Nat} (hf : fOK (G 100) (G 103) n) {d : Nat} (hd : d < 14) : f_X12_shownOn G b f (d : Int) (n : Int) = lk (cpf (G 100) (G 101) (G 102) (G 103) b f n).1 (cpf (G 100) (G 101) (G 102) (G 103) b f n).2 d := by
  have key := fd_inv (g := g_X12_shownOn_9 G b f (d : Int) (n : Int)) (a := (-1, 0)) (n := n) (fun m s => shI (cpf (G 100) (G 101) (G 102) (G 103) b f m).1 (cpf (G 100) (G 101) (G 102) (G 103) b f m).2 (G 100) (G 103) d m s)
    ⟨Or.inl ⟨rfl, by show (d : Int) < 14; omega⟩, Or.inl ⟨rfl, fun _ _ => rfl⟩⟩ (fun m s hm h => shI_s hf hm h)
  unfold f_X12_shownOn lk
  rw [st_nat]
  generalize fd (g_X12_shownOn_9 G b f (d : Int) (n : Int)) (-1, 0) n = s at *
  rcases key with ⟨k1, ⟨a1, a2⟩ | ⟨l, D, l1, l2, l3, l4, l5, l6, l7⟩⟩
  · rw [if_neg (fun q => q a1), if_pos (lat_none a2)]
    rcases k1 with ⟨h1, h2⟩ | ⟨h1, h2⟩
    · rw [if_pos h1, if_neg (by omega)]
    · rw [if_neg (by omega), if_pos h2]
  · have e := lat_at (p := (cpf (G 100) (G 101) (G 102) (G 103) b f n).1) (d := d) (D := D) l4 (by omega) l7
    rw [if_pos (show ¬ s.1 = -1 by omega), e, l5, if_neg (show ¬ G 100 l = -1 by omega), l2, st_nat]
    by_cases h1 : G 100 l = 1
    · rw [if_neg (show ¬ ¬ G 100 l = 1 from fun q => q h1), if_pos h1]
    · rw [if_pos h1, if_neg h1]
/-- the reference's first day hung -/
theorem late_fh {G : mG} {b f : Int} {n : Nat} : fd (g_X12_late_33 G b f (n : Int)) 14 n = (cpf (G 100) (G 101) (G 102) (G 103) b f n).2 := by
  have : ∀ m, fd (g_X12_late_33 G b f (n : Int)) 14 m = (cpf (G 100) (G 101) (G 102) (G 103) b f m).2 := by
    intro m
    induction m with
    | zero => rfl
    | succ m ih =>
      rw [fd_s, ih]
      have eK : cpf (G 100) (G 101) (G 102) (G 103) b f (m + 1) = (if G 101 m = b ∧ G 102 m = f then (if G 100 m = 0 then ((cpf (G 100) (G 101) (G 102) (G 103) b f m).1, mMin (cpf (G 100) (G 101) (G 102) (G 103) b f m).2 (G 103 m)) else if G 100 m = 4 then cpf (G 100) (G 101) (G 102) (G 103) b f m else (fun d => if (d : Int) = G 103 m then G 100 m else (cpf (G 100) (G 101) (G 102) (G 103) b f m).1 d, (cpf (G 100) (G 101) (G 102) (G 103) b f m).2)) else cpf (G 100) (G 101) (G 102) (G 103) b f m) := rfl
      have eZ : ∀ s1 : Int, g_X12_late_33 G b f (n : Int) m s1 = (if ¬ G 100 m = 0 then s1 else (if ¬ G 101 m = b then s1 else (if ¬ G 102 m = f then s1 else (if s1 ≤ G 103 m then s1 else G 103 m)))) := fun s1 => by
        unfold g_X12_late_33
        rw [st_nat]
      rw [eZ]
      generalize cpf (G 100) (G 101) (G 102) (G 103) b f (m + 1) = K at eK ⊢
      generalize cpf (G 100) (G 101) (G 102) (G 103) b f m = C at *
      by_cases hb : G 101 m = b ∧ G 102 m = f
      · rw [if_pos hb] at eK
        rw [if_neg (show ¬ ¬ G 101 m = b from fun q => q hb.1), if_neg (show ¬ ¬ G 102 m = f from fun q => q hb.2)]
        by_cases h0 : G 100 m = 0
        · rw [if_pos h0] at eK
          rw [if_neg (show ¬ ¬ G 100 m = 0 from fun q => q h0), eK]
          show _ = mMin C.2 (G 103 m)
          unfold mMin
          split <;> split <;> omega
        · rw [if_neg h0] at eK
          rw [if_pos h0, eK]
          by_cases h4 : G 100 m = 4
          · rw [if_pos h4]
          · rw [if_neg h4]
      · rw [if_neg hb] at eK
        rw [eK]
        by_cases h0 : G 100 m = 0
        · rw [if_neg (show ¬ ¬ G 100 m = 0 from fun q => q h0)]
          by_cases h1 : G 101 m = b
          · rw [if_neg (show ¬ ¬ G 101 m = b from fun q => q h1), if_pos (show ¬ G 102 m = f from fun q => hb ⟨h1, q⟩)]
          · rw [if_pos h1]
        · rw [if_pos h0]
  exact this n
/-! the class's course -/
theorem follow_facts {G : mG} {b f : Int} {n : Nat} (hf : fOK (G 9) (G 12) n) (hn : (n : Int) ≤ G 8 4) (hs : G 8 4 ≤ 300) :
    (∀ d, d < 14 → (fd (g_X2_follow_17 G b f (n : Int)) (gs (e_fill_27 G (-1)) 26 2 14) n) 27 d = (cpf (G 9) (G 10) (G 11) (G 12) b f n).1 d) ∧ (fd (g_X2_follow_17 G b f (n : Int)) (gs (e_fill_27 G (-1)) 26 2 14) n) 26 2 = (cpf (G 9) (G 10) (G 11) (G 12) b f n).2 := by
  have key := fd_inv (g := g_X2_follow_17 G b f (n : Int)) (a := gs (e_fill_27 G (-1)) 26 2 14) (n := n) (fun m s => (∀ k, k ∈ [8, 9, 10, 11, 12] → s k = G k) ∧ (∀ d, d < 14 → s 27 d = (cpf (G 9) (G 10) (G 11) (G 12) b f m).1 d) ∧ s 26 2 = (cpf (G 9) (G 10) (G 11) (G 12) b f m).2)
    ⟨fun k hk => by
        simp only [List.mem_cons, List.not_mem_nil, or_false] at hk
        rw [gs_ne (by omega), fr_fill_27 (fun a ha => by simp only [List.mem_cons, List.not_mem_nil, or_false] at ha; omega)],
      fun d hd => by rw [gs_ne (by decide), e_fill_27_eq]; exact gf_at hd, gs_at _ _ _ _⟩
    (by
      intro m s hm hI
      obtain ⟨i1, i2, i3⟩ := hI
      have e8 := i1 8 (by decide)
      have e9 := i1 9 (by decide)
      have e10 := i1 10 (by decide)
      have e11 := i1 11 (by decide)
      have e12 := i1 12 (by decide)
      have hr := hf m hm
      have hh := fa_X3_has s ((m : Nat) : Int)
      rw [e8] at hh
      have hkd : f_X3_kindOf s ((m : Nat) : Int) = G 9 m := by unfold f_X3_kindOf; rw [if_neg (by omega), st_nat, e9]
      have hdy : f_X3_dayOf s ((m : Nat) : Int) = G 12 m := by unfold f_X3_dayOf; rw [if_neg (by omega), st_nat, e12]
      have hof : f_X3_isOf s ((m : Nat) : Int) b f = if G 10 m = b ∧ G 11 m = f then 1 else 0 := by
        unfold f_X3_isOf
        rw [if_neg (by omega), st_nat, e10, e11]
        by_cases h1 : G 10 m = b
        · rw [if_neg (fun q => q h1)]
          by_cases h2 : G 11 m = f
          · rw [if_neg (fun q => q h2), if_pos ⟨h1, h2⟩]
          · rw [if_pos h2, if_neg (fun q => h2 q.2)]
        · rw [if_pos h1, if_neg (fun q => h1 q.1)]
      unfold g_X2_follow_17 cpf
      rw [hof, hkd, hdy]
      by_cases hb : G 10 m = b ∧ G 11 m = f
      · rw [if_pos hb, if_neg (by decide), if_pos hb]
        unfold e_X2_learn
        by_cases h0 : G 9 m = 0
        · rw [if_neg (fun q => q h0), if_pos h0]
          refine ⟨fun k hk => ?_, fun d hd => ?_, ?_⟩
          · simp only [List.mem_cons, List.not_mem_nil, or_false] at hk
            rw [gs_ne (by omega)]
            exact i1 k (by simp only [List.mem_cons, List.not_mem_nil, or_false]; exact hk)
          · rw [gs_ne (by decide)]; exact i2 d hd
          · rw [gs_at, i3]
        · rw [if_pos h0, if_neg h0]
          by_cases h4 : G 9 m = 4
          · rw [if_pos h4, if_pos h4]; exact ⟨i1, i2, i3⟩
          · rw [if_neg h4, if_neg h4, if_neg (by omega), if_neg (by omega)]
            refine ⟨fun k hk => ?_, fun d hd => ?_, ?_⟩
            · simp only [List.mem_cons, List.not_mem_nil, or_false] at hk
              rw [gs_ne (by omega)]
              exact i1 k (by simp only [List.mem_cons, List.not_mem_nil, or_false]; exact hk)
            · show gs s 27 (Int.toNat (G 12 m)) (G 9 m) 27 d = (if (d : Int) = G 12 m then G 9 m else (cpf (G 9) (G 10) (G 11) (G 12) b f m).1 d)
              by_cases hdd : (d : Int) = G 12 m
              · rw [if_pos hdd, show d = Int.toNat (G 12 m) by omega, gs_at]
              · rw [if_neg hdd, gs_at_ne (by omega)]; exact i2 d hd
            · rw [gs_ne (by decide)]; exact i3
      · rw [if_neg hb, if_pos rfl, if_neg hb]
        exact ⟨i1, i2, i3⟩)
  exact ⟨key.2.1, key.2.2⟩
theorem look_days {H : mG} {p : Nat → Int} {fh : Int} (hp : ∀ d, d < 14 → H 27 d = p d) (hh : H 26 2 = fh) : ∀ d, d < 14 → (e_X2_lookThroughDays H) 28 d = lk p fh d := by
  have key := fd_inv (g := g_X2_lookThroughDays_4 H) (a := ((-1 : Int), H)) (n := 14) (fun m s => (m = 0 → s.1 = -1) ∧ (∀ d, d + 1 = m → s.1 = lat p d) ∧ s.2 27 = H 27 ∧ s.2 26 = H 26 ∧ ∀ d, d < m → s.2 28 d = lk p fh d)
    ⟨fun _ => rfl, fun d hd => absurd hd (by omega), rfl, rfl, fun d hd => absurd hd (by omega)⟩
    (by
      intro m s hm hI
      obtain ⟨i0, i1, i2, i3, i4⟩ := hI
      have hl : (if H 27 m = -1 then s.1 else H 27 m) = lat p m := by
        rw [hp m hm]
        cases m with
        | zero =>
          show _ = p 0
          by_cases h : p 0 = -1
          · rw [if_pos h, i0 rfl, h]
          · rw [if_neg h]
        | succ q =>
          show _ = (if p (q + 1) = -1 then lat p q else p (q + 1))
          rw [i1 q rfl]
      have done : ∀ (l x : Int), l = lat p m → x = lk p fh m → (fun (m : Nat) (s : Int × mG) => (m = 0 → s.1 = -1) ∧ (∀ d, d + 1 = m → s.1 = lat p d) ∧ s.2 27 = H 27 ∧ s.2 26 = H 26 ∧ ∀ d, d < m → s.2 28 d = lk p fh d) (m + 1) (l, gs s.2 28 m x) := by
        intro l x hl2 hx
        refine ⟨fun h => absurd h (by omega), fun d hd => ?_, ?_, ?_, fun d hd => ?_⟩
        · rw [show d = m by omega]; exact hl2
        · show gs s.2 28 m x 27 = _; rw [gs_ne (by decide)]; exact i2
        · show gs s.2 28 m x 26 = _; rw [gs_ne (by decide)]; exact i3
        · show gs s.2 28 m x 28 d = _
          by_cases hdm : d = m
          · rw [hdm, gs_at]; exact hx
          · rw [gs_at_ne hdm]; exact i4 d (by omega)
      unfold g_X2_lookThroughDays_4
      rw [st_nat, i2, i3, hh]
      by_cases h1 : H 27 m = -1
      · rw [if_pos h1] at hl
        rw [if_neg (fun q => q h1)]
        by_cases h2 : s.1 = -1
        · rw [if_neg (fun q => q h2)]
          by_cases h3 : ((m : Nat) : Int) < fh
          · rw [if_pos h3]
            exact done _ _ hl (by unfold lk; rw [← hl, if_pos h2, if_neg (by omega)])
          · rw [if_neg h3]
            exact done _ _ hl (by unfold lk; rw [← hl, if_pos h2, if_pos (by omega)])
        · rw [if_pos h2]
          by_cases h3 : s.1 = 1
          · rw [if_neg (fun q => q h3)]
            exact done _ _ hl (by unfold lk; rw [← hl, if_neg h2, if_pos h3])
          · rw [if_pos h3]
            exact done _ _ hl (by unfold lk; rw [← hl, if_neg h2, if_neg h3])
      · rw [if_neg h1] at hl
        rw [if_pos h1, if_pos h1]
        by_cases h3 : H 27 m = 1
        · rw [if_neg (fun q => q h3)]
          exact done _ _ hl (by unfold lk; rw [← hl, if_neg h1, if_pos h3])
        · rw [if_pos h3]
          exact done _ _ hl (by unfold lk; rw [← hl, if_neg h1, if_neg h3]))
  exact fun d hd => key.2.2.2.2 d hd
theorem follow_eq {G : mG} {b f : Int} {n : Nat} (hf : fOK (G 9) (G 12) n) (hn : (n : Int) ≤ G 8 4) (hs : G 8 4 ≤ 300) : (∀ d, d < 14 → (e_X2_follow G b f (n : Int)) 28 d = lk (cpf (G 9) (G 10) (G 11) (G 12) b f n).1 (cpf (G 9) (G 10) (G 11) (G 12) b f n).2 d) ∧ (e_X2_follow G b f (n : Int)) 26 2 = (cpf (G 9) (G 10) (G 11) (G 12) b f n).2 := by
  obtain ⟨h1, h2⟩ := follow_facts (b := b) (f := f) hf hn hs
  unfold e_X2_follow
  rw [ite_self, st_nat]
  refine ⟨look_days h1 h2, ?_⟩
  rw [fr_X2_lookThroughDays (k := 26) (by decide)]
  exact h2
/-- as many days of a look, on both sides -/
theorem days_eq {G H : mG} {b f : Int} {n : Nat} {x : Int} (hf : fOK (G 100) (G 103) n) (h : ∀ d, d < 14 → H 28 d = lk (cpf (G 100) (G 101) (G 102) (G 103) b f n).1 (cpf (G 100) (G 101) (G 102) (G 103) b f n).2 d) : f_X2_daysOf H x = f_X12_days G b f (n : Int) x := by
  unfold f_X2_daysOf f_X12_days
  refine fd_congr (fun j s hj => ?_)
  unfold g_X2_daysOf_4 g_X12_days_6
  rw [st_nat, h j hj, shownOn_eq hf hj]
