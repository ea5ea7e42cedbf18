/-! ===== folds: what a loop comes to; ranges; locals forgotten ===== -/
def fd {α : Type} (g : Nat → α → α) (a : α) : Nat → α
  | 0 => a
  | n + 1 => g n (fd g a n)
theorem fd_s {α : Type} (g : Nat → α → α) (a : α) (n : Nat) : fd g a (n + 1) = g n (fd g a n) := rfl
theorem fd_inv {α : Type} {g : Nat → α → α} {a : α} {n : Nat} (I : Nat → α → Prop) (h0 : I 0 a) (hs : ∀ j s, j < n → I j s → I (j + 1) (g j s)) : I n (fd g a n) := by
  have : ∀ k, k ≤ n → I k (fd g a k) := by
    intro k
    induction k with
    | zero => intro _; exact h0
    | succ k ih => intro hk; exact hs k _ (by omega) (ih (by omega))
  exact this n (Nat.le_refl n)
theorem fd_congr {α : Type} {g g2 : Nat → α → α} {a : α} {n : Nat} (h : ∀ j s, j < n → g j s = g2 j s) : fd g a n = fd g2 a n := by
  induction n with
  | zero => rfl
  | succ n ih =>
    rw [fd_s, fd_s, ih (fun j s hj => h j s (by omega)), h n _ (by omega)]
theorem lup {α : Type} (g : Nat → α → α) (a : α) (P : Nat → α → Prop) (n : Nat) (hs : ∀ j s, j < n → P (j + 1) (g j s) → P j s) (hf : P n (fd g a n)) : P 0 a := by
  have : ∀ k, k ≤ n → P k (fd g a k) → P 0 a := by
    intro k
    induction k with
    | zero => intro _ h; exact h
    | succ k ih => intro hk h; exact ih (by omega) (hs k _ (by omega) h)
  exact this n (Nat.le_refl n) hf
theorem lupI {α : Type} (g : Nat → α → α) (a : α) (P I : Nat → α → Prop) (n : Nat) (hI : I 0 a ∧ ∀ j s, j < n → I j s → I (j + 1) (g j s)) (hs : ∀ j s, j < n → I j s → P (j + 1) (g j s) → P j s) (hf : I n (fd g a n) → P n (fd g a n)) : P 0 a := by
  have hI2 : ∀ k, k ≤ n → I k (fd g a k) := by
    intro k
    induction k with
    | zero => intro _; exact hI.1
    | succ k ih => intro hk; exact hI.2 k _ (by omega) (ih (by omega))
  have : ∀ k, k ≤ n → P k (fd g a k) → P 0 a := by
    intro k
    induction k with
    | zero => intro _ h; exact h
    | succ k ih => intro hk h; exact ih (by omega) (hs k _ (by omega) (hI2 k (by omega)) h)
  exact this n (Nat.le_refl n) (hf (hI2 n (Nat.le_refl n)))
/-- a loop that may end early: P j holds as long as nothing was found before j -/
theorem lupE (P : Nat → Prop) (n : Nat) (hs : ∀ j, j < n → P (j + 1) → P j) (hf : P n) : P 0 := by
  induction n with
  | zero => exact hf
  | succ n ih => exact ih (fun j hj => hs j (by omega)) (hs n (by omega) hf)
/-- how many of the first n -/
def cn (p : Nat → Bool) : Nat → Int
  | 0 => 0
  | n + 1 => cn p n + b01 (p n)
theorem cn_r (p : Nat → Bool) (n : Nat) : 0 ≤ cn p n ∧ cn p n ≤ n := by
  induction n with
  | zero => exact ⟨Int.le_refl _, Int.le_refl _⟩
  | succ n ih =>
    show 0 ≤ cn p n + b01 (p n) ∧ cn p n + b01 (p n) ≤ ((n + 1 : Nat) : Int)
    unfold b01
    cases p n <;> simp <;> omega
theorem cn_congr {p q : Nat → Bool} {n : Nat} (h : ∀ j, j < n → p j = q j) : cn p n = cn q n := by
  induction n with
  | zero => rfl
  | succ n ih => show cn p n + _ = cn q n + _; rw [ih (fun j hj => h j (by omega)), h n (by omega)]
/-- a count as a loop makes it -/
theorem fd_cn {g : Nat → Int → Int} {p : Nat → Bool} {n : Nat} (hn : n < 100000) (h : ∀ j s, j < n → g j s = bif p j then w32 (s + 1) else s) : fd g 0 n = cn p n := by
  induction n with
  | zero => rfl
  | succ n ih =>
    rw [fd_s, ih (by omega) (fun j s hj => h j s (by omega)), h n _ (by omega)]
    show _ = cn p n + b01 (p n)
    have := cn_r p n
    unfold b01
    cases p n with
    | true => exact w32_i (by omega) (by omega)
    | false => exact (Int.add_zero _).symm
/-- the first of n, or -1 -/
def fs (p : Nat → Bool) : Nat → Int
  | 0 => -1
  | n + 1 => if fs p n = -1 then (bif p n then (n : Int) else -1) else fs p n
theorem fs_no {p : Nat → Bool} {n : Nat} (h : ∀ j, j < n → p j = false) : fs p n = -1 := by
  induction n with
  | zero => rfl
  | succ n ih => unfold fs; rw [if_pos (ih (fun j hj => h j (by omega))), h n (by omega)]; rfl
theorem fs_at {p : Nat → Bool} {n j : Nat} (h : ∀ i, i < j → p i = false) (hj : p j = true) (hn : j < n) : fs p n = (j : Int) := by
  induction n with
  | zero => omega
  | succ n ih =>
    unfold fs
    by_cases hjn : j = n
    · subst hjn
      rw [if_pos (fs_no h), hj]
      rfl
    · rw [ih (by omega), if_neg (by omega)]
theorem fs_r (p : Nat → Bool) (n : Nat) : (fs p n = -1 ∧ ∀ j, j < n → p j = false) ∨ ∃ j, j < n ∧ fs p n = (j : Int) ∧ p j = true ∧ ∀ i, i < j → p i = false := by
  induction n with
  | zero => exact Or.inl ⟨rfl, fun j hj => absurd hj (by omega)⟩
  | succ n ih =>
    rcases ih with ⟨h1, h2⟩ | ⟨j, h1, h2, h3, h4⟩
    · cases hp : p n with
      | false => exact Or.inl ⟨by unfold fs; rw [if_pos h1, hp]; rfl, fun j hj => by
          by_cases hjn : j = n
          · rw [hjn]; exact hp
          · exact h2 j (by omega)⟩
      | true => exact Or.inr ⟨n, by omega, by unfold fs; rw [if_pos h1, hp]; rfl, hp, h2⟩
    · exact Or.inr ⟨j, by omega, by unfold fs; rw [if_neg (by omega)]; exact h2, h3, h4⟩
theorem fs_congr {p q : Nat → Bool} {n : Nat} (h : ∀ j, j < n → p j = q j) : fs p n = fs q n := by
  induction n with
  | zero => rfl
  | succ n ih => unfold fs; rw [ih (fun j hj => h j (by omega)), h n (by omega)]
/-- locals may be forgotten -/
def fgt : List (Option mV) → List (Option mV) → Prop
  | [], [] => True
  | none :: a, _ :: b => fgt a b
  | some v :: a, w :: b => w = some v ∧ fgt a b
  | _, _ => False
theorem fgt_len {a b : List (Option mV)} (h : fgt a b) : a.length = b.length := by
  induction a generalizing b with
  | nil => cases b with
    | nil => rfl
    | cons => exact h.elim
  | cons x a ih => cases b with
    | nil => cases x <;> exact h.elim
    | cons y b => cases x with
      | none => exact congrArg (· + 1) (ih h)
      | some v => exact congrArg (· + 1) (ih h.2)
theorem fgt_at {a b : List (Option mV)} (h : fgt a b) {i : Nat} {v : mV} (hv : a[i]? = some (some v)) : b[i]? = some (some v) := by
  induction a generalizing b i with
  | nil => cases hv
  | cons x a ih => cases b with
    | nil => cases x <;> exact h.elim
    | cons y b => cases i with
      | zero =>
        cases x with
        | none => cases hv
        | some w =>
          have e1 : w = v := by
            have : some (some w) = some (some v) := hv
            exact Option.some.inj (Option.some.inj this)
          show some y = some (some v)
          rw [h.1, e1]
      | succ i => cases x with
        | none => exact ih (b := b) h hv
        | some w => exact ih (b := b) h.2 hv
theorem WP.fg {o : mO} {M : mM} {D : Nat → Bool} {d mc ms : Nat} {ph : Bool} {n' : Nat} {Q : Option mV → mG → Prop} {n ce sl pc : Nat} {L L' : List (Option mV)} {S : List mV} {G : mG} (hL : fgt L' L) (h : WP o M D d mc ms ph n' Q n ce sl pc L' S G) : WP o M D d mc ms ph n' Q n ce sl pc L S G := by
  intro l X p e R s m args below meth c H locs ls Z a1 a2 a3 a4 a5 a6 a7 a8
  refine h l X p e R s m args below meth c H locs ls Z a1 a2 a3 a4 ?_ a6 ?_ a8
  · refine ⟨(fgt_len hL).trans a5.1, a5.2.1, a5.2.2.1, fun q hq => a5.2.2.2 q ?_⟩
    obtain ⟨v, h1, h2⟩ := lpX_mem.mp hq
    exact lpX_mem.mpr ⟨v, fgt_at hL h1, h2⟩
  · intro v hv
    obtain ⟨i, hi⟩ := List.getElem?_of_mem hv
    exact a7 v (List.mem_of_getElem? (fgt_at hL hi))
theorem WP.rng {o : mO} {M : mM} {D : Nat → Bool} {d mc ms : Nat} {ph : Bool} {n' : Nat} {Q : Option mV → mG → Prop} {n ce sl pc : Nat} {L : List (Option mV)} {S : List mV} {G : mG} (h : Rg n (gx ph G) → okL L → okS S → WP o M D d mc ms ph n' Q n ce sl pc L S G) : WP o M D d mc ms ph n' Q n ce sl pc L S G := by
  intro l X p e R s m args below meth c H locs ls Z a1 a2 a3 a4 a5 a6 a7 a8
  exact h a3.2.2.1 a7 a6 l X p e R s m args below meth c H locs ls Z a1 a2 a3 a4 a5 a6 a7 a8
theorem MP.rng {D : Nat → Bool} {d mc ms : Nat} {ph : Bool} {n n' : Nat} {M : mM} {as : List mV} {G : mG} {Q : Option mV → mG → Prop} (h : Rg n (gx ph G) → okS as → MP D d mc ms ph n n' M as G Q) : MP D d mc ms ph n n' M as G Q := by
  intro l X p e ha hc hk s m args below hf happ hP hK
  exact h hP.2.1.2.2.1 hP.2.2.2 l X p e ha hc hk s m args below hf happ hP hK
/-- whole cells: fill the first n places -/
def gf (G : mG) (k n : Nat) (x : Int) : mG := fun a => if a = k then (fun i => if i < n then x else G k i) else G a
theorem gs_gf (G : mG) (k n : Nat) (x : Int) : gs (gf G k n x) k n x = gf G k (n + 1) x := by
  funext a
  unfold gs gf
  by_cases h : a = k
  · rw [if_pos h, if_pos h]
    funext i
    rw [if_pos rfl]
    by_cases h1 : i = n
    · rw [if_pos h1, if_pos (by omega)]
    · rw [if_neg h1]
      by_cases h2 : i < n
      · rw [if_pos h2, if_pos (by omega)]
      · rw [if_neg h2, if_neg (by omega)]
  · rw [if_neg h, if_neg h, if_neg h]
theorem gf_0 (G : mG) (k : Nat) (x : Int) : gf G k 0 x = G := by
  funext a
  unfold gf
  by_cases h : a = k
  · rw [if_pos h, h]; funext i; rw [if_neg (by omega)]
  · rw [if_neg h]
theorem fd_gf {g : Nat → mG → mG} {G : mG} {k : Nat} {x : Int} {n : Nat} (h : ∀ j s, j < n → g j s = gs s k j x) : fd g G n = gf G k n x := by
  induction n with
  | zero => exact (gf_0 G k x).symm
  | succ n ih => rw [fd_s, ih (fun j s hj => h j s (by omega)), h n _ (by omega), gs_gf]
theorem gf_ne {G : mG} {k n a : Nat} {x : Int} (h : a ≠ k) : gf G k n x a = G a := by unfold gf; rw [if_neg h]
theorem gf_at {G : mG} {k n i : Nat} {x : Int} (h : i < n) : gf G k n x k i = x := by unfold gf; rw [if_pos rfl, if_pos h]
theorem st_nat (k : Nat) : Int.toNat ((k : Nat) : Int) = k := Int.toNat_natCast k
/-- the tape's methods under their printed names -/
def f_X9_length (G : mG) : Int := G 13 1
theorem sp_X9_length {D : Nat → Bool} {d : Nat} {G : mG} {Q : Option mV → mG → Prop} (h : Q (some (mI (f_X9_length G))) G) : P2 D (d + 1) M_X9_length [mR 18] G Q := sp_Tape_length h
def f_X9_hasRoomFor (G : mG) (x : Int) : Int := if x ≤ w32 (3000 - G 13 1) then 1 else 0
theorem sp_X9_hasRoomFor {D : Nat → Bool} {d : Nat} {G : mG} {x : Int} {Q : Option mV → mG → Prop} (h : Q (some (mI (f_X9_hasRoomFor G x))) G) : P2 D (d + 1) M_X9_hasRoomFor [mR 18, mI x] G Q := sp_Tape_hasRoomFor h
def f_X9_byteAt (G : mG) (i : Int) : Int := tpAt G i
theorem sp_X9_byteAt {D : Nat → Bool} {d : Nat} {G : mG} {i : Int} {Q : Option mV → mG → Prop} (h : Q (some (mI (f_X9_byteAt G i))) G) : P2 D (d + 1) M_X9_byteAt [mR 18, mI i] G Q := sp_Tape_byteAt h
def e_X9_clear (G : mG) : mG := gs G 13 1 0
theorem sp_X9_clear {D : Nat → Bool} {d : Nat} {G : mG} {Q : Option mV → mG → Prop} (hD : ∀ k, D k = false → inN [13] k = false) (h : Q none (e_X9_clear G)) : P2 D (d + 1) M_X9_clear [mR 18] G Q := by
  refine sp_Tape_clear ?_ h
  cases hc : D 13 with
  | true => rfl
  | false => exact absurd (hD 13 hc) (by decide)
theorem fd_fr {g : Nat → mG → mG} {a : mG} {n k : Nat} (h : ∀ j s, g j s k = s k) : fd g a n k = a k := by
  induction n with
  | zero => rfl
  | succ n ih => rw [fd_s, h, ih]
theorem fd_fr2 {g : Nat → Int × mG → Int × mG} {a : Int × mG} {n k : Nat} (h : ∀ j s, (g j s).2 k = s.2 k) : (fd g a n).2 k = a.2 k := by
  induction n with
  | zero => rfl
  | succ n ih => rw [fd_s, h, ih]
theorem fd_fr3 {g : Nat → Int × Int × mG → Int × Int × mG} {a : Int × Int × mG} {n k : Nat} (h : ∀ j s, (g j s).2.2 k = s.2.2 k) : (fd g a n).2.2 k = a.2.2 k := by
  induction n with
  | zero => rfl
  | succ n ih => rw [fd_s, h, ih]
theorem fr_X9_clear {G : mG} {k : Nat} (hk : ∀ a ∈ ([13] : List Nat), k ≠ a) : (e_X9_clear G) k = G k := gs_ne (hk 13 (by simp))
theorem fr_X9_drop {G : mG} {n : Int} {k : Nat} (hk : ∀ a ∈ ([13] : List Nat), k ≠ a) : (r_X9_drop G n).2 k = G k := by
  unfold r_X9_drop
  repeat' split
  all_goals first | rfl | simp only [gs_ne (hk 13 (by simp))]
theorem fr_X0_add {G : mG} {dd q a m bs : Int} {k : Nat} (hk : ∀ a ∈ ([1, 2, 3, 4, 5, 6] : List Nat), k ≠ a) : (r_X0_add G dd q a m bs).2 k = G k := by
  unfold r_X0_add
  repeat' split
  all_goals first | rfl | simp only [gs_ne (hk 1 (by simp)), gs_ne (hk 2 (by simp)), gs_ne (hk 3 (by simp)), gs_ne (hk 4 (by simp)), gs_ne (hk 5 (by simp)), gs_ne (hk 6 (by simp))]
theorem fr_X0_setPace {G : mG} {x v : Int} {k : Nat} (hk : ∀ a ∈ ([7] : List Nat), k ≠ a) : (r_X0_setPace G x v).2 k = G k := by
  unfold r_X0_setPace
  repeat' split
  all_goals first | rfl | simp only [gs_ne (hk 7 (by simp))]
theorem fr_X3_add {G : mG} {x b f y : Int} {k : Nat} (hk : ∀ a ∈ ([8, 9, 10, 11, 12] : List Nat), k ≠ a) : (r_X3_add G x b f y).2 k = G k := by
  unfold r_X3_add
  repeat' split
  all_goals first | rfl | simp only [gs_ne (hk 8 (by simp)), gs_ne (hk 9 (by simp)), gs_ne (hk 10 (by simp)), gs_ne (hk 11 (by simp)), gs_ne (hk 12 (by simp))]
theorem fr_X4_setMade {G : mG} {f : Int} {k : Nat} (hk : ∀ a ∈ ([23] : List Nat), k ≠ a) : (e_X4_setMade G f) k = G k := by
  unfold e_X4_setMade
  repeat' split
  all_goals first | rfl | simp only [gs_ne (hk 23 (by simp))]
theorem fr_X4_set {G : mG} {b f v : Int} {k : Nat} (hk : ∀ a ∈ ([22] : List Nat), k ≠ a) : (e_X4_set G b f v) k = G k := by
  unfold e_X4_set
  repeat' split
  all_goals first | rfl | simp only [gs_ne (hk 22 (by simp))]
theorem fr_X2_learn {G : mG} {x y : Int} {k : Nat} (hk : ∀ a ∈ ([26, 27] : List Nat), k ≠ a) : (e_X2_learn G x y) k = G k := by
  unfold e_X2_learn
  repeat' split
  all_goals first | rfl | simp only [gs_ne (hk 26 (by simp)), gs_ne (hk 27 (by simp))]
theorem fr_X10_rewind {G : mG} {k : Nat} (hk : ∀ a ∈ ([20] : List Nat), k ≠ a) : (e_X10_rewind G) k = G k := gs_ne (hk 20 (by simp))
theorem fr_X7_blame {G : mG} {x y : Int} {k : Nat} (hk : ∀ a ∈ ([15] : List Nat), k ≠ a) : (e_X7_blame G x y) k = G k := by
  unfold e_X7_blame
  repeat' split
  all_goals first | rfl | simp only [gs_ne (hk 15 (by simp))]
theorem fr_X7_hold {G : mG} {x : Int} {k : Nat} (hk : ∀ a ∈ ([15, 19] : List Nat), k ≠ a) : (e_X7_hold G x) k = G k := by
  unfold e_X7_hold
  repeat' split
  all_goals first | rfl | simp only [gs_ne (hk 15 (by simp)), gs_ne (hk 19 (by simp))]
theorem fr_X8_use {G : mG} {x y : Int} {k : Nat} (hk : ∀ a ∈ ([33] : List Nat), k ≠ a) : (e_X8_use G x y) k = G k := by
  unfold e_X8_use
  repeat' split
  all_goals first | rfl | simp only [gs_ne (hk 33 (by simp))]
/-- a loop that may end early -/
def fe {α ρ : Type} (g : Nat → α → α ⊕ ρ) (a : α) : Nat → α ⊕ ρ
  | 0 => Sum.inl a
  | n + 1 => match fe g a n with
    | Sum.inl s => g n s
    | Sum.inr r => Sum.inr r
def fnl {α ρ : Type} : α ⊕ ρ → (α → ρ) → ρ
  | Sum.inl s, k => k s
  | Sum.inr r, _ => r
def brk {α : Type} : α ⊕ α → α
  | Sum.inl s => s
  | Sum.inr s => s
theorem fe_s {α ρ : Type} (g : Nat → α → α ⊕ ρ) (a : α) (n : Nat) : fe g a (n + 1) = (match fe g a n with | Sum.inl s => g n s | Sum.inr r => Sum.inr r) := rfl
theorem fe_inl {α ρ : Type} {g : Nat → α → α ⊕ ρ} {a s : α} {n : Nat} (h : fe g a n = Sum.inl s) : fe g a (n + 1) = g n s := by rw [fe_s, h]
theorem fe_inr {α ρ : Type} {g : Nat → α → α ⊕ ρ} {a : α} {r : ρ} {n : Nat} (h : fe g a n = Sum.inr r) (m : Nat) : fe g a (n + m) = Sum.inr r := by
  induction m with
  | zero => exact h
  | succ m ih => rw [← Nat.add_assoc, fe_s, ih]
def sk {α ρ : Type} (p : α → Prop) (r : ρ → Prop) : α ⊕ ρ → Prop
  | Sum.inl z => p z
  | Sum.inr x => r x
theorem lupF {α ρ : Type} (g : Nat → α → α ⊕ ρ) (a : α) (P : Nat → α → Prop) (R : ρ → Prop) (I : Nat → α → Prop) (n : Nat) (hI : I 0 a ∧ ∀ j s z, j < n → I j s → g j s = Sum.inl z → I (j + 1) z) (hs : ∀ j s, j < n → I j s → (sk (P (j + 1)) R (g j s)) → P j s) (hf : (∀ y, fe g a n = Sum.inl y → I n y) → sk (P n) R (fe g a n)) : P 0 a := by
  have hJ : ∀ k, k ≤ n → ∀ z, fe g a k = Sum.inl z → I k z := by
    intro k
    induction k with
    | zero => intro _ z h; cases h; exact hI.1
    | succ k ih =>
      intro hk z h
      rw [fe_s] at h
      cases he : fe g a k with
      | inl y => rw [he] at h; exact hI.2 k y z (by omega) (ih (by omega) y he) h
      | inr r => rw [he] at h; cases h
  have : ∀ k, k ≤ n → (sk (P k) R (fe g a k)) → P 0 a := by
    intro k
    induction k with
    | zero => intro _ h; exact h
    | succ k ih =>
      intro hk h
      refine ih (by omega) ?_
      rw [fe_s] at h
      cases he : fe g a k with
      | inl z => rw [he] at h; exact hs k z (by omega) (hJ k (by omega) z he) h
      | inr r => rw [he] at h; exact h
  exact this n (Nat.le_refl n) (hf (hJ n (Nat.le_refl n)))
theorem lupB {α : Type} (g : Nat → α → α ⊕ α) (a : α) (P : Nat → α → Prop) (R : α → Prop) (I : Nat → α → Prop) (n : Nat) (hI : I 0 a ∧ ∀ j s z, j < n → I j s → g j s = Sum.inl z → I (j + 1) z) (hs : ∀ j s, j < n → I j s → (sk (P (j + 1)) R (g j s)) → P j s) (hn : ∀ s, I n s → R s → P n s) (hf : R (brk (fe g a n))) : P 0 a := by
  have hJ : ∀ k, k ≤ n → ∀ z, fe g a k = Sum.inl z → I k z := by
    intro k
    induction k with
    | zero => intro _ z h; cases h; exact hI.1
    | succ k ih =>
      intro hk z h
      rw [fe_s] at h
      cases he : fe g a k with
      | inl y => rw [he] at h; exact hI.2 k y z (by omega) (ih (by omega) y he) h
      | inr r => rw [he] at h; cases h
  have : ∀ k, k ≤ n → (sk (P k) R (fe g a k)) → P 0 a := by
    intro k
    induction k with
    | zero => intro _ h; exact h
    | succ k ih =>
      intro hk h
      refine ih (by omega) ?_
      rw [fe_s] at h
      cases he : fe g a k with
      | inl z => rw [he] at h; exact hs k z (by omega) (hJ k (by omega) z he) h
      | inr r => rw [he] at h; exact h
  refine this n (Nat.le_refl n) ?_
  cases he : fe g a n with
  | inl z => rw [he] at hf; exact hn z (hJ n (Nat.le_refl n) z he) hf
  | inr r => rw [he] at hf; exact hf
theorem w32_up {a : Int} {j : Nat} (h : 0 ≤ a) (h2 : a + j < 1000000) : w32 (a + ((j : Nat) : Int) + 1) = a + ((j + 1 : Nat) : Int) := by
  rw [w32_i (by omega) (by omega)]; omega
theorem w32_dn {a : Int} {j : Nat} (h : a < 1000000) (h2 : -1000000 < a - j) : w32 (a - ((j : Nat) : Int) + (-1)) = a - ((j + 1 : Nat) : Int) := by
  rw [w32_i (by omega) (by omega)]; omega
theorem brk_fr {g : Nat → mG → mG ⊕ mG} {a : mG} {n k : Nat} (h1 : ∀ j s z, g j s = Sum.inl z → z k = s k) (h2 : ∀ j s z, g j s = Sum.inr z → z k = s k) : (brk (fe g a n)) k = a k := by
  have : ∀ n, (∀ z, fe g a n = Sum.inl z → z k = a k) ∧ (∀ z, fe g a n = Sum.inr z → z k = a k) := by
    intro n
    induction n with
    | zero => exact ⟨fun z h => by cases h; rfl, fun z h => by cases h⟩
    | succ n ih =>
      rw [fe_s]
      cases he : fe g a n with
      | inl s => exact ⟨fun z h => by rw [h1 n s z h]; exact ih.1 s he, fun z h => by rw [h2 n s z h]; exact ih.1 s he⟩
      | inr r => exact ⟨fun z h => by (cases h), fun z h => by cases h; exact ih.2 r he⟩
  cases he : fe g a n with
  | inl s => exact (this n).1 s he
  | inr r => exact (this n).2 r he
theorem brk_fr2 {g : Nat → (Int × mG) → (Int × mG) ⊕ (Int × mG)} {a : (Int × mG)} {n k : Nat} (h1 : ∀ j s z, g j s = Sum.inl z → z.2 k = s.2 k) (h2 : ∀ j s z, g j s = Sum.inr z → z.2 k = s.2 k) : (brk (fe g a n)).2 k = a.2 k := by
  have : ∀ n, (∀ z, fe g a n = Sum.inl z → z.2 k = a.2 k) ∧ (∀ z, fe g a n = Sum.inr z → z.2 k = a.2 k) := by
    intro n
    induction n with
    | zero => exact ⟨fun z h => by cases h; rfl, fun z h => by cases h⟩
    | succ n ih =>
      rw [fe_s]
      cases he : fe g a n with
      | inl s => exact ⟨fun z h => by rw [h1 n s z h]; exact ih.1 s he, fun z h => by rw [h2 n s z h]; exact ih.1 s he⟩
      | inr r => exact ⟨fun z h => by (cases h), fun z h => by cases h; exact ih.2 r he⟩
  cases he : fe g a n with
  | inl s => exact (this n).1 s he
  | inr r => exact (this n).2 r he
theorem fin_fr {g : Nat → mG → mG ⊕ (Int × mG)} {a : mG} {n k : Nat} {K : mG → Int × mG} (h1 : ∀ j s z, g j s = Sum.inl z → z k = s k) (h2 : ∀ j s (z : Int × mG), g j s = Sum.inr z → z.2 k = s k) (hK : ∀ s, (K s).2 k = s k) : (fnl (fe g a n) K).2 k = a k := by
  have : ∀ n, (∀ z, fe g a n = Sum.inl z → z k = a k) ∧ (∀ z : Int × mG, fe g a n = Sum.inr z → z.2 k = a k) := by
    intro n
    induction n with
    | zero => exact ⟨fun z h => by cases h; rfl, fun z h => by cases h⟩
    | succ n ih =>
      rw [fe_s]
      cases he : fe g a n with
      | inl s => exact ⟨fun z h => by rw [h1 n s z h]; exact ih.1 s he, fun z h => by rw [h2 n s z h]; exact ih.1 s he⟩
      | inr r => exact ⟨fun z h => by (cases h), fun z h => by cases h; exact ih.2 r he⟩
  cases he : fe g a n with
  | inl s => show (K s).2 k = a k; rw [hK]; exact (this n).1 s he
  | inr r => exact (this n).2 r he
theorem fd_frp {g : Nat → mG → mG} {a : mG} {n k i : Nat} (h : ∀ j s, g j s k i = s k i) : fd g a n k i = a k i := by
  induction n with
  | zero => rfl
  | succ n ih => rw [fd_s, h, ih]
theorem fd_frp2 {g : Nat → Int × mG → Int × mG} {a : Int × mG} {n k i : Nat} (h : ∀ j s, (g j s).2 k i = s.2 k i) : (fd g a n).2 k i = a.2 k i := by
  induction n with
  | zero => rfl
  | succ n ih => rw [fd_s, h, ih]
theorem brk_frp {g : Nat → mG → mG ⊕ mG} {a : mG} {n k i : Nat} (h1 : ∀ j s z, g j s = Sum.inl z → z k i = s k i) (h2 : ∀ j s z, g j s = Sum.inr z → z k i = s k i) : (brk (fe g a n)) k i = a k i := by
  have : ∀ n, (∀ z, fe g a n = Sum.inl z → z k i = a k i) ∧ (∀ z, fe g a n = Sum.inr z → z k i = a k i) := by
    intro n
    induction n with
    | zero => exact ⟨fun z h => by cases h; rfl, fun z h => by cases h⟩
    | succ n ih =>
      rw [fe_s]
      cases he : fe g a n with
      | inl s => exact ⟨fun z h => by rw [h1 n s z h]; exact ih.1 s he, fun z h => by rw [h2 n s z h]; exact ih.1 s he⟩
      | inr r => exact ⟨fun z h => by (cases h), fun z h => by cases h; exact ih.2 r he⟩
  cases he : fe g a n with
  | inl s => exact (this n).1 s he
  | inr r => exact (this n).2 r he
theorem brk_frp2 {g : Nat → (Int × mG) → (Int × mG) ⊕ (Int × mG)} {a : (Int × mG)} {n k i : Nat} (h1 : ∀ j s z, g j s = Sum.inl z → z.2 k i = s.2 k i) (h2 : ∀ j s z, g j s = Sum.inr z → z.2 k i = s.2 k i) : (brk (fe g a n)).2 k i = a.2 k i := by
  have : ∀ n, (∀ z, fe g a n = Sum.inl z → z.2 k i = a.2 k i) ∧ (∀ z, fe g a n = Sum.inr z → z.2 k i = a.2 k i) := by
    intro n
    induction n with
    | zero => exact ⟨fun z h => by cases h; rfl, fun z h => by cases h⟩
    | succ n ih =>
      rw [fe_s]
      cases he : fe g a n with
      | inl s => exact ⟨fun z h => by rw [h1 n s z h]; exact ih.1 s he, fun z h => by rw [h2 n s z h]; exact ih.1 s he⟩
      | inr r => exact ⟨fun z h => by (cases h), fun z h => by cases h; exact ih.2 r he⟩
  cases he : fe g a n with
  | inl s => exact (this n).1 s he
  | inr r => exact (this n).2 r he
theorem frp_X9_clear_13 {G : mG} {i : Nat} (hj : ∀ a ∈ ([1] : List Nat), i ≠ a) : (e_X9_clear G) 13 i = G 13 i := gs_at_ne (hj 1 (by simp))
theorem frp_X10_rewind_20 {G : mG} {i : Nat} (hj : ∀ a ∈ ([1] : List Nat), i ≠ a) : (e_X10_rewind G) 20 i = G 20 i := gs_at_ne (hj 1 (by simp))
theorem frp_X7_blame_15 {G : mG} {x y : Int} {i : Nat} (hj : ∀ a ∈ ([10, 11] : List Nat), i ≠ a) : (e_X7_blame G x y) 15 i = G 15 i := by
  unfold e_X7_blame
  repeat' split
  all_goals first | (simp only [gs_at_ne (hj 10 (by simp)), gs_at_ne (hj 11 (by simp))]; done) | rfl
theorem frp_X7_hold_15 {G : mG} {x : Int} {i : Nat} (hj : ∀ a ∈ ([5] : List Nat), i ≠ a) : (e_X7_hold G x) 15 i = G 15 i := by
  unfold e_X7_hold
  repeat' split
  all_goals first | (simp only [gs_at_ne (hj 5 (by simp)), gs_ne (show (15 : Nat) ≠ 19 by decide)]; done) | rfl
theorem frp_X2_learn_26 {G : mG} {x y : Int} {i : Nat} (hj : ∀ a ∈ ([2] : List Nat), i ≠ a) : (e_X2_learn G x y) 26 i = G 26 i := by
  unfold e_X2_learn
  repeat' split
  all_goals first | (simp only [gs_at_ne (hj 2 (by simp)), gs_ne (show (26 : Nat) ≠ 27 by decide)]; done) | rfl
theorem frp_X9_drop_13 {G : mG} {n : Int} {i : Nat} (hj : ∀ a ∈ ([1] : List Nat), i ≠ a) : (r_X9_drop G n).2 13 i = G 13 i := by
  unfold r_X9_drop
  repeat' split
  all_goals first | (simp only [gs_at_ne (hj 1 (by simp))]; done) | rfl
theorem frp_X0_add_1 {G : mG} {dd q a m bs : Int} {i : Nat} (hj : ∀ a ∈ ([6] : List Nat), i ≠ a) : (r_X0_add G dd q a m bs).2 1 i = G 1 i := by
  unfold r_X0_add
  repeat' split
  all_goals first | (simp (disch := decide) only [gs_at_ne (hj 6 (by simp)), gs_ne]; done) | rfl
theorem frp_X3_add_8 {G : mG} {x b f y : Int} {i : Nat} (hj : ∀ a ∈ ([4] : List Nat), i ≠ a) : (r_X3_add G x b f y).2 8 i = G 8 i := by
  unfold r_X3_add
  repeat' split
  all_goals first | (simp (disch := decide) only [gs_at_ne (hj 4 (by simp)), gs_ne]; done) | rfl
theorem ite_f {p : Prop} [Decidable p] {a b : mG} {k : Nat} {x : Nat → Int} (h1 : a k = x) (h2 : b k = x) : (if p then a else b) k = x := by
  by_cases h : p
  · rw [if_pos h]; exact h1
  · rw [if_neg h]; exact h2
theorem ite_f2 {p : Prop} [Decidable p] {a b : Int × mG} {k : Nat} {x : Nat → Int} (h1 : a.2 k = x) (h2 : b.2 k = x) : (if p then a else b).2 k = x := by
  by_cases h : p
  · rw [if_pos h]; exact h1
  · rw [if_neg h]; exact h2
theorem ite_p {p : Prop} [Decidable p] {a b : mG} {k i : Nat} {x : Int} (h1 : a k i = x) (h2 : b k i = x) : (if p then a else b) k i = x := by
  by_cases h : p
  · rw [if_pos h]; exact h1
  · rw [if_neg h]; exact h2
theorem ite_p2 {p : Prop} [Decidable p] {a b : Int × mG} {k i : Nat} {x : Int} (h1 : a.2 k i = x) (h2 : b.2 k i = x) : (if p then a else b).2 k i = x := by
  by_cases h : p
  · rw [if_pos h]; exact h1
  · rw [if_neg h]; exact h2
theorem ite_s {p : Prop} [Decidable p] {α : Type} {a b r : α} {P : Prop} (h1 : a = r → P) (h2 : b = r → P) : (if p then a else b) = r → P := by
  by_cases h : p
  · rw [if_pos h]; exact h1
  · rw [if_neg h]; exact h2
