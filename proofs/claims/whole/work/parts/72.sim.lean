/-! ===== a turn of the class, whatever comes; the reference's frame; blames ===== -/
/-- the class before turn t in state X, the reference before token t, no fault yet -/
def SM (c : Nat) (L : Int) (r : Nat → Int) (F : mG) (K t : Nat) (X : Int) (s H : mG) : Prop :=
  cs c L r t s ∧ pfin c (601 - t) t s = F ∧ s 15 8 = X ∧ rT (tb L r) K t H ∧ H 64 13 = 0
/-- the class stopped with fault e at token t -/
def Sto (b : Nat → Int) (F : mG) (t : Nat) (e : Int) : Prop := F 15 8 = -1 ∧ F 15 10 = e ∧ F 15 11 = ((tkQ b t : Nat) : Int)
section SIM
variable {c : Nat} {L : Int} {r : Nat → Int} {s F H H' : mG} {K t S : Nat} {X : Int} {b : Nat → Int}
theorem turn (hc : c = 40 ∨ c = 52) (h : SM c L r F K t X s H) (h0 : 0 < X) {kd fo : Int} (hk : tkK (tb L r) (tkQ (tb L r) t) = kd) (hfo : ∀ A : mG, (∀ k, k ≠ 20 → A k = s k) → f_X7_follow A (km kd) = fo) :
    (fo = -1 → Sto (tb L r) F t 1) ∧ (¬ fo = -1 → ¬ fo = 0 → t = 600 → Sto (tb L r) F t 2) ∧ (¬ fo = -1 → ¬ fo = 0 → (∀ A : mG, (∀ k, k ≠ 20 → A k = s k) → ¬ f_X7_lacksRoomFor c A (km kd) = 0) → Sto (tb L r) F t 2) ∧
    (0 < fo → ¬ kd = 3 → t < 600 → (∀ A : mG, (∀ k, k ≠ 20 → A k = s k) → f_X7_lacksRoomFor c A (km kd) = 0) → ∃ A : mG, (∀ k, k ≠ 20 → A k = s k) ∧ A 20 3 = ((tkQ (tb L r) t : Nat) : Int) ∧ (kd = 2 → A 20 4 = tkV (tb L r) (tkQ (tb L r) t)) ∧ (kd = 1 → A 20 5 = tkN (tb L r) (tkQ (tb L r) t)) ∧ cs c L r (t + 1) (gs (e_X7_note c A (km kd)) 15 8 fo) ∧ pfin c (601 - (t + 1)) (t + 1) (gs (e_X7_note c A (km kd)) 15 8 fo) = F) ∧
    (fo = 0 → ∃ A : mG, (∀ k, k ≠ 20 → A k = s k) ∧ gs (e_X7_note c A (km kd)) 15 8 0 = F) := by
  obtain ⟨hcs, hF, hX, hT, h13⟩ := h
  obtain ⟨a1, a2, a3, a4, a5, a6⟩ := cs_adv hcs
  have ht : t ≤ 600 := hT.2.2.2.1
  have hfo1 := hfo _ a1
  rw [show 601 - t = (600 - t) + 1 from by omega, pfin_s (by omega)] at hF
  unfold pst at hF
  rw [hk] at a3 a4 a5 a6
  unfold f_X10_start at a2
  unfold f_X10_number at a4
  unfold f_X10_name at a5
  generalize e_X10_advance s = A at *
  rw [a3, hfo1] at hF
  have st : ∀ v : Int, pfin c (600 - t) (t + 1) (e_X7_stop A v) = F → Sto (tb L r) F t v := by
    intro v hv
    obtain ⟨s1, s2, s3⟩ := stop_at (A := A) (v := v)
    rw [pfin_e (by rw [s1]; decide)] at hv
    rw [← hv]
    refine ⟨s1, s2, ?_⟩
    rw [s3]
    exact a2
  refine ⟨fun e => ?_, fun e1 e2 e3 => ?_, fun e1 e2 e3 => ?_, fun e1 e2 e3 e4 => ?_, fun e => ?_⟩
  · rw [if_pos e] at hF; exact st 1 hF
  · rw [if_neg e1, if_neg e2, if_pos e3] at hF; exact st 2 hF
  · rw [if_neg e1, if_neg e2] at hF
    by_cases z : t = 600
    · rw [if_pos z] at hF; exact st 2 hF
    · rw [if_neg z, if_neg (e3 A a1)] at hF; exact st 2 hF
  · rw [if_neg (by omega), if_neg (by omega), if_neg (by omega), if_pos (e4 A a1)] at hF
    refine ⟨A, a1, a2, a4, a5, ?_, ?_⟩
    · refine a6 e2 _ ?_ ?_ ?_
      · rw [gs_ne (by decide), fr_X7_note (fun a ha => by simp only [List.mem_cons, List.not_mem_nil, or_false] at ha; omega), a1 13 (by decide)]
      · rw [gs_ne (by decide), fr_X7_note (fun a ha => by simp only [List.mem_cons, List.not_mem_nil, or_false] at ha; omega), a1 14 (by decide)]
      · rw [gs_ne (by decide), fr_X7_note (fun a ha => by simp only [List.mem_cons, List.not_mem_nil, or_false] at ha; omega)]
    · rw [show 601 - (t + 1) = 600 - t from by omega]; exact hF
  · rw [if_neg (by omega), if_pos e, pfin_e (by rw [gs_at]; decide)] at hF
    exact ⟨A, a1, hF⟩
theorem SM_mk (h1 : cs c L r t s) (h2 : pfin c (601 - t) t s = F) (h3 : s 15 8 = X) (h4 : rT (tb L r) K t H) (h5 : H 64 13 = 0) : SM c L r F K t X s H := ⟨h1, h2, h3, h4, h5⟩
theorem rT_to (h : rT b K t H) (hr : ∀ k, 67 ≤ k → k ≤ 70 → H' k = H k) (h11 : H' 64 11 = H 64 11) : rT b K t H' := by
  obtain ⟨r1, r2, r3, r4, r5⟩ := h
  refine ⟨fun i hi => ?_, by rw [h11]; exact r2, r3, r4, r5⟩
  rw [hr 67 (by decide) (by decide), hr 68 (by decide) (by decide), hr 69 (by decide) (by decide), hr 70 (by decide) (by decide)]
  exact r1 i hi
theorem SM_to (h : SM c L r F K t X s H) (hr : ∀ k, 67 ≤ k → k ≤ 70 → H' k = H k) (h11 : H' 64 11 = H 64 11) (h13 : H' 64 13 = H 64 13) : SM c L r F K t X s H' :=
  ⟨h.1, h.2.1, h.2.2.1, rT_to h.2.2.2.1 hr h11, by rw [h13]; exact h.2.2.2.2⟩
theorem rT_nx (h : rT b K t H) (hk : ¬ tkK b (tkQ b t) = 0) (ht : t < 600) (hr : ∀ k, 67 ≤ k → k ≤ 70 → H' k = H k) (h11 : H' 64 11 = ((t + 1 : Nat) : Int)) : rT b K (t + 1) H' := by
  obtain ⟨r1, r2, r3, r4, r5⟩ := h
  refine ⟨fun i hi => ?_, h11, ?_, by omega, r5⟩
  · rw [hr 67 (by decide) (by decide), hr 68 (by decide) (by decide), hr 69 (by decide) (by decide), hr 70 (by decide) (by decide)]
    exact r1 i hi
  · rcases r5 with e | e
    · omega
    · by_cases y : t = K - 1
      · rw [← y] at e; exact absurd e hk
      · omega
theorem nx_go (h : H 64 11 = (t : Int)) (ht : t < 600) : e_X12_next H = gs H 64 11 ((t + 1 : Nat) : Int) := by
  unfold e_X12_next
  rw [if_pos (by omega), h, w32_nat (by omega)]
theorem nx_end (h : H 64 11 = (t : Int)) (ht : t = 600) : e_X12_next H = e_X12_fail H 2 := by
  unfold e_X12_next
  rw [if_neg (fun y => y (by omega))]
theorem rT_k (h : rT b K t H) : H 67 (Int.toNat (H 64 11)) = tkK b (tkQ b t) ∧ H 68 (Int.toNat (H 64 11)) = ((tkQ b t : Nat) : Int) ∧ (tkK b (tkQ b t) = 2 → H 69 (Int.toNat (H 64 11)) = tkV b (tkQ b t)) ∧ (tkK b (tkQ b t) = 1 → H 70 (Int.toNat (H 64 11)) = tkN b (tkQ b t)) := by
  obtain ⟨r1, r2, r3, _, _⟩ := h
  rw [r2, st_nat]
  exact r1 t r3
theorem bad_fail {e : Int} (he : 0 < e) (h1 : Sto b F t e) (h2 : rT b K t H) (h3 : H 64 13 = 0) : Bad F (e_X12_fail H e) := by
  unfold e_X12_fail
  rw [if_pos (by omega), (rT_k h2).2.1]
  refine ⟨?_, h1.1, ?_, ?_⟩
  · rw [gs_at_ne (by decide), gs_at]; exact he
  · rw [gs_at_ne (by decide), gs_at]; exact h1.2.1
  · rw [gs_at]; exact h1.2.2
theorem Bad_to (h : Bad F H) (h13 : H' 64 13 = H 64 13) (h14 : H' 64 14 = H 64 14) : Bad F H' := by
  unfold Bad
  rw [h13, h14]
  exact h
/-- where the reference writes when it tells a text into side S -/
def ins (S k i : Nat) : Prop := (k = 64 ∧ (i = 11 ∨ i = 12 ∨ i = 13 ∨ i = 14 ∨ i = 15 ∨ i = 16 ∨ i = 39 ∨ i = 43)) ∨ ((k = 72 ∨ k = 76 ∨ k = 85) ∧ i = S) ∨ (73 ≤ k ∧ k ≤ 75 ∧ 8 * S ≤ i ∧ i < 8 * S + 8) ∨ (77 ≤ k ∧ k ≤ 84 ∧ 40 * S ≤ i ∧ i < 40 * S + 40) ∨ (86 ≤ k ∧ k ≤ 90 ∧ 600 * S ≤ i ∧ i < 600 * S + 600) ∨ (91 ≤ k ∧ k ≤ 92 ∧ 700 * S ≤ i ∧ i < 700 * S + 700) ∨ k = 93
def Fr (S : Nat) (G H : mG) : Prop := ∀ k i, ¬ ins S k i → H k i = G k i
section FR
variable {G : mG}
theorem Fr_rf : Fr S G G := fun _ _ _ => rfl
theorem Fr_gs (h : Fr S G H) {k i : Nat} {v : Int} (hi : ins S k i) : Fr S G (gs H k i v) := by
  intro a j hj
  by_cases y : a = k
  · subst y
    by_cases z : j = i
    · subst z; exact absurd hi hj
    · rw [gs_at_ne z]; exact h a j hj
  · rw [gs_ne y]; exact h a j hj
theorem ins_64 {i : Nat} (h : i = 11 ∨ i = 12 ∨ i = 13 ∨ i = 14 ∨ i = 15 ∨ i = 16 ∨ i = 39 ∨ i = 43) : ins S 64 i := Or.inl ⟨rfl, h⟩
theorem Fr_row (h : Fr S G H) {k : Nat} (hk : k < 64 ∨ (64 < k ∧ k < 72) ∨ 93 < k) : H k = G k := by
  funext i
  refine h k i ?_
  unfold ins
  omega
theorem Fr_64 (h : Fr S G H) {i : Nat} (hi : ¬ (i = 11 ∨ i = 12 ∨ i = 13 ∨ i = 14 ∨ i = 15 ∨ i = 16 ∨ i = 39 ∨ i = 43)) : H 64 i = G 64 i := by
  refine h 64 i ?_
  unfold ins
  omega
theorem Fr_fail {e : Int} (h : Fr S G H) : Fr S G (e_X12_fail H e) := by
  unfold e_X12_fail
  exact ite_P (P := fun x : mG => Fr S G x) (Fr_gs (Fr_gs h (ins_64 (by decide))) (ins_64 (by decide))) h
theorem Fr_next (h : Fr S G H) : Fr S G (e_X12_next H) := by
  unfold e_X12_next
  exact ite_P (P := fun x : mG => Fr S G x) (Fr_gs h (ins_64 (by decide))) (Fr_fail h)
theorem Fr_must {k : Int} (h : Fr S G H) : Fr S G (e_X12_must H k) := by
  unfold e_X12_must
  exact ite_P (P := fun x : mG => Fr S G x) (Fr_fail h) (Fr_next h)
theorem Fr_wrong {x y : Int} (h : Fr S G H) : Fr S G (e_X12_wrong H x y) := by
  have key : ∀ v w : Int, Fr S G (gs (gs H 64 15 v) 64 16 w) := fun v w => Fr_gs (Fr_gs h (ins_64 (by decide))) (ins_64 (by decide))
  unfold e_X12_wrong
  exact ite_P (P := fun x : mG => Fr S G x) h (ite_P (P := fun x : mG => Fr S G x) (key _ _) (ite_P (P := fun x : mG => Fr S G x) h (ite_P (P := fun x : mG => Fr S G x) (key _ _) (ite_P (P := fun x : mG => Fr S G x) (key _ _) h))))
end FR
/-- both stopped, the reference wrote where it may -/
def BadF (F : mG) (S : Nat) (G H : mG) : Prop := Bad F H ∧ Fr S G H ∧ 0 ≤ H 64 11 ∧ H 64 11 ≤ 600
theorem BadF_fail {G : mG} {e : Int} (he : 0 < e) (h1 : Sto b F t e) (h2 : rT b K t H) (h3 : H 64 13 = 0) (h4 : Fr S G H) : BadF F S G (e_X12_fail H e) := by
  refine ⟨bad_fail he h1 h2 h3, Fr_fail h4, ?_⟩
  have e1 := h2.2.1
  have e2 := h2.2.2.2.1
  unfold e_X12_fail
  rw [if_pos (by omega), gs_at_ne (by decide), gs_at_ne (by decide)]
  omega
theorem fail_bad {e : Int} (h : 0 < H 64 13) : e_X12_fail H e = H := by
  unfold e_X12_fail
  rw [if_neg (by omega)]
theorem BadF_next {G : mG} (h : BadF F S G H) : BadF F S G (e_X12_next H) := by
  obtain ⟨h1, h2, h3, h4⟩ := h
  have hp := h1.1
  unfold e_X12_next
  by_cases z : H 64 11 = 600
  · rw [if_neg (fun y => y z), fail_bad hp]; exact ⟨h1, h2, h3, h4⟩
  · rw [if_pos z]
    refine ⟨Bad_to h1 (gs_at_ne (by decide)) (gs_at_ne (by decide)), Fr_gs h2 (ins_64 (by decide)), ?_⟩
    rw [gs_at, w32_i (by omega) (by omega)]
    omega
theorem BadF_must {G : mG} {k : Int} (h : BadF F S G H) : BadF F S G (e_X12_must H k) := by
  rw [must_bad h.1]
  exact h
/-- a step to one kind -/
theorem turn_must (hc : c = 40 ∨ c = 52) {G : mG} {k X' : Int} (h : SM c L r F K t X s H) (hf : Fr S G H) (h0 : 0 < X) (h1 : 0 < X') (hfo : ∀ (A : mG) (kd : Int), A 15 8 = X → f_X7_follow A kd = if kd = km k then X' else -1) (hro : ∀ A : mG, A 15 8 = X → f_X7_lacksRoomFor c A (km k) = 0) (hkr : (1 ≤ k ∧ k ≤ 2) ∨ k = 4 ∨ (6 ≤ k ∧ k ≤ 14) ∨ (20 ≤ k ∧ k ≤ 39)) :
    BadF F S G (e_X12_must H k) ∨ (tkK (tb L r) (tkQ (tb L r) t) = k ∧ e_X12_must H k = gs H 64 11 ((t + 1 : Nat) : Int) ∧ rT (tb L r) K (t + 1) (gs H 64 11 ((t + 1 : Nat) : Int)) ∧ Fr S G (gs H 64 11 ((t + 1 : Nat) : Int)) ∧ t < 600 ∧ ∃ A : mG, (∀ k, k ≠ 20 → A k = s k) ∧ A 20 3 = ((tkQ (tb L r) t : Nat) : Int) ∧ (k = 2 → A 20 4 = tkV (tb L r) (tkQ (tb L r) t)) ∧ (k = 1 → A 20 5 = tkN (tb L r) (tkQ (tb L r) t)) ∧ SM c L r F K (t + 1) X' (gs (e_X7_note c A (km k)) 15 8 X') (gs H 64 11 ((t + 1 : Nat) : Int))) := by
  obtain ⟨hcs, hF, hX, hT, h13⟩ := h
  obtain ⟨r1, r2, r3, r4, r5⟩ := id hT
  have hkk := tkK_r (tb L r) (tkQ (tb L r) t)
  have fis := fa_X12_is H k
  rw [(rT_k hT).1] at fis
  have hX2 : ∀ A : mG, (∀ k, k ≠ 20 → A k = s k) → A 15 8 = X := fun A hA => by rw [hA 15 (by decide)]; exact hX
  unfold e_X12_must
  by_cases z : tkK (tb L r) (tkQ (tb L r) t) = k
  · obtain ⟨t1, t2, t3, t4, t5⟩ := turn (fo := X') hc ⟨hcs, hF, hX, hT, h13⟩ h0 z (fun A hA => by rw [hfo A _ (hX2 A hA), if_pos rfl])
    rw [if_neg (by omega)]
    by_cases z6 : t = 600
    · rw [nx_end r2 z6]
      exact Or.inl (BadF_fail (by decide) (t2 (by omega) (by omega) z6) hT h13 hf)
    · rw [nx_go r2 (by omega)]
      obtain ⟨A, b1, b2, b3, b4, b5, b6⟩ := t4 h1 (by omega) (by omega) (fun A hA => hro A (hX2 A hA))
      have hT2 : rT (tb L r) K (t + 1) (gs H 64 11 ((t + 1 : Nat) : Int)) := rT_nx hT (by omega) (by omega) (fun k _ _ => gs_ne (by omega)) (gs_at _ _ _ _)
      exact Or.inr ⟨z, rfl, hT2, Fr_gs hf (ins_64 (by decide)), by omega, A, b1, b2, b3, b4, b5, b6, gs_at _ _ _ _, hT2, by rw [gs_at_ne (by decide)]; exact h13⟩
  · have hne : ¬ km (tkK (tb L r) (tkQ (tb L r) t)) = km k := fun y => z (km_inj hkk (by omega) y)
    obtain ⟨t1, _⟩ := turn (fo := -1) hc ⟨hcs, hF, hX, hT, h13⟩ h0 rfl (fun A hA => by rw [hfo A _ (hX2 A hA), if_neg hne])
    rw [if_pos (by omega)]
    exact Or.inl (BadF_fail (by decide) (t1 rfl) hT h13 hf)
end SIM
/-- the lesser of two faults -/
def bl (f p x y : Int) : Int × Int := if f = 0 ∨ y < p ∨ (y = p ∧ x < f) then (x, y) else (f, p)
section BL
variable {G : mG} {f p x y u v f' p' : Int}
theorem blame_bl : (e_X7_blame G x y) 15 10 = (bl (G 15 10) (G 15 11) x y).1 ∧ (e_X7_blame G x y) 15 11 = (bl (G 15 10) (G 15 11) x y).2 ∧ (∀ k, k ≠ 15 → (e_X7_blame G x y) k = G k) ∧ (∀ j, j ≠ 10 → j ≠ 11 → (e_X7_blame G x y) 15 j = G 15 j) := by
  have e : e_X7_blame G x y = if G 15 10 = 0 ∨ y < G 15 11 ∨ (y = G 15 11 ∧ x < G 15 10) then gs (gs G 15 10 x) 15 11 y else G := by
    unfold e_X7_blame
    by_cases a : G 15 10 = 0 ∨ y < G 15 11 ∨ (y = G 15 11 ∧ x < G 15 10)
    · rw [if_pos a]
      by_cases a1 : G 15 10 = 0
      · rw [if_pos a1]
      · rw [if_neg a1]
        by_cases a2 : y < G 15 11
        · rw [if_pos a2]
        · rw [if_neg a2, if_neg (fun z => z (by omega)), if_neg (by omega)]
    · rw [if_neg a, if_neg (by omega), if_neg (by omega)]
      by_cases a3 : y = G 15 11
      · rw [if_neg (fun z => z a3), if_pos (by omega)]
      · rw [if_pos a3]
  rw [e]
  unfold bl
  by_cases a : G 15 10 = 0 ∨ y < G 15 11 ∨ (y = G 15 11 ∧ x < G 15 10)
  · rw [if_pos a, if_pos a]
    exact ⟨by rw [gs_at_ne (by decide), gs_at], by rw [gs_at], fun k hk => by rw [gs_ne hk, gs_ne hk], fun j h1 h2 => by rw [gs_at_ne h2, gs_at_ne h1]⟩
  · rw [if_neg a, if_neg a]
    exact ⟨rfl, rfl, fun _ _ => rfl, fun _ _ _ => rfl⟩
theorem wrong_bl (h13 : G 64 13 = 0) : (e_X12_wrong G x y) 64 15 = (bl (G 64 15) (G 64 16) x (G 68 (Int.toNat y))).1 ∧ (e_X12_wrong G x y) 64 16 = (bl (G 64 15) (G 64 16) x (G 68 (Int.toNat y))).2 := by
  unfold e_X12_wrong bl
  generalize G 68 (Int.toNat y) = w
  rw [if_neg (show ¬ 0 < G 64 13 by omega)]
  by_cases a : G 64 15 = 0 ∨ w < G 64 16 ∨ (w = G 64 16 ∧ x < G 64 15)
  · rw [if_pos a]
    have e : (if G 64 15 = 0 then gs (gs G 64 15 x) 64 16 w else if G 64 16 < w then G else if ¬ w = G 64 16 then gs (gs G 64 15 x) 64 16 w else if x < G 64 15 then gs (gs G 64 15 x) 64 16 w else G) = gs (gs G 64 15 x) 64 16 w := by
      by_cases a1 : G 64 15 = 0
      · rw [if_pos a1]
      · rw [if_neg a1, if_neg (by omega)]
        by_cases a2 : w = G 64 16
        · rw [if_neg (fun z => z a2), if_pos (by omega)]
        · rw [if_pos a2]
    rw [e]
    exact ⟨by rw [gs_at_ne (by decide), gs_at], by rw [gs_at]⟩
  · rw [if_neg a, if_neg (by omega)]
    by_cases a1 : G 64 16 < w
    · rw [if_pos a1]; exact ⟨rfl, rfl⟩
    · rw [if_neg a1, if_neg (fun z => z (by omega)), if_neg (by omega)]; exact ⟨rfl, rfl⟩
/-- one blame on both sides -/
def bq (f p f' p' : Int) : Prop := f = f' ∧ (f = 0 ∨ p = p') ∧ 0 ≤ f
theorem bl_bq (h : bq f p f' p') (hx : 0 < x) : bq (bl f p x y).1 (bl f p x y).2 (bl f' p' x y).1 (bl f' p' x y).2 := by
  obtain ⟨h1, h2, h3⟩ := h
  subst h1
  have e : bl f p x y = bl f p' x y ∨ f = 0 := by
    rcases h2 with h | h
    · exact Or.inr h
    · exact Or.inl (by rw [h])
  unfold bq bl
  by_cases z : f = 0
  · rw [if_pos (Or.inl z), if_pos (Or.inl z)]
    exact ⟨rfl, Or.inr rfl, Int.le_of_lt hx⟩
  · have hp : p = p' := h2.resolve_left z
    subst hp
    by_cases a : f = 0 ∨ y < p ∨ (y = p ∧ x < f)
    · rw [if_pos a]; exact ⟨rfl, Or.inr rfl, Int.le_of_lt hx⟩
    · rw [if_neg a]; exact ⟨rfl, Or.inr rfl, h3⟩
theorem bl_i (hx : 0 < x) : bl (bl f p x y).1 (bl f p x y).2 x y = bl f p x y := by
  unfold bl
  by_cases a : f = 0 ∨ y < p ∨ (y = p ∧ x < f)
  · rw [if_pos a]
    show (if x = 0 ∨ y < y ∨ (y = y ∧ x < x) then (x, y) else (x, y)) = (x, y)
    rw [if_neg (by omega)]
  · rw [if_neg a]
    show (if f = 0 ∨ y < p ∨ (y = p ∧ x < f) then (x, y) else (f, p)) = (f, p)
    rw [if_neg a]
theorem bl_c (hx : 0 < x) (hu : 0 < u) : bl (bl f p x y).1 (bl f p x y).2 u v = bl (bl f p u v).1 (bl f p u v).2 x y := by
  unfold bl
  by_cases a : f = 0 ∨ y < p ∨ (y = p ∧ x < f)
  · rw [if_pos a]
    by_cases b : f = 0 ∨ v < p ∨ (v = p ∧ u < f)
    · rw [if_pos b]
      show (if x = 0 ∨ v < y ∨ (v = y ∧ u < x) then (u, v) else (x, y)) = (if u = 0 ∨ y < v ∨ (y = v ∧ x < u) then (x, y) else (u, v))
      by_cases d : v < y ∨ (v = y ∧ u < x)
      · rw [if_pos (Or.inr d), if_neg (by omega)]
      · rw [if_neg (by omega)]
        by_cases g : y < v ∨ (y = v ∧ x < u)
        · rw [if_pos (Or.inr g)]
        · rw [if_neg (by omega), show x = u from by omega, show y = v from by omega]
    · rw [if_neg b]
      show (if x = 0 ∨ v < y ∨ (v = y ∧ u < x) then (u, v) else (x, y)) = (if f = 0 ∨ y < p ∨ (y = p ∧ x < f) then (x, y) else (f, p))
      rw [if_pos a, if_neg (by omega)]
  · rw [if_neg a]
    show (if f = 0 ∨ v < p ∨ (v = p ∧ u < f) then (u, v) else (f, p)) = _
    by_cases b : f = 0 ∨ v < p ∨ (v = p ∧ u < f)
    · rw [if_pos b]
      show (u, v) = (if u = 0 ∨ y < v ∨ (y = v ∧ x < u) then (x, y) else (u, v))
      rw [if_neg (by omega)]
    · rw [if_neg b]
      show (f, p) = (if f = 0 ∨ y < p ∨ (y = p ∧ x < f) then (x, y) else (f, p))
      rw [if_neg a]
/-- a blame once there stays, and comes no later -/
theorem bl_le (hf : 0 ≤ f) (hx : 0 < x) : 0 < (bl f p x y).1 ∧ (bl f p x y).2 ≤ y ∧ (¬ f = 0 → (bl f p x y).2 ≤ p) := by
  unfold bl
  by_cases a : f = 0 ∨ y < p ∨ (y = p ∧ x < f)
  · rw [if_pos a]
    refine ⟨hx, Int.le_refl y, fun z => ?_⟩
    show y ≤ p
    omega
  · rw [if_neg a]
    refine ⟨?_, ?_, fun _ => Int.le_refl p⟩
    · show 0 < f
      omega
    · show p ≤ y
      omega
end BL
