/-! ===== a must of the reference against a turn of the class ===== -/
/-- the reference's tokens, its place among them -/
def rT (b : Nat → Int) (K t : Nat) (H : mG) : Prop := tkR b K H ∧ H 64 11 = (t : Int) ∧ t < K ∧ t ≤ 600 ∧ (K = 601 ∨ tkK b (tkQ b (K - 1)) = 0)
/-- both stopped, with one fault at one place -/
def Bad (F H : mG) : Prop := 0 < H 64 13 ∧ F 15 8 = -1 ∧ F 15 10 = H 64 13 ∧ F 15 11 = H 64 14
section MUST
variable {c : Nat} {L : Int} {r : Nat → Int} {s F H : mG} {K t : Nat} {k X X' : Int}
theorem sgK_r {x y : Int} : sgK x y = 3 ∨ sgK x y = 4 ∨ (6 ≤ sgK x y ∧ sgK x y ≤ 14) := by
  unfold sgK
  repeat' split
  all_goals omega
theorem tkK_r (b : Nat → Int) (q : Nat) : (0 ≤ tkK b q ∧ tkK b q ≤ 4) ∨ (6 ≤ tkK b q ∧ tkK b q ≤ 14) ∨ (20 ≤ tkK b q ∧ tkK b q ≤ 39) := by
  have h1 := sgK_r (x := b q) (y := b (q + 1))
  have h2 : wk (tkN b q) = 1 ∨ (20 ≤ wk (tkN b q) ∧ wk (tkN b q) ≤ 39) := by rcases wk_at (x := tkN b q) with ⟨e, _⟩ | ⟨i, _, _, e⟩ <;> omega
  unfold tkK
  repeat' split
  all_goals omega
theorem km_inj {a b : Int} (ha : (0 ≤ a ∧ a ≤ 4) ∨ (6 ≤ a ∧ a ≤ 14) ∨ (20 ≤ a ∧ a ≤ 39)) (hb : (0 ≤ b ∧ b ≤ 4) ∨ (6 ≤ b ∧ b ≤ 14) ∨ (20 ≤ b ∧ b ≤ 39)) (e : km a = km b) : a = b := by
  unfold km at e
  revert e
  repeat' split
  all_goals (intro e; omega)
theorem stop_at {A : mG} {v : Int} : (e_X7_stop A v) 15 8 = -1 ∧ (e_X7_stop A v) 15 10 = v ∧ (e_X7_stop A v) 15 11 = f_X10_start A := by
  unfold e_X7_stop f_X10_start
  refine ⟨gs_at _ _ _ _, ?_, ?_⟩
  · rw [gs_at_ne (by decide), gs_at_ne (by decide), gs_at]
  · rw [gs_at_ne (by decide), gs_at, gs_ne (by decide)]
/-- the turn in a state that wants one kind -/
theorem must_turn (hc : c = 40 ∨ c = 52) (hcs : cs c L r t s) (ht : t ≤ 600) (hF : pfin c (601 - t) t s = F) (hX : s 15 8 = X) (h0 : 0 < X) (h1 : 0 < X') (hfo : ∀ (A : mG) (kd : Int), A 15 8 = X → f_X7_follow A kd = if kd = km k then X' else -1) (hro : ∀ A : mG, A 15 8 = X → f_X7_lacksRoomFor c A (km k) = 0) (hkr : (0 ≤ k ∧ k ≤ 2) ∨ k = 4 ∨ (6 ≤ k ∧ k ≤ 14) ∨ (20 ≤ k ∧ k ≤ 39)) (hT : rT (tb L r) K t H) (h13 : H 64 13 = 0) (hk0 : ¬ k = 0) :
    (tkK (tb L r) (tkQ (tb L r) t) = k ∧ t < 600 ∧ t + 1 < K ∧ e_X12_must H k = gs H 64 11 ((t + 1 : Nat) : Int) ∧ cs c L r (t + 1) (gs (e_X7_note c (e_X10_advance s) (km k)) 15 8 X') ∧ pfin c (601 - (t + 1)) (t + 1) (gs (e_X7_note c (e_X10_advance s) (km k)) 15 8 X') = F) ∨ (Bad F (e_X12_must H k) ∧ ∃ v w, e_X12_must H k = gs (gs H 64 13 v) 64 14 w) := by
  obtain ⟨a1, a2, a3, a4, a5, a6⟩ := cs_adv hcs
  obtain ⟨r1, r2, r3, r4, r5⟩ := hT
  obtain ⟨w1, w2, _, _⟩ := r1 t r3
  have hkk := tkK_r (tb L r) (tkQ (tb L r) t)
  have e8 : (e_X10_advance s) 15 8 = X := by rw [a1 15 (by decide)]; exact hX
  have fis := fa_X12_is H k
  rw [r2, st_nat, w1] at fis
  rw [show 601 - t = (600 - t) + 1 from by omega, pfin_s (by omega)] at hF
  unfold pst at hF
  generalize e_X10_advance s = A at *
  rw [a3, hfo _ _ e8] at hF
  unfold e_X12_must
  by_cases z : tkK (tb L r) (tkQ (tb L r) t) = k
  · rw [z, if_pos rfl, if_neg (by omega), if_neg (by omega)] at hF
    rw [if_neg (by omega)]
    unfold e_X12_next
    by_cases z6 : t = 600
    · rw [if_pos z6] at hF
      obtain ⟨s1, s2, s3⟩ := stop_at (A := A) (v := 2)
      rw [pfin_e (by rw [s1]; decide)] at hF
      rw [if_neg (show ¬ ¬ H 64 11 = 600 from fun y => y (by omega))]
      unfold e_X12_fail
      rw [if_pos (by omega), r2, st_nat, w2]
      refine Or.inr ⟨⟨?_, ?_, ?_, ?_⟩, _, _, rfl⟩
      · rw [gs_at_ne (by decide), gs_at]; decide
      · rw [← hF]; exact s1
      · rw [← hF, s2, gs_at_ne (by decide), gs_at]
      · rw [← hF, s3, gs_at, a2]
    · rw [if_neg z6, hro _ e8, if_pos rfl] at hF
      rw [if_pos (show ¬ H 64 11 = 600 by omega), r2, w32_nat (by omega)]
      refine Or.inl ⟨z, by omega, ?_, rfl, ?_, ?_⟩
      · rcases r5 with e | e
        · omega
        · by_cases y : t = K - 1
          · rw [← y, z] at e; exact absurd e hk0
          · omega
      · refine a6 (by omega) _ ?_ ?_ ?_
        · rw [gs_ne (by decide), fr_X7_note (fun a ha => by simp only [List.mem_cons, List.not_mem_nil, or_false] at ha; omega), a1 13 (by decide)]
        · rw [gs_ne (by decide), fr_X7_note (fun a ha => by simp only [List.mem_cons, List.not_mem_nil, or_false] at ha; omega), a1 14 (by decide)]
        · rw [gs_ne (by decide), fr_X7_note (fun a ha => by simp only [List.mem_cons, List.not_mem_nil, or_false] at ha; omega)]
      · rw [show 601 - (t + 1) = 600 - t from by omega]; exact hF
  · have efo : (if km (tkK (tb L r) (tkQ (tb L r) t)) = km k then X' else -1) = -1 := if_neg (fun y => z (km_inj hkk (by omega) y))
    rw [efo, if_pos rfl] at hF
    obtain ⟨s1, s2, s3⟩ := stop_at (A := A) (v := 1)
    rw [pfin_e (by rw [s1]; decide)] at hF
    rw [if_pos (by omega)]
    unfold e_X12_fail
    rw [if_pos (by omega), r2, st_nat, w2]
    refine Or.inr ⟨⟨?_, ?_, ?_, ?_⟩, _, _, rfl⟩
    · rw [gs_at_ne (by decide), gs_at]; decide
    · rw [← hF]; exact s1
    · rw [← hF, s2, gs_at_ne (by decide), gs_at]
    · rw [← hF, s3, gs_at, a2]
theorem must_bad (h : Bad F H) : e_X12_must H k = H := by
  have h13 := h.1
  unfold e_X12_must f_X12_is e_X12_fail
  rw [if_pos (show ¬ H 64 13 = 0 by omega), if_pos rfl, if_neg (by omega)]
end MUST
