/-! ===== the class parses ===== -/
section PRS
variable {c : Nat} {G s : mG} {x : Int}
theorem pI_adv (hc : c = 40 ∨ c = 52) (h : pI c s) : pI c (e_X10_advance s) :=
  pI_fr h (fr_X10_advance (by decide)) (fr_X10_advance (fun a ha => by simp only [List.mem_cons, List.not_mem_nil, or_false] at ha; omega))
theorem pI_stop (hc : c = 40 ∨ c = 52) (h : pI c s) : pI c (e_X7_stop s x) := by
  unfold e_X7_stop
  exact pI_15 hc (pI_15 hc (pI_15 hc h (by decide) (by decide)) (by decide) (by decide)) (by decide) (by decide)
theorem pI_pst {j : Nat} (hc : c = 40 ∨ c = 52) (h : pI c s) : pI c (pst c j s) := by
  have ha := pI_adv hc h
  unfold pst
  generalize e_X10_advance s = A at *
  repeat' with_reducible apply ite_P
  all_goals first | exact pI_stop hc ha | exact pI_15 hc (pI_note hc ha) (by decide) (by decide)
theorem clear_c (hc : c = 40 ∨ c = 52) : (e_X1_clear c G) c 11 = 0 ∧ (e_X1_clear c G) c 12 = 0 ∧ (e_X1_clear c G) c 13 = 0 ∧ (e_X1_clear c G) 15 = G 15 := by
  have f : ∀ k, k ≠ c + 3 → (e_X1_clear c G) k = (gs (gs (gs G c 11 0) c 12 0) c 13 0) k := by
    intro k hk
    unfold e_X1_clear
    exact fd_fr (fun j s => by unfold g_X1_clear_17; exact gs_ne hk)
  rw [f c (by omega), f 15 (by omega)]
  refine ⟨?_, ?_, ?_, ?_⟩
  · rw [gs_at_ne (by decide), gs_at_ne (by decide), gs_at]
  · rw [gs_at_ne (by decide), gs_at]
  · rw [gs_at]
  · rw [gs_ne (by omega), gs_ne (by omega), gs_ne (by omega)]
theorem pI_begin (hc : c = 40 ∨ c = 52) : pI c (e_X7_begin c G) := by
  obtain ⟨a1, a2, a3, a4⟩ := clear_c (c := c) (G := gs G 15 9 (((c + 5) : Nat) : Int)) hc
  unfold e_X7_begin e_X10_rewind
  generalize e_X1_clear c (gs G 15 9 (((c + 5) : Nat) : Int)) = A at *
  have b9 : A 15 9 = ((c + 5 : Nat) : Int) := by rw [a4, gs_at]
  refine ⟨?_, ?_, ?_, ?_⟩
  · rw [gs_at_ne (by decide), gs_at_ne (by decide), gs_at_ne (by decide), gs_at_ne (by decide), gs_at_ne (by decide), gs_at_ne (by decide), gs_ne (by decide)]; exact b9
  · rw [gs_ne (by omega), gs_ne (by omega), gs_ne (by omega), gs_ne (by omega), gs_ne (by omega), gs_ne (by omega), gs_ne (by omega), a1]; omega
  · rw [gs_ne (by omega), gs_ne (by omega), gs_ne (by omega), gs_ne (by omega), gs_ne (by omega), gs_ne (by omega), gs_ne (by omega), a2]; omega
  · rw [gs_at_ne (by decide), gs_at_ne (by decide), gs_at_ne (by decide), gs_at_ne (by decide), gs_at]; omega
/-- parse with no more premises -/
theorem sp_parse {D : Nat → Bool} {d : Nat} {Q : Option mV → mG → Prop} (hc : c = 40 ∨ c = 52) (hD : ∀ k, D k = false → inN [15, 16, 17, 18, 19, 20, c, c + 1, c + 2, c + 3, c + 4, c + 5, c + 6, c + 7, c + 8, c + 9, c + 10, c + 11] k = false) (h : Q (some (mI (r_X7_parse c G).1)) (r_X7_parse c G).2) : P2 D (d + 9) M_X7_parse [mR 20, mR (c + 5)] G Q := by
  have hs : ∀ j s, j < 601 → pI c s → pI c (brk (g_X7_parse_7 c G j s)) := by
    intro j s hj hs
    have hp := pI_pst (j := j) hc hs
    rw [g_pst hj]
    generalize pst c j s = A at *
    by_cases z : s 15 8 ≤ 0
    · rw [if_pos z]; exact hs
    · rw [if_neg z]; exact hp
  refine sp_X7_parse hc ⟨pI_begin hc, fun j s z hj h1 h2 => ?_⟩ ?_ hD h
  · have := hs j s hj h1
    rw [h2] at this
    exact this
  · have key : ∀ n, n ≤ 601 → pI c (brk (fe (g_X7_parse_7 c G) (e_X7_begin c G) n)) := by
      intro n
      induction n with
      | zero => intro _; exact pI_begin hc
      | succ n ih =>
        intro hn
        have ih := ih (by omega)
        rw [fe_s]
        cases h : fe (g_X7_parse_7 c G) (e_X7_begin c G) n with
        | inl s => rw [h] at ih; exact hs n s (by omega) ih
        | inr s => rw [h] at ih; exact ih
    exact key 601 (Nat.le_refl _)
/-- what parse comes to, by turns -/
theorem parse_fin : r_X7_parse c G = (if ¬ (pfin c 601 0 (e_X7_begin c G)) 15 8 = 0 then ((pfin c 601 0 (e_X7_begin c G)) 15 10, pfin c 601 0 (e_X7_begin c G)) else ((e_X7_settleRivals c (pfin c 601 0 (e_X7_begin c G))) 15 10, e_X7_settleRivals c (pfin c 601 0 (e_X7_begin c G)))) := by
  have e := par_fin (c := c) (G := G) (a := e_X7_begin c G) 601 0 (by omega) (e_X7_begin c G) rfl
  unfold r_X7_parse
  rw [e]
end PRS
