/-! ===== what is left to show is enough, step by step ===== -/
theorem bif_and {b : Bool} {P : Prop} (h : bif b then P else False) : b = true ∧ P := by
  cases b with
  | false => exact h.elim
  | true => exact ⟨rfl, h⟩
theorem tg_ok {pc : Nat} {off : Int} (h : decide (0 ≤ (pc : Int) + off) = true) : (pc : Int) + off = ((tg pc off : Nat) : Int) := by
  have := of_decide_eq_true h
  unfold tg
  omega
theorem ble_lt {a b : Nat} (h : Nat.ble (a + 1) b = true) : a < b := Nat.le_of_ble_eq_true h
theorem take_eq {S : List mV} (na : Nat) : S = ((S.take na).reverse).reverse ++ S.drop na := by rw [List.reverse_reverse, List.take_append_drop]
theorem take_len {S : List mV} {na : Nat} (h : Nat.ble na S.length = true) : ((S.take na).reverse).length = na := by
  have := Nat.le_of_ble_eq_true h
  rw [List.length_reverse, List.length_take]
  omega
theorem nar_b {x : Int} (h : -128 ≤ x ∧ x < 128) : narrow .byte (.int (Int32.ofInt x)) = .int (Int32.ofInt x) := by
  rw [w8_nar]
  congr 1
  unfold w8
  rw [i32_back, ← i8_ofInt h.1 h.2]
  simp
theorem nar_c {x : Int} (h : 0 ≤ x ∧ x < 65536) : narrow .char (.int (Int32.ofInt x)) = .int (Int32.ofInt x) := by
  have e : Int32.ofInt x = nI x.toNat := by
    unfold nI
    rw [← Int32.ofInt_eq_ofNat, Int.toNat_of_nonneg h.1]
  rw [e]
  exact (pk_charN (by omega)).1
section SND2
variable {o : mO} {M : mM} {D : Nat → Bool} {d mc ms : Nat} {ph ini : Bool} {n' : Nat} {Q : Option mV → mG → Prop} {n ce sl pc : Nat} {L L' : List (Option mV)} {S S' : List mV} {G : mG} {len : Nat} {K : mKt}
theorem nxt_sound {ins : Instr} (hO : okO o) (hini : ini = true → M.1.name = "<init>") (hd : decode M.2.1 pc = .ok (ins, len)) (hi : okI M.2.2.1 ins len = true) (hj : jok pc ins = true) (hK : ∀ n ce sl pc L S G, K n ce sl pc L S G → WP o M D (d + 1) mc ms ph n' Q n ce sl pc L S G) (h : nxt o M D d mc ms ph ini n' Q n ce sl pc ins len L S G K) : WP o M D (d + 1) mc ms ph n' Q n ce sl pc L S G := by
  obtain ⟨hCls, hArr, hCa, hFl, hNw, hKo⟩ := hO
  unfold nxt at h
  split at h
  next q hq => exact wp_pln hKo hd hi hq (hK _ _ _ _ _ _ _ h)
  next hq =>
    split at h
    -- ifCond
    next c off =>
      split at h
      next x S => exact wp_if hd hi (tg_ok hj) (fun c => hK _ _ _ _ _ _ _ (h.1 c)) (fun c => hK _ _ _ _ _ _ _ (h.2 c))
      next => exact h.elim
    next c off =>
      split at h
      next y x S => exact wp_icmp hd hi (tg_ok hj) (fun c => hK _ _ _ _ _ _ _ (h.1 c)) (fun c => hK _ _ _ _ _ _ _ (h.2 c))
      next => exact h.elim
    next off => exact wp_goto hd hi (tg_ok hj) (hK _ _ _ _ _ _ _ h)
    next off =>
      split at h
      next S => exact wp_ifnull0 hd hi (tg_ok hj) (hK _ _ _ _ _ _ _ h)
      next r S => exact wp_ifnull1 hd hi (hK _ _ _ _ _ _ _ h)
      next => exact h.elim
    next df lo hi0 offs =>
      split at h
      next x S =>
        have hj : ((decide (0 ≤ (pc : Int) + df) && offs.toList.all (fun off => decide (0 ≤ (pc : Int) + off))) && decide (lo + (offs.toList.length : Int) = hi0 + 1)) = true := hj
        simp only [Bool.and_eq_true] at hj
        obtain ⟨⟨j1, j2⟩, j3⟩ := hj
        have j3 := of_decide_eq_true j3
        refine wp_tsw (tgt := 0) hd (fun c => ⟨_, tg_ok j1, hK _ _ _ _ _ _ _ (h.1 c)⟩) (fun c1 c2 => ?_)
        obtain ⟨off, e1, e2⟩ := tsw_at h.2 c1 (by omega)
        refine ⟨off, _, ?_, tg_ok (List.all_eq_true.mp j2 off (List.mem_of_getElem? e1)), hK _ _ _ _ _ _ _ e2⟩
        rw [← Array.getElem?_toList]
        exact e1
      next => exact h.elim
    next df ps =>
      split at h
      next x S =>
        have hj : (decide (0 ≤ (pc : Int) + df) && ps.toList.all (fun q => decide (0 ≤ (pc : Int) + q.2))) = true := hj
        simp only [Bool.and_eq_true] at hj
        obtain ⟨e1, e2⟩ := lsw_at h
        refine wp_lsw (tgt := 0) hd hi ⟨_, tg_ok ?_, hK _ _ _ _ _ _ _ e1⟩
        rcases e2 with e2 | ⟨q, e2, e3⟩
        · rw [e2]; exact hj.1
        · rw [← e3]; exact List.all_eq_true.mp hj.2 q e2
      next => exact h.elim
    next =>
      split at h
      next b a S => exact wp_idiv hd hi h.1 (hK _ _ _ _ _ _ _ h.2)
      next => exact h.elim
    next =>
      split at h
      next b a S => exact wp_irem hd hi h.1 (hK _ _ _ _ _ _ _ h.2)
      next => exact h.elim
    -- getfield
    next i =>
      split at h
      next k S ci j hf =>
        replace h := bif_and h
        obtain ⟨hb, h⟩ := h
        simp only [Bool.and_eq_true] at hb
        obtain ⟨b1, b2, b3, b4⟩ := hb
        exact wp_getf hCls hd hi ((hFl _ (fnd_mem hf)).1 (ble_lt b3)) (ble_lt b1) (Nat.eq_of_beq_eq_true b2) (ble_lt b3) (ble_lt b4) (hK _ _ _ _ _ _ _ h)
      next S j hf => exact wp_sval hd hi ((hFl _ (fnd_mem hf)).2.1 rfl) (hK _ _ _ _ _ _ _ h)
      next S j hf => exact wp_scod hd hi ((hFl _ (fnd_mem hf)).2.2.1 rfl) (hK _ _ _ _ _ _ _ h)
      next => exact h.elim
    -- putfield
    next i =>
      split at h
      next v k S ci j hf =>
        replace h := bif_and h
        obtain ⟨hb, h⟩ := h
        simp only [Bool.and_eq_true] at hb
        obtain ⟨b1, b2, b3, b4, b5, b6, b7⟩ := hb
        have hin : ph = false → M.1.name = "<init>" := fun q => hini (by rw [q] at b6; exact b6)
        have hfi : ph = true → ∀ C T N, vwCl[ci]? = some (C, T, N) → (T j).2.2.2 = false := by
          intro q C T N hv
          rw [q] at b7
          have b8 : fin ci j = false := by
            cases hx : fin ci j with
            | false => rfl
            | true => rw [hx] at b7; cases b7
          unfold fin at b8
          rw [hv] at b8
          exact b8
        have hcr : ph = true → crf k j = 0 := by
          intro q
          rw [q] at b7
          cases hx : Nat.beq (crf k j) 0 with
          | true => exact Nat.eq_of_beq_eq_true hx
          | false =>
            rw [hx] at b7
            cases hx2 : fin ci j <;> rw [hx2] at b7 <;> cases b7
        split at h
        next x hx =>
          split at h
          next hbo => exact wp_putf hCls hd hi ((hFl _ (fnd_mem hf)).1 (ble_lt b3)) (ble_lt b1) (Nat.eq_of_beq_eq_true b2) (ble_lt b3) (ble_lt b4) hx (fun _ => h.1) hcr b5 hin hfi (hK _ _ _ _ _ _ _ h.2)
          next hbo => exact wp_putf hCls hd hi ((hFl _ (fnd_mem hf)).1 (ble_lt b3)) (ble_lt b1) (Nat.eq_of_beq_eq_true b2) (ble_lt b3) (ble_lt b4) hx (fun q => absurd q hbo) hcr b5 hin hfi (hK _ _ _ _ _ _ _ h)
        next => exact h.elim
      next => exact h.elim
    -- getstatic
    next i =>
      split at h
      next j hf => exact wp_gcom hd hi ((hFl _ (fnd_mem hf)).2.2.2.1 rfl) (hK _ _ _ _ _ _ _ h)
      next j hf => exact wp_gfmt hd hi ((hFl _ (fnd_mem hf)).2.2.2.2 rfl) (hK _ _ _ _ _ _ _ h)
      next => exact h.elim
    -- iaload
    next =>
      split at h
      next i k S =>
        replace h := bif_and h
        obtain ⟨hb, h⟩ := h
        simp only [Bool.and_eq_true] at hb
        obtain ⟨b1, b2, b3⟩ := hb
        have e : shf k = (20, (shf k).2) := by rw [← Nat.eq_of_beq_eq_true b3]
        exact wp_iald hd hi (ble_lt b1) e b2 h.1 (hK _ _ _ _ _ _ _ h.2)
      next i S => exact wp_sld hd hi h.1 (hK _ _ _ _ _ _ _ h.2)
      next => exact h.elim
    -- baload
    next =>
      split at h
      next i k S =>
        replace h := bif_and h
        obtain ⟨hb, h⟩ := h
        simp only [Bool.and_eq_true, Bool.or_eq_true] at hb
        obtain ⟨b1, b2, b3⟩ := hb
        rcases b3 with b3 | b3
        · have e : shf k = (21, (shf k).2) := by rw [← Nat.eq_of_beq_eq_true b3]
          exact wp_bald hd hi (ble_lt b1) e b2 h.1 (hK _ _ _ _ _ _ _ h.2)
        · have e : shf k = (22, (shf k).2) := by rw [← Nat.eq_of_beq_eq_true b3]
          exact wp_zald hd hi (ble_lt b1) e b2 h.1 (hK _ _ _ _ _ _ _ h.2)
      next i S => exact wp_tald hd hi h.1 (hK _ _ _ _ _ _ _ h.2)
      next => exact h.elim
    -- laload
    next =>
      split at h
      next i k S =>
        replace h := bif_and h
        obtain ⟨hb, h⟩ := h
        simp only [Bool.and_eq_true] at hb
        obtain ⟨b1, b2, b3⟩ := hb
        have e : shf k = (23, (shf k).2) := by rw [← Nat.eq_of_beq_eq_true b3]
        exact wp_lald hd hi (ble_lt b1) e b2 h.1 (hK _ _ _ _ _ _ _ h.2)
      next => exact h.elim
    -- iastore
    next =>
      split at h
      next x i k S =>
        replace h := bif_and h
        obtain ⟨hb, h⟩ := h
        simp only [Bool.and_eq_true] at hb
        obtain ⟨b1, b2, b3, b4⟩ := hb
        have e : shf k = (20, (shf k).2) := by rw [← Nat.eq_of_beq_eq_true b4]
        exact wp_iast hd hi (ble_lt b1) e b2 b3 h.1 (hK _ _ _ _ _ _ _ h.2)
      next => exact h.elim
    -- bastore
    next =>
      split at h
      next x i k S =>
        replace h := bif_and h
        obtain ⟨hb, h⟩ := h
        simp only [Bool.and_eq_true] at hb
        obtain ⟨b1, b2, b3⟩ := hb
        cases h21 : Nat.beq (shf k).1 21 with
        | true =>
          rw [h21] at h
          have e : shf k = (21, (shf k).2) := by rw [← Nat.eq_of_beq_eq_true h21]
          exact wp_bast hd hi (ble_lt b1) e b2 b3 h.1 (hK _ _ _ _ _ _ _ h.2)
        | false =>
          rw [h21] at h
          replace h := bif_and h
          obtain ⟨hb, h⟩ := h
          have e : shf k = (22, (shf k).2) := by rw [← Nat.eq_of_beq_eq_true hb]
          exact wp_zast hd hi (ble_lt b1) e b2 b3 h.1 h.2.1 (hK _ _ _ _ _ _ _ h.2.2)
      next => exact h.elim
    -- lastore
    next =>
      split at h
      next x i k S =>
        replace h := bif_and h
        obtain ⟨hb, h⟩ := h
        simp only [Bool.and_eq_true] at hb
        obtain ⟨b1, b2, b3, b4⟩ := hb
        have e : shf k = (23, (shf k).2) := by rw [← Nat.eq_of_beq_eq_true b4]
        exact wp_last hd hi (ble_lt b1) e b2 b3 h.1 (hK _ _ _ _ _ _ _ h.2)
      next => exact h.elim
    -- arraylength
    next =>
      split at h
      next k S =>
        replace h := bif_and h
        obtain ⟨hb, h⟩ := h
        simp only [Bool.and_eq_true] at hb
        obtain ⟨b1, b2, b3, b4⟩ := hb
        exact wp_alen (kd := (shf k).1) hd hi (ble_lt b1) rfl ⟨Nat.le_of_ble_eq_true b2, Nat.le_of_ble_eq_true b3⟩ (Nat.le_of_ble_eq_true b4) (hK _ _ _ _ _ _ _ h)
      next S => exact wp_slen hd hi h.1 (hK _ _ _ _ _ _ _ h.2)
      next S => exact wp_tlen hd hi (hK _ _ _ _ _ _ _ h)
      next => exact h.elim
    -- new
    next i =>
      split at h
      next ci hf =>
        replace h := bif_and h
        obtain ⟨hb, h⟩ := h
        simp only [Bool.and_eq_true] at hb
        obtain ⟨b1, b2, b3, b4, b5, b6, b7, b8⟩ := hb
        obtain ⟨C, T, N, g1, g2⟩ := hNw _ (fnd_mem hf)
        have e : shf n = (ci, (shf n).2) := by rw [← Nat.eq_of_beq_eq_true b2]
        have eN : (shf n).2 = N := by
          have := Nat.eq_of_beq_eq_true b7
          unfold clsN at this
          rw [g1] at this
          exact this
        exact wp_new hCls hd hi e (ble_lt b3) ⟨C, T, by rw [eN]; exact g1, g2⟩ (fun j hj => List.all_eq_true.mp b8 j (List.mem_range.mpr hj)) (by simpa using b1) (ble_lt b4) (Nat.le_of_ble_eq_true b5) (Nat.le_of_ble_eq_true b6) (hK _ _ _ _ _ _ _ h)
      next => exact h.elim
    -- newarray
    next at0 =>
      split at h
      next i S =>
        replace h := bif_and h
        obtain ⟨hb, h⟩ := h
        simp only [Bool.and_eq_true] at hb
        obtain ⟨b1, b2, b3, b4, b5, b6, b7⟩ := hb
        have e : shf n = (atk at0, (shf n).2) := by rw [← Nat.eq_of_beq_eq_true b2]
        have hph : ph = false := by simpa using b1
        cases at0 with
        | int => exact wp_newa (ix := 0) hd hi rfl (Or.inl ⟨rfl, rfl, rfl⟩) hArr.1 e (Nat.le_of_ble_eq_true b7) h.1 hph (ble_lt b4) (Nat.le_of_ble_eq_true b5) (Nat.le_of_ble_eq_true b6) (hK _ _ _ _ _ _ _ h.2)
        | byte => exact wp_newa (ix := 1) hd hi rfl (Or.inr (Or.inl ⟨rfl, rfl, rfl⟩)) hArr.2.1 e (Nat.le_of_ble_eq_true b7) h.1 hph (ble_lt b4) (Nat.le_of_ble_eq_true b5) (Nat.le_of_ble_eq_true b6) (hK _ _ _ _ _ _ _ h.2)
        | boolean => exact wp_newa (ix := 2) hd hi rfl (Or.inr (Or.inr (Or.inl ⟨rfl, rfl, rfl⟩))) hArr.2.2.1 e (Nat.le_of_ble_eq_true b7) h.1 hph (ble_lt b4) (Nat.le_of_ble_eq_true b5) (Nat.le_of_ble_eq_true b6) (hK _ _ _ _ _ _ _ h.2)
        | long => exact wp_newa (ix := 3) hd hi rfl (Or.inr (Or.inr (Or.inr ⟨rfl, rfl, rfl⟩))) hArr.2.2.2 e (Nat.le_of_ble_eq_true b7) h.1 hph (ble_lt b4) (Nat.le_of_ble_eq_true b5) (Nat.le_of_ble_eq_true b6) (hK _ _ _ _ _ _ _ h.2)
        | _ => cases b3
      next => exact h.elim
    -- invokestatic
    next i =>
      split at h
      next q M2 hf =>
        split at h
        next y x S =>
          replace h := bif_and h
          obtain ⟨hb, h⟩ := h
          simp only [Bool.and_eq_true] at hb
          obtain ⟨g1, g2, g3, g4⟩ := (hCa _ (fnd_mem hf)).2.2.2.2.2.2.1 rfl
          exact wp_max hd hi g1 g2 g3 g4 (Nat.le_of_ble_eq_true hb.1) (Nat.le_of_ble_eq_true hb.2.1) (Nat.le_of_ble_eq_true hb.2.2) (hK _ _ _ _ _ _ _ h)
        next => exact h.elim
      next q M2 hf =>
        split at h
        next y x S =>
          replace h := bif_and h
          obtain ⟨hb, h⟩ := h
          simp only [Bool.and_eq_true] at hb
          obtain ⟨g1, g2, g3, g4⟩ := (hCa _ (fnd_mem hf)).2.2.2.2.2.2.2 rfl
          exact wp_min hd hi g1 g2 g3 g4 (Nat.le_of_ble_eq_true hb.1) (Nat.le_of_ble_eq_true hb.2.1) (Nat.le_of_ble_eq_true hb.2.2) (hK _ _ _ _ _ _ _ h)
        next => exact h.elim
      next na c2 s2 ci M2 hf =>
        replace h := bif_and h
        obtain ⟨hb, h⟩ := h
        simp only [Bool.and_eq_true] at hb
        obtain ⟨b1, b2, b3, b4⟩ := hb
        obtain ⟨g1, g2, g3⟩ := (hCa _ (fnd_mem hf)).1 rfl
        have e := take_eq (S := S) na
        have hlen := take_len b1
        generalize (S.take na).reverse = as at h e hlen
        generalize S.drop na = rest at h e b2
        subst e
        exact wp_calls hd hi (by rw [hlen]; exact g1) g2 g3 (Nat.le_of_ble_eq_true b2) (Nat.le_of_ble_eq_true b3) (Nat.le_of_ble_eq_true b4) (fun _ q => q) (h.to (fun _ q => q) (fun v G' q _ => hK _ _ _ _ _ _ _ (rK_to q)))
      next na c2 s2 ci M2 hf =>
        replace h := bif_and h
        obtain ⟨hb, h⟩ := h
        simp only [Bool.and_eq_true] at hb
        obtain ⟨b1, b2, b3, b4⟩ := hb
        obtain ⟨g1, ⟨host, g2⟩, g3⟩ := (hCa _ (fnd_mem hf)).2.1 rfl
        have e := take_eq (S := S) na
        have hlen := take_len b1
        generalize (S.take na).reverse = as at h e hlen
        generalize S.drop na = rest at h e b2
        subst e
        exact wp_callsN hd hi (by rw [hlen]; exact g1) g2 g3 (Nat.le_of_ble_eq_true b2) (Nat.le_of_ble_eq_true b3) (Nat.le_of_ble_eq_true b4) (fun _ q => q) (h.to (fun _ q => q) (fun v G' q _ => hK _ _ _ _ _ _ _ (rK_to q)))
      next => exact h.elim
    -- invokevirtual
    next i =>
      split at h
      next na c2 s2 ci M2 hf =>
        replace h := bif_and h
        obtain ⟨hb, h⟩ := h
        simp only [Bool.and_eq_true] at hb
        obtain ⟨b1, b2, b3, b4⟩ := hb
        obtain ⟨g1, g2, g3, g4, g5⟩ := (hCa _ (fnd_mem hf)).2.2.1 rfl
        have e := take_eq (S := S) na
        have hlen := take_len b1
        generalize (S.take na).reverse = as at h e hlen
        generalize S.drop na = rest at h e b2
        subst e
        split at h
        next k as =>
          replace h := bif_and h
          obtain ⟨hb, h⟩ := h
          simp only [Bool.and_eq_true] at hb
          obtain ⟨c1, c2', c3⟩ := hb
          have hlen : as.length = na - 1 := by simp at hlen; omega
          rcases g5 with ⟨T, N, g5⟩ | ⟨g5, -⟩
          · exact wp_callv (C := M2.1.cls) hd hi (by rw [hlen]; exact g1) g2 g3 g4 (ble_lt c1) (Nat.eq_of_beq_eq_true c2') (ble_lt c3) g5 (Nat.le_of_ble_eq_true b2) (Nat.le_of_ble_eq_true b3) (Nat.le_of_ble_eq_true b4) (fun _ q => q) (h.to (fun _ q => q) (fun v G' q _ => hK _ _ _ _ _ _ _ (rK_to q)))
          · have := ble_lt c3
            simp only at g5
            omega
        next as =>
          replace h := bif_and h
          obtain ⟨hb, h⟩ := h
          have hlen : as.length = na - 1 := by simp at hlen; omega
          have hb := Nat.eq_of_beq_eq_true hb
          rcases g5 with ⟨T, N, g5⟩ | ⟨-, g5⟩
          · simp only [hb] at g5
            cases g5
          · exact wp_callt hd hi (by rw [hlen]; exact g1) g2 g3 g4 g5 (Nat.le_of_ble_eq_true b2) (Nat.le_of_ble_eq_true b3) (Nat.le_of_ble_eq_true b4) (fun _ q => q) (h.to (fun _ q => q) (fun v G' q _ => hK _ _ _ _ _ _ _ (rK_to q)))
        next => exact h.elim
      next => exact h.elim
    -- invokespecial
    next i =>
      split at h
      next q M2 hf =>
        split at h
        next k S =>
          replace h := bif_and h
          obtain ⟨hb, h⟩ := h
          obtain ⟨g1, g2, g3⟩ := (hCa _ (fnd_mem hf)).2.2.2.2.2.1 rfl
          exact wp_obj hd hi g1 g2 g3 (Nat.le_of_ble_eq_true hb) (hK _ _ _ _ _ _ _ h)
        next => exact h.elim
      next na c2 s2 ci M2 hf =>
        replace h := bif_and h
        obtain ⟨hb, h⟩ := h
        simp only [Bool.and_eq_true] at hb
        obtain ⟨b1, b2, b3, b4⟩ := hb
        obtain ⟨g1, g2, g3, g4, g5⟩ := (hCa _ (fnd_mem hf)).2.2.2.1 rfl
        have e := take_eq (S := S) na
        have hlen := take_len b1
        generalize (S.take na).reverse = as at h e hlen
        generalize S.drop na = rest at h e b2
        subst e
        split at h
        next k as =>
          have hlen : as.length = na - 1 := by simp at hlen; omega
          exact wp_calli hd hi (by rw [hlen]; exact g1) g2 g3 g4 g5 (Nat.le_of_ble_eq_true b2) (Nat.le_of_ble_eq_true b3) (Nat.le_of_ble_eq_true b4) (fun _ q => q) (h.to (fun _ q => q) (fun v G' q _ => hK _ _ _ _ _ _ _ (rK_to q)))
        next => exact h.elim
      next na c2 s2 ci M2 hf =>
        replace h := bif_and h
        obtain ⟨hb, h⟩ := h
        simp only [Bool.and_eq_true] at hb
        obtain ⟨b1, b2, b3, b4⟩ := hb
        obtain ⟨g1, ⟨host, g2⟩, g3, g4, g5⟩ := (hCa _ (fnd_mem hf)).2.2.2.2.1 rfl
        have e := take_eq (S := S) na
        have hlen := take_len b1
        generalize (S.take na).reverse = as at h e hlen
        generalize S.drop na = rest at h e b2
        subst e
        split at h
        next k as =>
          have hlen : as.length = na - 1 := by simp at hlen; omega
          exact wp_calliN hd hi (by rw [hlen]; exact g1) g2 g3 g4 g5 (Nat.le_of_ble_eq_true b2) (Nat.le_of_ble_eq_true b3) (Nat.le_of_ble_eq_true b4) (fun _ q => q) (h.to (fun _ q => q) (fun v G' q _ => hK _ _ _ _ _ _ _ (rK_to q)))
        next => exact h.elim
      next => exact h.elim
    -- ireturn
    next =>
      split at h
      next x =>
        replace h := bif_and h
        obtain ⟨hb, h⟩ := h
        simp only [Bool.and_eq_true] at hb
        obtain ⟨b1, b2, b3⟩ := hb
        have hl := Nat.eq_of_beq_eq_true hi
        subst hl
        have fin2 : mRI M (some (mI x)) pc → Q (some (mI x)) G → WP o M D (d + 1) mc ms ph n' Q n ce sl pc L [mI x] G := fun r q => wp_ret (v := some (mI x)) r (Nat.eq_of_beq_eq_true b1) (Nat.le_of_ble_eq_true b2) (Nat.le_of_ble_eq_true b3) q
        unfold rtK at h
        split at h
        next hm => exact fin2 (by unfold mRI; rw [hm]; exact ⟨hd, rfl⟩) h
        next hm => exact fin2 (by unfold mRI; rw [hm]; exact ⟨hd, nar_z h.1⟩) h.2
        next hm => exact fin2 (by unfold mRI; rw [hm]; exact ⟨hd, nar_c h.1⟩) h.2
        next hm => exact fin2 (by unfold mRI; rw [hm]; exact ⟨hd, nar_b h.1⟩) h.2
        next => exact h.elim
      next => exact h.elim
    next =>
      split at h
      next x hm =>
        replace h := bif_and h
        obtain ⟨hb, h⟩ := h
        simp only [Bool.and_eq_true] at hb
        obtain ⟨b1, b2, b3⟩ := hb
        have hl := Nat.eq_of_beq_eq_true hi
        subst hl
        exact wp_ret (v := some (mJ x)) (by unfold mRI; rw [hm]; exact hd) (Nat.eq_of_beq_eq_true b1) (Nat.le_of_ble_eq_true b2) (Nat.le_of_ble_eq_true b3) h
      next => exact h.elim
    next =>
      split at h
      next hm =>
        replace h := bif_and h
        obtain ⟨hb, h⟩ := h
        simp only [Bool.and_eq_true] at hb
        obtain ⟨b1, b2, b3⟩ := hb
        have hl := Nat.eq_of_beq_eq_true hi
        subst hl
        exact wp_ret (v := none) (by unfold mRI; rw [hm]; exact hd) (Nat.eq_of_beq_eq_true b1) (Nat.le_of_ble_eq_true b2) (Nat.le_of_ble_eq_true b3) h
      next => exact h.elim
    next => exact h.elim
theorem vc_sound {code : mCd} {cuts : List Nat} (hO : okO o) (hini : ini = true → M.1.name = "<init>") (hc : Cert M code) : ∀ (f : Nat) (fr : Bool) (n ce sl pc : Nat) (L : List (Option mV)) (S : List mV) (G : mG), vc o M D d mc ms ph ini n' Q code cuts f fr n ce sl pc L S G → WP o M D (d + 1) mc ms ph n' Q n ce sl pc L S G := by
  intro f
  induction f with
  | zero => intro fr n ce sl pc L S G h; exact h
  | succ f ih =>
    intro fr n ce sl pc L S G h
    unfold vc at h
    cases hb : (fr && inN cuts pc) with
    | true => rw [hb] at h; exact h
    | false =>
      rw [hb] at h
      simp only [cond_false] at h
      split at h
      next => exact h.elim
      next q hq =>
        obtain ⟨c1, c2, c3⟩ := hc pc q hq
        exact nxt_sound hO hini c1 c2 c3 (fun n ce sl pc L S G h => ih true n ce sl pc L S G h) h
end SND2
