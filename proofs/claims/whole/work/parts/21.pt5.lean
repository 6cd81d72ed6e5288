def zNum (ws : List Int32) (x : Int32) (s0 : Nat) : Nat := match (List.range ws.length).find? (fun i => decide (s0 ≤ i ∧ ws[i]? = some x)) with
  | some i => i + 1
  | none => 0
theorem zNum_some {ws : List Int32} {x : Int32} {s0 i : Nat} (h1 : s0 ≤ i) (h2 : ws[i]? = some x) (h3 : ∀ j, s0 ≤ j → j < i → ¬ ws[j]? = some x) : zNum ws x s0 = i + 1 := by
  unfold zNum
  have hi : i < ws.length := (List.getElem?_eq_some_iff.mp h2).1
  have : (List.range ws.length).find? (fun i => decide (s0 ≤ i ∧ ws[i]? = some x)) = some i := by
    rw [List.find?_range_eq_some]
    refine ⟨by simp [h1, h2], by simp [hi], fun j hj => ?_⟩
    by_cases hs : s0 ≤ j
    · simp [h3 j hs hj]
    · simp [hs]
  rw [this]
theorem zNum_none {ws : List Int32} {x : Int32} {s0 : Nat} (h : ∀ j, s0 ≤ j → j < ws.length → ¬ ws[j]? = some x) : zNum ws x s0 = 0 := by
  unfold zNum
  have : (List.range ws.length).find? (fun i => decide (s0 ≤ i ∧ ws[i]? = some x)) = none := by
    rw [List.find?_range_eq_none]
    intro j hj
    by_cases hs : s0 ≤ j
    · simp [h j hs hj]
    · simp [hs]
  rw [this]
def sLz : List Int32 → Nat → List Int32 → List Int32
  | [], k, ws => if 0 < k then ws ++ [nI (257 * k + 256)] else ws
  | x :: r, k, ws => if zNum ws (nI (257 * k) + x) k = 0 then sLz r 0 (ws ++ [nI (257 * k) + x]) else sLz r (zNum ws (nI (257 * k) + x) k) ws
theorem zIs_drop {f : Nat → Int32} {xs : List Int32} (h : zIs f xs) {i : Nat} (hi : i < xs.length) : xs.drop i = f i :: xs.drop (i + 1) := by
  rw [List.drop_eq_getElem_cons hi]
  congr 1
  have h1 := h i hi
  rw [List.getElem?_eq_getElem hi] at h1
  exact Option.some.inj h1
theorem qX1_writeDown_0 : ∀ w ∈ wsX10, w ∈ wsX1_writeDown := by decide +kernel
theorem qX1_writeDown_1 : Cond.fieldLink RX1 18 "PieceText$Phrases" "count" "I" ∈ wsX1_writeDown := by decide +kernel
set_option maxHeartbeats 4000000 in
set_option maxRecDepth 100000 in
theorem c_Phr_writeDown (l : Launch) (D : va_G) (cI cR cL : ClassId) (B N : Nat) (ad : Nat → Nat) (cw : Nat → va_E) (hN : 45 < N) {now : Nat} {xs ws : List Int32} (g1 : now < 13) (hT : zRow cI ad cw (3 + 2 * now) (4 + 2 * now) 240 xs) (hW : zWords cI ad cw ws) : Met l yX1_writeDown wsX1_writeDown ({ frames := 1, cells := 0, slots := 0, locals := 23 } : Room) (va_Pc [.ref (ad (31)), .ref (ad (3 + 2 * now))] (zI D vwCl (zTy cI cR cL) B N ad cw)) (zQv D vwCl B N ad (fun (cw' : Nat → va_E) => zWords cI ad cw' (sLz xs 0 []) ∧ ∀ j, (j ≠ 31 ∧ j ≠ 32) → cw' j = cw j)) 0 0 (zA B) := by
  obtain ⟨t1, t2, f, t3, t4⟩ := id hT
  obtain ⟨w1, w2, ⟨wf, w3, w4⟩, sf, w5⟩ := id hW
  refine z_ofW (cc := cX1_writeDown) (maxL := 6) (ret := none) (by decide) rfl (Nat.le_of_ble_eq_true rfl) ?_
  intro p e s m args below meth c C hr hnm
  refine z_lv (lv' := [(0, .ref (ad (31))), (1, .ref (ad (3 + 2 * now)))]) [0, 1] rfl ?_
  refine z_aload_n C dX1_writeDown_0 0 rfl ?_
  refine z_iconst (v := nI 0) C dX1_writeDown_1 (by decide) ?_
  obtain ⟨cw1, ecw1⟩ : ∃ z : Nat → va_E, z = va_up (cw) (31) (.inr (1, [.ref (ad (32)), .ref (ad (33)), .int (nI 0)])) := ⟨_, rfl⟩
  refine z_put (Cn := RX1) (T := TX1) (NF := 3) (ci := 1) (ty := .int) (v := .int (nI 0)) C qX1_writeDown_0 tyX1_ok nmX1 rfl 2 (by decide) (C.2.2.2.2.1 _ qX1_writeDown_1) (fun _ h9 => h9) rfl (by decide +kernel) dX1_writeDown_2 (31) (by omega) w1 rfl rfl (Nat.le_of_ble_eq_true rfl) ?_
  refine z_cw ecw1.symm ?_
  have hw_2 : cw1 (3 + 2 * now) = .inr (2, [.ref (ad (4 + 2 * now)), .int (nI (xs.length))]) := by rw [ecw1, va_up_ne _ _ (by omega)]; exact t1
  have hw_3 : cw1 (4 + 2 * now) = .inl (cI, 240, .inl (f)) := by rw [ecw1, va_up_ne _ _ (by omega)]; exact t3
  have hw_4 : cw1 (31) = .inr (1, [.ref (ad (32)), .ref (ad (33)), .int (nI 0)]) := by rw [ecw1, va_up_self]
  have hw_5 : cw1 (32) = .inl (cI, 240, .inl (wf)) := by rw [ecw1, va_up_ne _ _ (by decide)]; exact w3
  have hw_6 : cw1 (33) = .inl (cI, 241, .inl (sf)) := by rw [ecw1, va_up_ne _ _ (by decide)]; exact w5
  refine z_iconst (v := nI 0) C dX1_writeDown_5 (by decide) ?_
  refine z_istore_n (lv' := [(2, .int (nI 0)), (0, .ref (ad (31))), (1, .ref (ad (3 + 2 * now)))]) C dX1_writeDown_6 rfl (by decide) rfl ?_
  refine z_iconst (v := nI 0) C dX1_writeDown_7 (by decide) ?_
  refine z_istore_n (lv' := [(3, .int (nI 0)), (2, .int (nI 0)), (0, .ref (ad (31))), (1, .ref (ad (3 + 2 * now)))]) C dX1_writeDown_8 rfl (by decide) rfl ?_
  refine z_lv (lv' := [(3, .int (nI 0)), (2, .int (nI 0)), (0, .ref (ad (31))), (1, .ref (ad (3 + 2 * now)))]) [0, 1, 2, 3] rfl ?_
  suffices loop : ∀ (mm i k : Nat) (wk : List Int32) (cwk : Nat → va_E), xs.length = i + mm → k ≤ wk.length → wk.length + (if 0 < k then 1 else 0) ≤ i → sLz (xs.drop i) k wk = sLz xs 0 [] → zWords cI ad cwk wk → (∀ j, (j ≠ 31 ∧ j ≠ 32) → cwk j = cw j) → zG p l e (headSpec wsX1_writeDown ({ frames := 1, cells := 0, slots := 0, locals := 23 } : Room)).room s m args below meth c (MQ below (zQv D vwCl B N ad (fun (cw' : Nat → va_E) => zWords cI ad cw' (sLz xs 0 []) ∧ ∀ j, (j ≠ 31 ∧ j ≠ 32) → cw' j = cw j)) args s 0 0 (zA B)) D vwCl B 6 N ad cwk 0 0 [(3, .int (nI i)), (2, .int (nI k)), (0, .ref (ad (31))), (1, .ref (ad (3 + 2 * now)))] 9 [] from loop xs.length 0 0 [] cw1 (by omega) (Nat.le_refl _) (Nat.le_refl _) rfl ⟨hw_4, Nat.zero_le _, ⟨_, hw_5, zIs_nil _⟩, _, hw_6⟩ (fun j hj => by rw [ecw1, va_up_ne _ _ (by omega)])
  intro mm
  induction mm with
  | zero =>
    intro i k wk cwk hi hk hb hz hWk hfrm
    obtain ⟨v1, v2, ⟨vf, v3, v4⟩, v6, v5⟩ := id hWk
    have hk_7 : cwk (3 + 2 * now) = .inr (2, [.ref (ad (4 + 2 * now)), .int (nI (xs.length))]) := (hfrm (3 + 2 * now) (by omega)).trans t1
    have hk_8 : cwk (4 + 2 * now) = .inl (cI, 240, .inl (f)) := (hfrm (4 + 2 * now) (by omega)).trans t3
    refine z_iload_n C dX1_writeDown_9 0 rfl ?_
    refine z_aload_n C dX1_writeDown_10 3 rfl ?_
    refine z_calli (z_runV (As := []) (rest := [.int (nI i)]) C (c_Row_size l D cI cR cL B N ad cwk (by omega) hk_7) (cwV 0 C.2.2.2.2.1 gX1_writeDown_X2_size rfl rfl rfl (by decide +kernel) ⟨Nat.le_of_ble_eq_true rfl, Nat.le_of_ble_eq_true rfl⟩) (by omega) hk_7 rfl rfl rfl rfl (Nat.le_of_ble_eq_true rfl) dX1_writeDown_11 ⟨Nat.le_of_ble_eq_true rfl, Nat.le_of_ble_eq_true rfl⟩) (fun r9 cw10 hp11 => ?_)
    refine z_cw hp11.2 ?_
    refine z_top hp11.1 ?_
    refine z_icmp_ge (tgt := 59) C dX1_writeDown_14 (by decide) (fun c12 => ?_) (fun c12 => ?_)
    · skip
      rw [List.drop_eq_nil_of_le (by omega), sLz] at hz
      refine z_iload_n C dX1_writeDown_59 1 rfl ?_
      refine z_if_le (tgt := 76) C dX1_writeDown_60 (by decide) (fun c13 => ?_) (fun c13 => ?_)
      · skip
        have h0 : ¬ 0 < k := fun h9 => nI_nle h9 (by omega) c13
        rw [if_neg h0] at hz
        exact z_vret C hr dX1_writeDown_76 (⟨by rw [← hz]; exact hWk, hfrm⟩) (Nat.le_of_ble_eq_true rfl) (Nat.le_of_ble_eq_true rfl)
      · skip
        have h0 : 0 < k := Nat.pos_of_ne_zero (fun h9 => c13 (by rw [h9]; decide))
        rw [if_pos h0] at hz hb
        refine z_aload_n C dX1_writeDown_63 2 rfl ?_
        refine z_sipush (v := nI 257) C dX1_writeDown_64 (by decide) ?_
        refine z_iload_n C dX1_writeDown_67 1 rfl ?_
        refine z_imul C dX1_writeDown_68 ?_
        refine z_top (y := nI (257 * k)) (pk_mul _ _) ?_
        refine z_sipush (v := nI 256) C dX1_writeDown_69 (by decide) ?_
        refine z_iadd C dX1_writeDown_72 ?_
        refine z_top (y := nI (257 * k + 256)) (nI_add _ _) ?_
        refine z_callv (z_runV (As := [.int (nI (257 * k + 256))]) (rest := []) C (c_Phr_addWord l D cI cR cL B N ad cwk (by omega) v1 v3 (by omega) (nI (257 * k + 256))) (cwV 1 C.2.2.2.2.1 gX1_writeDown_X1_addWord rfl rfl rfl (by decide +kernel) ⟨Nat.le_of_ble_eq_true rfl, Nat.le_of_ble_eq_true rfl⟩) (by omega) v1 rfl rfl rfl rfl (Nat.le_of_ble_eq_true rfl) dX1_writeDown_73 ⟨Nat.le_of_ble_eq_true rfl, Nat.le_of_ble_eq_true rfl⟩) (fun cw14 hp15 => ?_)
        have hw_16 : cw14 (3 + 2 * now) = .inr (2, [.ref (ad (4 + 2 * now)), .int (nI (xs.length))]) := by rw [hp15, va_up_ne _ _ (by omega), va_up_ne _ _ (by omega)]; exact hk_7
        have hw_17 : cw14 (4 + 2 * now) = .inl (cI, 240, .inl (f)) := by rw [hp15, va_up_ne _ _ (by omega), va_up_ne _ _ (by omega)]; exact hk_8
        have hw_18 : cw14 (31) = .inr (1, [.ref (ad (32)), .ref (ad (33)), .int (nI (wk.length + 1))]) := by rw [hp15, va_up_self]
        have hw_19 : cw14 (32) = .inl (cI, 240, .inl (upd (vf) (wk.length) (nI (257 * k + 256)))) := by rw [hp15, va_up_ne _ _ (by decide), va_up_self]
        have hw_20 : cw14 (33) = .inl (cI, 241, .inl (v6)) := by rw [hp15, va_up_ne _ _ (by decide), va_up_ne _ _ (by decide)]; exact v5
        exact z_vret C hr dX1_writeDown_76 (⟨by rw [← hz]; exact ⟨by rw [hw_18, List.length_append]; rfl, by rw [List.length_append]; show wk.length + 1 ≤ _; omega, ⟨_, hw_19, zIs_add v4 _⟩, _, hw_20⟩, fun j hj => by rw [hp15, va_up_ne _ _ (by omega), va_up_ne _ _ (by omega)]; exact hfrm j hj⟩) (Nat.le_of_ble_eq_true rfl) (Nat.le_of_ble_eq_true rfl)
    · skip
      exact absurd (nI_le (by omega) (by omega)) c12
  | succ mm ih =>
    intro i k wk cwk hi hk hb hz hWk hfrm
    obtain ⟨v1, v2, ⟨vf, v3, v4⟩, v6, v5⟩ := id hWk
    have hk_21 : cwk (3 + 2 * now) = .inr (2, [.ref (ad (4 + 2 * now)), .int (nI (xs.length))]) := (hfrm (3 + 2 * now) (by omega)).trans t1
    have hk_22 : cwk (4 + 2 * now) = .inl (cI, 240, .inl (f)) := (hfrm (4 + 2 * now) (by omega)).trans t3
    refine z_iload_n C dX1_writeDown_9 0 rfl ?_
    refine z_aload_n C dX1_writeDown_10 3 rfl ?_
    refine z_calli (z_runV (As := []) (rest := [.int (nI i)]) C (c_Row_size l D cI cR cL B N ad cwk (by omega) hk_21) (cwV 0 C.2.2.2.2.1 gX1_writeDown_X2_size rfl rfl rfl (by decide +kernel) ⟨Nat.le_of_ble_eq_true rfl, Nat.le_of_ble_eq_true rfl⟩) (by omega) hk_21 rfl rfl rfl rfl (Nat.le_of_ble_eq_true rfl) dX1_writeDown_11 ⟨Nat.le_of_ble_eq_true rfl, Nat.le_of_ble_eq_true rfl⟩) (fun r23 cw24 hp25 => ?_)
    refine z_cw hp25.2 ?_
    refine z_top hp25.1 ?_
    refine z_icmp_ge (tgt := 59) C dX1_writeDown_14 (by decide) (fun c26 => ?_) (fun c26 => ?_)
    · skip
      exact absurd ((nI_leI (by omega) (by omega)).mp c26) (by omega)
    · skip
      rw [zIs_drop t4 (by omega), sLz] at hz
      have hwl : wk.length ≤ i := by split at hb <;> omega
      refine z_sipush (v := nI 257) C dX1_writeDown_17 (by decide) ?_
      refine z_iload_n C dX1_writeDown_20 1 rfl ?_
      refine z_imul C dX1_writeDown_21 ?_
      refine z_top (y := nI (257 * k)) (pk_mul _ _) ?_
      refine z_aload_n C dX1_writeDown_22 3 rfl ?_
      refine z_iload_n C dX1_writeDown_23 0 rfl ?_
      refine z_calli (z_runV (As := [.int (nI (i))]) (rest := [.int (nI (257 * k))]) C (c_Row_get l D cI cR cL B N ad cwk (by omega) hk_21 (by decide) (by omega) hk_22 (j := i) (by omega)) (cwV 1 C.2.2.2.2.1 gX1_writeDown_X2_get rfl rfl rfl (by decide +kernel) ⟨Nat.le_of_ble_eq_true rfl, Nat.le_of_ble_eq_true rfl⟩) (by omega) hk_21 rfl rfl rfl rfl (Nat.le_of_ble_eq_true rfl) dX1_writeDown_24 ⟨Nat.le_of_ble_eq_true rfl, Nat.le_of_ble_eq_true rfl⟩) (fun r27 cw28 hp29 => ?_)
      refine z_cw hp29.2 ?_
      refine z_top hp29.1 ?_
      refine z_iadd C dX1_writeDown_27 ?_
      refine z_istore (lv' := [(4, .int ((nI (257 * k)) + (f (i)))), (3, .int (nI i)), (2, .int (nI k)), (0, .ref (ad (31))), (1, .ref (ad (3 + 2 * now)))]) C dX1_writeDown_28 (by decide) rfl ?_
      refine z_aload_n C dX1_writeDown_30 3 rfl ?_
      refine z_iload C dX1_writeDown_31 0 rfl ?_
      refine z_iload_n C dX1_writeDown_33 2 rfl ?_
      refine z_calli (z_runV (As := [.int ((nI (257 * k) + f (i))), .int (nI k)]) (rest := []) C (c_Phr_numberOf l D cI cR cL B N ad cwk (by omega) v1 v3 (s0 := k) (hk) (v2) ((nI (257 * k) + f (i)))) (cwV 2 C.2.2.2.2.1 gX1_writeDown_X1_numberOf rfl rfl rfl (by decide +kernel) ⟨Nat.le_of_ble_eq_true rfl, Nat.le_of_ble_eq_true rfl⟩) (by omega) v1 rfl rfl rfl rfl (Nat.le_of_ble_eq_true rfl) dX1_writeDown_34 ⟨Nat.le_of_ble_eq_true rfl, Nat.le_of_ble_eq_true rfl⟩) (fun r30 cw31 hp32 => ?_)
      refine z_cw hp32.2 ?_
      refine z_istore (lv' := [(5, .int (r30)), (4, .int ((nI (257 * k)) + (f (i)))), (3, .int (nI i)), (2, .int (nI k)), (0, .ref (ad (31))), (1, .ref (ad (3 + 2 * now)))]) C dX1_writeDown_37 (by decide) rfl ?_
      refine z_iload C dX1_writeDown_39 0 rfl ?_
      refine z_if_ne (tgt := 50) C dX1_writeDown_41 (by decide) (fun c33 => ?_) (fun c33 => ?_)
      · skip
        obtain ⟨i2, b1, b2, b3, b4, b5⟩ : ∃ i2, k ≤ i2 ∧ i2 < wk.length ∧ vf i2 = nI (257 * k) + f i ∧ (∀ j, k ≤ j → j < i2 → vf j ≠ nI (257 * k) + f i) ∧ r30 = nI (i2 + 1) := by rcases hp32.1 with h9 | h9; exact h9; exact absurd h9.2 c33
        have hnum : zNum wk (nI (257 * k) + f i) k = i2 + 1 := zNum_some b1 (by rw [v4 i2 b2, b3]) (fun j h1 h2 h3 => b4 j h1 h2 (by rw [v4 j (by omega)] at h3; exact Option.some.inj h3))
        rw [hnum, if_neg (by omega)] at hz
        refine z_iload C dX1_writeDown_50 0 rfl ?_
        refine z_istore_n (lv' := [(2, .int (r30)), (5, .int (r30)), (4, .int ((nI (257 * k)) + (f (i)))), (3, .int (nI i)), (0, .ref (ad (31))), (1, .ref (ad (3 + 2 * now)))]) C dX1_writeDown_52 rfl (by decide) rfl ?_
        refine z_iinc (x := nI (i + 1)) (lv' := [(3, .int (nI (i + 1))), (2, .int (r30)), (5, .int (r30)), (4, .int ((nI (257 * k)) + (f (i)))), (0, .ref (ad (31))), (1, .ref (ad (3 + 2 * now)))]) C dX1_writeDown_53 3 rfl (nI_1 i) (by decide) rfl ?_
        refine z_goto (tgt := 9) C dX1_writeDown_56 (by decide) ?_
        rw [b5]
        refine z_lv (lv' := [(3, .int (nI (i + 1))), (2, .int (nI (i2 + 1))), (0, .ref (ad (31))), (1, .ref (ad (3 + 2 * now)))]) [0, 1, 4, 5] rfl ?_
        exact ih (i + 1) (i2 + 1) wk _ (by omega) (by omega) (by rw [if_pos (by omega)]; omega) hz hWk hfrm
      · skip
        have hall : ∀ j, k ≤ j → j < wk.length → vf j ≠ nI (257 * k) + f i := by rcases hp32.1 with ⟨i2, b1, b2, b3, b4, b5⟩ | h9; exact absurd (b5.symm.trans c33) (nI_ne0 (by omega) (by omega)); exact h9.1
        have hnum : zNum wk (nI (257 * k) + f i) k = 0 := zNum_none (fun j h1 h2 h3 => hall j h1 h2 (by rw [v4 j h2] at h3; exact Option.some.inj h3))
        rw [if_pos hnum] at hz
        refine z_aload_n C dX1_writeDown_44 4 rfl ?_
        refine z_iload C dX1_writeDown_45 1 rfl ?_
        refine z_callv (z_runV (As := [.int ((nI (257 * k) + f (i)))]) (rest := []) C (c_Phr_addWord l D cI cR cL B N ad cwk (by omega) v1 v3 (by omega) ((nI (257 * k) + f (i)))) (cwV 1 C.2.2.2.2.1 gX1_writeDown_X1_addWord rfl rfl rfl (by decide +kernel) ⟨Nat.le_of_ble_eq_true rfl, Nat.le_of_ble_eq_true rfl⟩) (by omega) v1 rfl rfl rfl rfl (Nat.le_of_ble_eq_true rfl) dX1_writeDown_47 ⟨Nat.le_of_ble_eq_true rfl, Nat.le_of_ble_eq_true rfl⟩) (fun cw34 hp35 => ?_)
        have hw_36 : cw34 (3 + 2 * now) = .inr (2, [.ref (ad (4 + 2 * now)), .int (nI (xs.length))]) := by rw [hp35, va_up_ne _ _ (by omega), va_up_ne _ _ (by omega)]; exact hk_21
        have hw_37 : cw34 (4 + 2 * now) = .inl (cI, 240, .inl (f)) := by rw [hp35, va_up_ne _ _ (by omega), va_up_ne _ _ (by omega)]; exact hk_22
        have hw_38 : cw34 (31) = .inr (1, [.ref (ad (32)), .ref (ad (33)), .int (nI (wk.length + 1))]) := by rw [hp35, va_up_self]
        have hw_39 : cw34 (32) = .inl (cI, 240, .inl (upd (vf) (wk.length) ((nI (257 * k) + f (i))))) := by rw [hp35, va_up_ne _ _ (by decide), va_up_self]
        have hw_40 : cw34 (33) = .inl (cI, 241, .inl (v6)) := by rw [hp35, va_up_ne _ _ (by decide), va_up_ne _ _ (by decide)]; exact v5
        refine z_iload C dX1_writeDown_50 0 rfl ?_
        refine z_istore_n (lv' := [(2, .int (r30)), (5, .int (r30)), (4, .int ((nI (257 * k)) + (f (i)))), (3, .int (nI i)), (0, .ref (ad (31))), (1, .ref (ad (3 + 2 * now)))]) C dX1_writeDown_52 rfl (by decide) rfl ?_
        refine z_iinc (x := nI (i + 1)) (lv' := [(3, .int (nI (i + 1))), (2, .int (r30)), (5, .int (r30)), (4, .int ((nI (257 * k)) + (f (i)))), (0, .ref (ad (31))), (1, .ref (ad (3 + 2 * now)))]) C dX1_writeDown_53 3 rfl (nI_1 i) (by decide) rfl ?_
        refine z_goto (tgt := 9) C dX1_writeDown_56 (by decide) ?_
        rw [show r30 = nI 0 from c33]
        refine z_lv (lv' := [(3, .int (nI (i + 1))), (2, .int (nI 0)), (0, .ref (ad (31))), (1, .ref (ad (3 + 2 * now)))]) [0, 1, 4, 5] rfl ?_
        exact ih (i + 1) 0 (wk ++ [nI (257 * k) + f i]) _ (by omega) (Nat.zero_le _) (by rw [if_neg (by omega), List.length_append]; show wk.length + 1 + 0 ≤ _; omega) hz ⟨by rw [hw_38, List.length_append]; rfl, by rw [List.length_append]; show wk.length + 1 ≤ _; omega, ⟨_, hw_39, zIs_add v4 _⟩, _, hw_40⟩ (fun j hj => by rw [hp35, va_up_ne _ _ (by omega), va_up_ne _ _ (by omega)]; exact hfrm j hj)

theorem qX3_snapshot_0 : ∀ w ∈ wsX30, w ∈ wsX3_snapshot := by decide +kernel
theorem qX3_snapshot_1 : Cond.fieldLink RX3 28 "PieceText" "written" "LPieceText$Phrases;" ∈ wsX3_snapshot := by decide +kernel
theorem qX3_snapshot_2 : Cond.fieldLink RX3 10 "PieceText" "history" "LPieceText$History;" ∈ wsX3_snapshot := by decide +kernel
set_option maxHeartbeats 4000000 in
set_option maxRecDepth 100000 in
theorem c_PT_snapshot (l : Launch) (D : va_G) (cI cR cL : ClassId) (B N : Nat) (ad : Nat → Nat) (cw : Nat → va_E) (hN : 45 < N) {past fut : Nat} {hs : Nat → List Int32} {pat ws dr : List Int32} (hX : zRX cI cR ad cw past fut hs pat ws dr) : Met l yX3_snapshot wsX3_snapshot ({ frames := 2, cells := 0, slots := 0, locals := 48 } : Room) (va_Pc [.ref (ad (0))] (zI D vwCl (zTy cI cR cL) B N ad cw)) (zQi D vwCl B N ad (fun (v : Int32) (cw' : Nat → va_E) => v = nI (sLz (hs past) 0 []).length ∧ zRX cI cR ad cw' past fut hs pat (sLz (hs past) 0 []) dr ∧ ∀ j, 37 ≤ j → cw' j = cw j)) 0 0 (zA B) := by
  obtain ⟨x0, ⟨now, hH⟩, ⟨fr, ht, hfr⟩, ⟨p1, p2, pf, p3, p4⟩, ⟨w1, w2, ⟨wf, w3, w4⟩, sf, w5⟩, ⟨d1, d2, g, d3, d4⟩, nf, x6⟩ := id hX
  obtain ⟨g1, g2, g3, g4, g5, g6⟩ := id hH
  obtain ⟨t1, t2, f, t3, t4⟩ := zHist_now hH
  refine z_ofW (cc := cX3_snapshot) (maxL := 1) (ret := (some .int)) (by decide) rfl (Nat.le_of_ble_eq_true rfl) ?_
  intro p e s m args below meth c C hr hnm
  refine z_lv (lv' := [(0, .ref (ad (0)))]) [0] rfl ?_
  refine z_aload_n C dX3_snapshot_0 0 rfl ?_
  refine z_get (Cn := RX3) (T := TX3) (NF := 5) (ci := 3) (v := .ref (ad (31))) C qX3_snapshot_0 rfl 2 (by decide) (C.2.2.2.2.1 _ qX3_snapshot_1) (fun _ h9 => h9) dX3_snapshot_1 (0) (by omega) x0 rfl ?_
  refine z_aload_n C dX3_snapshot_4 0 rfl ?_
  refine z_get (Cn := RX3) (T := TX3) (NF := 5) (ci := 3) (v := .ref (ad (1))) C qX3_snapshot_0 rfl 0 (by decide) (C.2.2.2.2.1 _ qX3_snapshot_2) (fun _ h9 => h9) dX3_snapshot_5 (0) (by omega) x0 rfl ?_
  refine z_callr (z_runV (As := []) (rest := [.ref (ad (31))]) C (c_Hist_present l D cI cR cL B N ad cw (by omega) g3 (by omega) ht hfr g1) (cwV 0 C.2.2.2.2.1 gX3_snapshot_X0_present rfl rfl rfl (by decide +kernel) ⟨Nat.le_of_ble_eq_true rfl, Nat.le_of_ble_eq_true rfl⟩) (by omega) g3 rfl rfl rfl rfl (Nat.le_of_ble_eq_true rfl) dX3_snapshot_8 ⟨Nat.le_of_ble_eq_true rfl, Nat.le_of_ble_eq_true rfl⟩) (fun r1 cw2 hp3 => ?_)
  obtain ⟨rfl, hp3c⟩ := hp3
  refine z_cw hp3c ?_
  refine z_callv (z_runV (As := [.ref (ad (3 + 2 * now))]) (rest := []) C (c_Phr_writeDown l D cI cR cL B N ad cw hN g1 (zHist_now hH) hX.2.2.2.2.1) (cwV 1 C.2.2.2.2.1 gX3_snapshot_X1_writeDown rfl rfl rfl (by decide +kernel) ⟨Nat.le_of_ble_eq_true rfl, Nat.le_of_ble_eq_true rfl⟩) (by omega) w1 rfl rfl rfl rfl (Nat.le_of_ble_eq_true rfl) dX3_snapshot_11 ⟨Nat.le_of_ble_eq_true rfl, Nat.le_of_ble_eq_true rfl⟩) (fun cw4 hp5 => ?_)
  have hw_6 : cw4 (0) = .inr (3, [.ref (ad (1)), .ref (ad (29)), .ref (ad (31)), .ref (ad (34)), .ref (ad (36))]) := by rw [hp5.2 (0) (by omega)]; exact x0
  have hw_7 : cw4 (1) = .inr (0, [.ref (ad (2)), .int (nI now), .int (nI past), .int (nI fut)]) := by rw [hp5.2 (1) (by omega)]; exact g3
  have hw_8 : cw4 (2) = .inl (cR, 13, .inr (.inr (.inr (.inr (fr))))) := by rw [hp5.2 (2) (by omega)]; exact ht
  have hw_9 : cw4 (31) = .inr (1, [.ref (ad (32)), .ref (ad (33)), .int (nI ((sLz (hs past) 0 []).length))]) := hp5.1.1
  refine z_aload_n C dX3_snapshot_14 0 rfl ?_
  refine z_get (Cn := RX3) (T := TX3) (NF := 5) (ci := 3) (v := .ref (ad (31))) C qX3_snapshot_0 rfl 2 (by decide) (C.2.2.2.2.1 _ qX3_snapshot_1) (fun _ h9 => h9) dX3_snapshot_15 (0) (by omega) hw_6 rfl ?_
  refine z_calli (z_runV (As := []) (rest := []) C (c_Phr_size l D cI cR cL B N ad cw4 (by omega) hw_9) (cwV 0 C.2.2.2.2.1 gX3_snapshot_X1_size rfl rfl rfl (by decide +kernel) ⟨Nat.le_of_ble_eq_true rfl, Nat.le_of_ble_eq_true rfl⟩) (by omega) hw_9 rfl rfl rfl rfl (Nat.le_of_ble_eq_true rfl) dX3_snapshot_18 ⟨Nat.le_of_ble_eq_true rfl, Nat.le_of_ble_eq_true rfl⟩) (fun r10 cw11 hp12 => ?_)
  refine z_cw hp12.2 ?_
  refine z_top hp12.1 ?_
  exact z_iret C hr dX3_snapshot_21 (⟨rfl, zRX_words hX (fun j hj => hp5.2 j (by omega)) hp5.1, fun j hj => hp5.2 j (by omega)⟩) (Nat.le_of_ble_eq_true rfl) (Nat.le_of_ble_eq_true rfl)

