theorem qX4_occurs_0 : ∀ w ∈ wsX40, w ∈ wsX4_occurs := by decide +kernel
theorem qX4_occurs_1 : Cond.fieldLink RX4 69 "PieceTextModel" "patternSize" "I" ∈ wsX4_occurs := by decide +kernel
theorem qX4_occurs_2 : Cond.fieldLink RX4 19 "PieceTextModel" "pattern" "[I" ∈ wsX4_occurs := by decide +kernel
set_option maxHeartbeats 4000000 in
set_option maxRecDepth 100000 in
theorem c_M_occurs (l : Launch) (D : va_G) (cI cR cL : ClassId) (B N : Nat) (ad : Nat → Nat) (cw : Nat → va_E) (hN : 45 < N) {past fut : Nat} {hs : Nat → List Int32} {pat ws : List Int32} {th dn : Int32} (hM : zRM cI ad cw past fut hs pat ws th dn) {q : Nat} (hq : q ≤ (hs past).length) : Met l yX4_occurs wsX4_occurs ({ frames := 1, cells := 0, slots := 0, locals := 21 } : Room) (va_Pc [.ref (ad (37)), .int (nI q)] (zI D vwCl (zTy cI cR cL) B N ad cw)) (zQi D vwCl B N ad (fun (v : Int32) (cw' : Nat → va_E) => ((v = nI 1 ∧ lOcc (hs past) pat q) ∨ (v = nI 0 ∧ ¬ lOcc (hs past) pat q)) ∧ cw' = cw)) 0 0 (zA B) := by
  obtain ⟨m1, ⟨m2, tf, lf, m3, m4, m5⟩, ⟨df, m6⟩, ⟨m7, pf, m8, m9⟩, ⟨m10, wf, m11, m12⟩, ⟨bf, m13⟩, zf, m14⟩ := id hM
  obtain ⟨k1, k2, k3⟩ := m5 past (by omega)
  refine z_ofW (cc := cX4_occurs) (maxL := 4) (ret := (some .boolean)) (by decide) rfl (Nat.le_of_ble_eq_true rfl) ?_
  intro p e s m args below meth c C hr hnm
  refine z_lv (lv' := [(0, .ref (ad (37))), (1, .int (nI q))]) [0, 1] rfl ?_
  have hif := lOcc_iff k3 m9 hq
  have exit0 : ¬ lOcc (hs past) pat q → ∀ i, i ≤ pat.length → zG p l e (headSpec wsX4_occurs ({ frames := 1, cells := 0, slots := 0, locals := 21 } : Room)).room s m args below meth c (MQ below (zQi D vwCl B N ad (fun (v : Int32) (cw' : Nat → va_E) => ((v = nI 1 ∧ lOcc (hs past) pat q) ∨ (v = nI 0 ∧ ¬ lOcc (hs past) pat q)) ∧ cw' = cw)) args s 0 0 (zA B)) D vwCl B 4 N ad cw 0 0 [(3, .int (nI i)), (2, .int (nI 0)), (0, .ref (ad (37))), (1, .int (nI q))] 21 [] := by
    intro hno i hi
    refine z_iload_n C dX4_occurs_21 0 rfl ?_
    refine z_aload_n C dX4_occurs_22 2 rfl ?_
    refine z_get (Cn := RX4) (T := TX4) (NF := 13) (ci := 4) (v := .int (nI (pat.length))) C qX4_occurs_0 rfl 8 (by decide) (C.2.2.2.2.1 _ qX4_occurs_1) (fun _ h9 => h9) dX4_occurs_23 (37) (by omega) m1 rfl ?_
    refine z_icmp_ge (tgt := 61) C dX4_occurs_26 (by decide) (fun c1 => ?_) (fun c1 => ?_)
    · skip
      refine z_iload_n C dX4_occurs_61 1 rfl ?_
      exact z_zret C hr (by decide) dX4_occurs_62 (⟨Or.inr ⟨rfl, hno⟩, rfl⟩) (Nat.le_of_ble_eq_true rfl) (Nat.le_of_ble_eq_true rfl)
    · skip
      refine z_iload_n C dX4_occurs_29 1 rfl ?_
      refine z_if_eq (tgt := 61) C dX4_occurs_30 (by decide) (fun c2 => ?_) (fun c2 => (c2 (by decide)).elim)
      refine z_iload_n C dX4_occurs_61 1 rfl ?_
      exact z_zret C hr (by decide) dX4_occurs_62 (⟨Or.inr ⟨rfl, hno⟩, rfl⟩) (Nat.le_of_ble_eq_true rfl) (Nat.le_of_ble_eq_true rfl)
  refine z_iload_n C dX4_occurs_0 1 rfl ?_
  refine z_aload_n C dX4_occurs_1 0 rfl ?_
  refine z_get (Cn := RX4) (T := TX4) (NF := 13) (ci := 4) (v := .int (nI (pat.length))) C qX4_occurs_0 rfl 8 (by decide) (C.2.2.2.2.1 _ qX4_occurs_1) (fun _ h9 => h9) dX4_occurs_2 (37) (by omega) m1 rfl ?_
  refine z_iadd C dX4_occurs_5 ?_
  refine z_top (y := nI (q + pat.length)) (nI_add _ _) ?_
  refine z_aload_n C dX4_occurs_6 0 rfl ?_
  refine z_calli (z_runV (As := []) (rest := [.int (nI (q + pat.length))]) C (c_M_length l D cI cR cL B N ad cw hN m1 m4 (by omega) (k2)) (cwV 0 C.2.2.2.2.1 gX4_occurs_X4_length rfl rfl rfl (by decide +kernel) ⟨Nat.le_of_ble_eq_true rfl, Nat.le_of_ble_eq_true rfl⟩) (by omega) m1 rfl rfl rfl rfl (Nat.le_of_ble_eq_true rfl) dX4_occurs_7 ⟨Nat.le_of_ble_eq_true rfl, Nat.le_of_ble_eq_true rfl⟩) (fun r3 cw4 hp5 => ?_)
  refine z_cw hp5.2 ?_
  refine z_top hp5.1 ?_
  refine z_icmp_gt (tgt := 17) C dX4_occurs_10 (by decide) (fun c6 => ?_) (fun c6 => ?_)
  · skip
    have hno : ¬ lOcc (hs past) pat q := fun h9 => by have h8 := lOcc_le h9 hq; exact absurd ((nI_ltI (by omega) (by omega)).mp c6) (by omega)
    refine z_iconst (v := nI 0) C dX4_occurs_17 (by decide) ?_
    refine z_istore_n (lv' := [(2, .int (nI 0)), (0, .ref (ad (37))), (1, .int (nI q))]) C dX4_occurs_18 rfl (by decide) rfl ?_
    refine z_iconst (v := nI 0) C dX4_occurs_19 (by decide) ?_
    refine z_istore_n (lv' := [(3, .int (nI 0)), (2, .int (nI 0)), (0, .ref (ad (37))), (1, .int (nI q))]) C dX4_occurs_20 rfl (by decide) rfl ?_
    refine z_lv (lv' := [(3, .int (nI 0)), (2, .int (nI 0)), (0, .ref (ad (37))), (1, .int (nI q))]) [0, 1, 2, 3] rfl ?_
    exact exit0 hno 0 (Nat.zero_le _)
  · skip
    have hle : q + pat.length ≤ (hs past).length := by rcases Nat.lt_or_ge (hs past).length (q + pat.length) with h9 | h9; exact absurd (nI_lt h9 (by omega)) c6; exact h9
    refine z_iconst (v := nI 1) C dX4_occurs_13 (by decide) ?_
    refine z_goto (tgt := 18) C dX4_occurs_14 (by decide) ?_
    refine z_istore_n (lv' := [(2, .int (nI 1)), (0, .ref (ad (37))), (1, .int (nI q))]) C dX4_occurs_18 rfl (by decide) rfl ?_
    refine z_iconst (v := nI 0) C dX4_occurs_19 (by decide) ?_
    refine z_istore_n (lv' := [(3, .int (nI 0)), (2, .int (nI 1)), (0, .ref (ad (37))), (1, .int (nI q))]) C dX4_occurs_20 rfl (by decide) rfl ?_
    refine z_lv (lv' := [(3, .int (nI 0)), (2, .int (nI 1)), (0, .ref (ad (37))), (1, .int (nI q))]) [0, 1, 2, 3] rfl ?_
    suffices loop : ∀ (mm i : Nat), pat.length = i + mm → (∀ j, j < i → tf (240 * past + (q + j)) = pf j) → zG p l e (headSpec wsX4_occurs ({ frames := 1, cells := 0, slots := 0, locals := 21 } : Room)).room s m args below meth c (MQ below (zQi D vwCl B N ad (fun (v : Int32) (cw' : Nat → va_E) => ((v = nI 1 ∧ lOcc (hs past) pat q) ∨ (v = nI 0 ∧ ¬ lOcc (hs past) pat q)) ∧ cw' = cw)) args s 0 0 (zA B)) D vwCl B 4 N ad cw 0 0 [(3, .int (nI i)), (2, .int (nI 1)), (0, .ref (ad (37))), (1, .int (nI q))] 21 [] from loop pat.length 0 (by omega) (fun j hj => absurd hj (by omega))
    intro mm
    induction mm with
    | zero =>
      intro i hi hpre
      refine z_iload_n C dX4_occurs_21 0 rfl ?_
      refine z_aload_n C dX4_occurs_22 2 rfl ?_
      refine z_get (Cn := RX4) (T := TX4) (NF := 13) (ci := 4) (v := .int (nI (pat.length))) C qX4_occurs_0 rfl 8 (by decide) (C.2.2.2.2.1 _ qX4_occurs_1) (fun _ h9 => h9) dX4_occurs_23 (37) (by omega) m1 rfl ?_
      refine z_icmp_ge (tgt := 61) C dX4_occurs_26 (by decide) (fun c7 => ?_) (fun c7 => ?_)
      · skip
        refine z_iload_n C dX4_occurs_61 1 rfl ?_
        exact z_zret C hr (by decide) dX4_occurs_62 (⟨Or.inl ⟨rfl, hif.mp ⟨hle, fun j hj => hpre j (by omega)⟩⟩, rfl⟩) (Nat.le_of_ble_eq_true rfl) (Nat.le_of_ble_eq_true rfl)
      · skip
        exact absurd (nI_le (by omega) (by omega)) c7
    | succ mm ih =>
      intro i hi hpre
      refine z_iload_n C dX4_occurs_21 0 rfl ?_
      refine z_aload_n C dX4_occurs_22 2 rfl ?_
      refine z_get (Cn := RX4) (T := TX4) (NF := 13) (ci := 4) (v := .int (nI (pat.length))) C qX4_occurs_0 rfl 8 (by decide) (C.2.2.2.2.1 _ qX4_occurs_1) (fun _ h9 => h9) dX4_occurs_23 (37) (by omega) m1 rfl ?_
      refine z_icmp_ge (tgt := 61) C dX4_occurs_26 (by decide) (fun c8 => ?_) (fun c8 => ?_)
      · skip
        exact absurd ((nI_leI (by omega) (by omega)).mp c8) (by omega)
      · skip
        refine z_iload_n C dX4_occurs_29 1 rfl ?_
        refine z_if_eq (tgt := 61) C dX4_occurs_30 (by decide) (fun c9 => absurd c9 (by decide)) (fun c9 => ?_)
        refine z_aload_n C dX4_occurs_33 2 rfl ?_
        refine z_iload_n C dX4_occurs_34 3 rfl ?_
        refine z_iload_n C dX4_occurs_35 0 rfl ?_
        refine z_iadd C dX4_occurs_36 ?_
        refine z_top (y := nI (q + i)) (nI_add _ _) ?_
        refine z_calli (z_runV (As := [.int (nI (q + i))]) (rest := []) C (c_M_charAt l D cI cR cL B N ad cw hN m1 m3 (i := q + i) (by omega)) (cwV 1 C.2.2.2.2.1 gX4_occurs_X4_charAt rfl rfl rfl (by decide +kernel) ⟨Nat.le_of_ble_eq_true rfl, Nat.le_of_ble_eq_true rfl⟩) (by omega) m1 rfl rfl rfl rfl (Nat.le_of_ble_eq_true rfl) dX4_occurs_37 ⟨Nat.le_of_ble_eq_true rfl, Nat.le_of_ble_eq_true rfl⟩) (fun r10 cw11 hp12 => ?_)
        refine z_cw hp12.2 ?_
        refine z_top hp12.1 ?_
        refine z_aload_n C dX4_occurs_40 2 rfl ?_
        refine z_get (Cn := RX4) (T := TX4) (NF := 13) (ci := 4) (v := .ref (ad (41))) C qX4_occurs_0 rfl 7 (by decide) (C.2.2.2.2.1 _ qX4_occurs_2) (fun _ h9 => h9) dX4_occurs_41 (37) (by omega) m1 rfl ?_
        refine z_iload_n C dX4_occurs_44 0 rfl ?_
        refine z_iald C 0 rfl dX4_occurs_45 (41) (by omega) m8 (i) (rfl) (by omega) (by decide) ?_
        refine z_icmp_ne (tgt := 53) C dX4_occurs_46 (by decide) (fun c13 => ?_) (fun c13 => ?_)
        · skip
          have hno : ¬ lOcc (hs past) pat q := fun h9 => c13 ((hif.mpr h9).2 i (by omega))
          refine z_iconst (v := nI 0) C dX4_occurs_53 (by decide) ?_
          refine z_istore_n (lv' := [(2, .int (nI 0)), (3, .int (nI i)), (0, .ref (ad (37))), (1, .int (nI q))]) C dX4_occurs_54 rfl (by decide) rfl ?_
          refine z_iinc (x := nI (i + 1)) (lv' := [(3, .int (nI (i + 1))), (2, .int (nI 0)), (0, .ref (ad (37))), (1, .int (nI q))]) C dX4_occurs_55 1 rfl (nI_1 i) (by decide) rfl ?_
          refine z_goto (tgt := 21) C dX4_occurs_58 (by decide) ?_
          refine z_lv (lv' := [(3, .int (nI (i + 1))), (2, .int (nI 0)), (0, .ref (ad (37))), (1, .int (nI q))]) [0, 1, 2, 3] rfl ?_
          exact exit0 hno (i + 1) (by omega)
        · skip
          refine z_iconst (v := nI 1) C dX4_occurs_49 (by decide) ?_
          refine z_goto (tgt := 54) C dX4_occurs_50 (by decide) ?_
          refine z_istore_n (lv' := [(2, .int (nI 1)), (3, .int (nI i)), (0, .ref (ad (37))), (1, .int (nI q))]) C dX4_occurs_54 rfl (by decide) rfl ?_
          refine z_iinc (x := nI (i + 1)) (lv' := [(3, .int (nI (i + 1))), (2, .int (nI 1)), (0, .ref (ad (37))), (1, .int (nI q))]) C dX4_occurs_55 1 rfl (nI_1 i) (by decide) rfl ?_
          refine z_goto (tgt := 21) C dX4_occurs_58 (by decide) ?_
          refine z_lv (lv' := [(3, .int (nI (i + 1))), (2, .int (nI 1)), (0, .ref (ad (37))), (1, .int (nI q))]) [0, 1, 2, 3] rfl ?_
          exact ih (i + 1) (by omega) (fun j hj => by by_cases h9 : j = i; rw [h9]; exact c13; exact hpre j (by omega))

theorem qX4_find_0 : ∀ w ∈ wsX40, w ∈ wsX4_find := by decide +kernel
theorem qX4_find_1 : Cond.fieldLink RX4 31 "PieceTextModel" "thrown" "I" ∈ wsX4_find := by decide +kernel
set_option maxHeartbeats 4000000 in
set_option maxRecDepth 100000 in
theorem c_M_find (l : Launch) (D : va_G) (cI cR cL : ClassId) (B N : Nat) (ad : Nat → Nat) (cw : Nat → va_E) (hN : 45 < N) {past fut : Nat} {hs : Nat → List Int32} {pat ws : List Int32} {th dn : Int32} (hM : zRM cI ad cw past fut hs pat ws th dn) (x : Int32) : Met l yX4_find wsX4_find ({ frames := 2, cells := 0, slots := 0, locals := 44 } : Room) (va_Pc [.ref (ad (37)), .int (x)] (zI D vwCl (zTy cI cR cL) B N ad cw)) (zQi D vwCl B N ad (fun (v : Int32) (cw' : Nat → va_E) => ((zRM cI ad cw' past fut hs pat ws (nI 1) dn ∧ ¬ (∃ q, q ≤ (hs past).length ∧ x = nI q)) ∨ (∃ q, q ≤ (hs past).length ∧ x = nI q ∧ sFind (hs past) pat q v ∧ zRM cI ad cw' past fut hs pat ws (nI 0) dn)) ∧ ∀ j, (j < 37 ∨ 45 ≤ j) → cw' j = cw j)) 0 0 (zA B) := by
  obtain ⟨m1, ⟨m2, tf, lf, m3, m4, m5⟩, ⟨df, m6⟩, ⟨m7, pf, m8, m9⟩, ⟨m10, wf, m11, m12⟩, ⟨bf, m13⟩, zf, m14⟩ := id hM
  obtain ⟨k1, k2, k3⟩ := m5 past (by omega)
  refine z_ofW (cc := cX4_find) (maxL := 3) (ret := (some .int)) (by decide) rfl (Nat.le_of_ble_eq_true rfl) ?_
  intro p e s m args below meth c C hr hnm
  refine z_lv (lv' := [(0, .ref (ad (37))), (1, .int (x))]) [0, 1] rfl ?_
  refine z_aload_n C dX4_find_0 0 rfl ?_
  refine z_iload_n C dX4_find_1 1 rfl ?_
  refine z_i2l C dX4_find_2 rfl ?_
  refine z_lconst (v := 0) C dX4_find_3 rfl ?_
  refine z_aload_n C dX4_find_4 0 rfl ?_
  refine z_calli (z_runV (As := []) (rest := [.long (0), .long (x).toInt64, .ref (ad (37))]) C (c_M_length l D cI cR cL B N ad cw hN m1 m4 (by omega) (k2)) (cwV 0 C.2.2.2.2.1 gX4_find_X4_length rfl rfl rfl (by decide +kernel) ⟨Nat.le_of_ble_eq_true rfl, Nat.le_of_ble_eq_true rfl⟩) (by omega) m1 rfl rfl rfl rfl (Nat.le_of_ble_eq_true rfl) dX4_find_5 ⟨Nat.le_of_ble_eq_true rfl, Nat.le_of_ble_eq_true rfl⟩) (fun r1 cw2 hp3 => ?_)
  refine z_cw hp3.2 ?_
  refine z_top hp3.1 ?_
  refine z_i2l C dX4_find_8 rfl ?_
  refine z_calli (z_runS (As := [.long (x.toInt64), .long (0), .long ((nI (hs past).length).toInt64)]) (rest := [.ref (ad (37))]) C (c_M_isIn l D cI cR cL B N ad cw (x.toInt64) (0) ((nI (hs past).length).toInt64)) (va_cwS 3 C.2.2.2.2.1 gX4_find_X4_isIn rfl rfl rfl (by decide +kernel) ⟨Nat.le_of_ble_eq_true rfl, Nat.le_of_ble_eq_true rfl⟩) rfl rfl (Nat.le_of_ble_eq_true rfl) dX4_find_9 ⟨Nat.le_of_ble_eq_true rfl, Nat.le_of_ble_eq_true rfl⟩) (fun r4 cw5 hp6 => ?_)
  refine z_cw hp6.2 ?_
  refine z_if_eq (tgt := 19) C dX4_find_12 (by decide) (fun c7 => ?_) (fun c7 => ?_)
  · skip
    have nhin : ¬ _ := fun h8 => (by rcases hp6.1 with h9 | h9; exact absurd (h9.1.symm.trans c7) (by decide); exact h9.2 ((z_in0 (x := x) (n := (hs past).length) (by omega)).mpr h8))
    refine z_iconst (v := nI 1) C dX4_find_19 (by decide) ?_
    obtain ⟨cw8, ecw8⟩ : ∃ z : Nat → va_E, z = va_up (cw) (37) (.inr (4, [.int (nI 1), .ref (ad (38)), .ref (ad (39)), .int (nI (past)), .int (nI (fut)), .ref (ad (40)), .int (dn), .ref (ad (41)), .int (nI (pat.length)), .ref (ad (42)), .int (nI (ws.length)), .ref (ad (43)), .ref (ad (44))])) := ⟨_, rfl⟩
    refine z_put (Cn := RX4) (T := TX4) (NF := 13) (ci := 4) (ty := .int) (v := .int (nI 1)) C qX4_find_0 tyX4_ok nmX4 rfl 0 (by decide) (C.2.2.2.2.1 _ qX4_find_1) (fun _ h9 => h9) rfl (by decide +kernel) dX4_find_20 (37) (by omega) m1 rfl rfl (Nat.le_of_ble_eq_true rfl) ?_
    refine z_cw ecw8.symm ?_
    have hw_9 : cw8 (37) = .inr (4, [.int (nI 1), .ref (ad (38)), .ref (ad (39)), .int (nI (past)), .int (nI (fut)), .ref (ad (40)), .int (dn), .ref (ad (41)), .int (nI (pat.length)), .ref (ad (42)), .int (nI (ws.length)), .ref (ad (43)), .ref (ad (44))]) := by rw [ecw8, va_up_self]
    have hw_10 : cw8 (39) = .inl (cI, 13, .inl (lf)) := by rw [ecw8, va_up_ne _ _ (by decide)]; exact m4
    refine z_iload_n C dX4_find_23 1 rfl ?_
    refine z_istore_n (lv' := [(2, .int (x)), (0, .ref (ad (37))), (1, .int (x))]) C dX4_find_24 rfl (by decide) rfl ?_
    refine z_aload_n C dX4_find_25 1 rfl ?_
    refine z_get (Cn := RX4) (T := TX4) (NF := 13) (ci := 4) (v := .int (nI 1)) C qX4_find_0 rfl 0 (by decide) (C.2.2.2.2.1 _ qX4_find_1) (fun _ h9 => h9) dX4_find_26 (37) (by omega) hw_9 rfl ?_
    refine z_if_ne (tgt := 56) C dX4_find_29 (by decide) (fun c11 => ?_) (fun c11 => ?_)
    · skip
      refine z_aload_n C dX4_find_56 1 rfl ?_
      refine z_get (Cn := RX4) (T := TX4) (NF := 13) (ci := 4) (v := .int (nI 1)) C qX4_find_0 rfl 0 (by decide) (C.2.2.2.2.1 _ qX4_find_1) (fun _ h9 => h9) dX4_find_57 (37) (by omega) hw_9 rfl ?_
      refine z_if_le (tgt := 67) C dX4_find_60 (by decide) (fun c12 => absurd c12 (by decide)) (fun c12 => ?_)
      refine z_iconst (v := nI 0) C dX4_find_63 (by decide) ?_
      refine z_goto (tgt := 68) C dX4_find_64 (by decide) ?_
      exact z_iret C hr dX4_find_68 (⟨Or.inl ⟨zRM_obj hM hw_9 (fun j hj => by rw [ecw8, va_up_ne _ _ (by omega)]), nhin⟩, fun j hj => ((fun j hj => by rw [ecw8, va_up_ne _ _ (by omega)]) : ∀ j, (j ≠ 37) → _ = cw j) j (by omega)⟩) (Nat.le_of_ble_eq_true rfl) (Nat.le_of_ble_eq_true rfl)
    · skip
      exact absurd c11 (by decide)
  · skip
    have hin := (z_in0 (x := x) (n := (hs past).length) (by omega)).mp (by rcases hp6.1 with h9 | h9; exact h9.2; exact absurd h9.1 c7)
    obtain ⟨q0, hq0, rfl⟩ := hin
    refine z_iconst (v := nI 0) C dX4_find_15 (by decide) ?_
    refine z_goto (tgt := 20) C dX4_find_16 (by decide) ?_
    obtain ⟨cw13, ecw13⟩ : ∃ z : Nat → va_E, z = va_up (cw) (37) (.inr (4, [.int (nI 0), .ref (ad (38)), .ref (ad (39)), .int (nI (past)), .int (nI (fut)), .ref (ad (40)), .int (dn), .ref (ad (41)), .int (nI (pat.length)), .ref (ad (42)), .int (nI (ws.length)), .ref (ad (43)), .ref (ad (44))])) := ⟨_, rfl⟩
    refine z_put (Cn := RX4) (T := TX4) (NF := 13) (ci := 4) (ty := .int) (v := .int (nI 0)) C qX4_find_0 tyX4_ok nmX4 rfl 0 (by decide) (C.2.2.2.2.1 _ qX4_find_1) (fun _ h9 => h9) rfl (by decide +kernel) dX4_find_20 (37) (by omega) m1 rfl rfl (Nat.le_of_ble_eq_true rfl) ?_
    refine z_cw ecw13.symm ?_
    have hw_14 : cw13 (37) = .inr (4, [.int (nI 0), .ref (ad (38)), .ref (ad (39)), .int (nI (past)), .int (nI (fut)), .ref (ad (40)), .int (dn), .ref (ad (41)), .int (nI (pat.length)), .ref (ad (42)), .int (nI (ws.length)), .ref (ad (43)), .ref (ad (44))]) := by rw [ecw13, va_up_self]
    have hw_15 : cw13 (39) = .inl (cI, 13, .inl (lf)) := by rw [ecw13, va_up_ne _ _ (by decide)]; exact m4
    refine z_iload_n C dX4_find_23 1 rfl ?_
    refine z_istore_n (lv' := [(2, .int (nI q0)), (0, .ref (ad (37))), (1, .int (nI q0))]) C dX4_find_24 rfl (by decide) rfl ?_
    have hM2 := zRM_obj hM hw_14 (fun j hj => by rw [ecw13, va_up_ne _ _ (by omega)])
    refine z_lv (lv' := [(2, .int (nI q0)), (0, .ref (ad (37))), (1, .int (nI q0))]) [0, 1, 2] rfl ?_
    suffices loop : ∀ (mm i : Nat), (hs past).length + 1 = i + mm → q0 ≤ i → (∀ j, q0 ≤ j → j < i → ¬ lOcc (hs past) pat j) → zG p l e (headSpec wsX4_find ({ frames := 2, cells := 0, slots := 0, locals := 44 } : Room)).room s m args below meth c (MQ below (zQi D vwCl B N ad (fun (v : Int32) (cw' : Nat → va_E) => ((zRM cI ad cw' past fut hs pat ws (nI 1) dn ∧ ¬ (∃ q, q ≤ (hs past).length ∧ (nI q0) = nI q)) ∨ (∃ q, q ≤ (hs past).length ∧ (nI q0) = nI q ∧ sFind (hs past) pat q v ∧ zRM cI ad cw' past fut hs pat ws (nI 0) dn)) ∧ ∀ j, (j < 37 ∨ 45 ≤ j) → cw' j = cw j)) args s 0 0 (zA B)) D vwCl B 3 N ad cw13 0 0 [(2, .int (nI i)), (0, .ref (ad (37))), (1, .int (nI q0))] 25 [] from loop ((hs past).length + 1 - q0) q0 (by omega) (Nat.le_refl _) (fun j h1 h2 => absurd h1 (by omega))
    intro mm
    induction mm with
    | zero =>
      intro i hi hqi hpre
      refine z_aload_n C dX4_find_25 1 rfl ?_
      refine z_get (Cn := RX4) (T := TX4) (NF := 13) (ci := 4) (v := .int (nI 0)) C qX4_find_0 rfl 0 (by decide) (C.2.2.2.2.1 _ qX4_find_1) (fun _ h9 => h9) dX4_find_26 (37) (by omega) hw_14 rfl ?_
      refine z_if_ne (tgt := 56) C dX4_find_29 (by decide) (fun c16 => (c16 (by decide)).elim) (fun c16 => ?_)
      refine z_iload_n C dX4_find_32 0 rfl ?_
      refine z_aload_n C dX4_find_33 1 rfl ?_
      refine z_calli (z_runV (As := []) (rest := [.int (nI i)]) C (c_M_length l D cI cR cL B N ad cw13 hN hw_14 hw_15 (by omega) (k2)) (cwV 0 C.2.2.2.2.1 gX4_find_X4_length rfl rfl rfl (by decide +kernel) ⟨Nat.le_of_ble_eq_true rfl, Nat.le_of_ble_eq_true rfl⟩) (by omega) hw_14 rfl rfl rfl rfl (Nat.le_of_ble_eq_true rfl) dX4_find_34 ⟨Nat.le_of_ble_eq_true rfl, Nat.le_of_ble_eq_true rfl⟩) (fun r17 cw18 hp19 => ?_)
      refine z_cw hp19.2 ?_
      refine z_top hp19.1 ?_
      refine z_icmp_gt (tgt := 56) C dX4_find_37 (by decide) (fun c20 => ?_) (fun c20 => ?_)
      · skip
        refine z_aload_n C dX4_find_56 1 rfl ?_
        refine z_get (Cn := RX4) (T := TX4) (NF := 13) (ci := 4) (v := .int (nI 0)) C qX4_find_0 rfl 0 (by decide) (C.2.2.2.2.1 _ qX4_find_1) (fun _ h9 => h9) dX4_find_57 (37) (by omega) hw_14 rfl ?_
        refine z_if_le (tgt := 67) C dX4_find_60 (by decide) (fun c21 => ?_) (fun c21 => (c21 (by decide)).elim)
        refine z_iconst (v := -1) C dX4_find_67 (by decide) ?_
        exact z_iret C hr dX4_find_68 (⟨Or.inr ⟨q0, hq0, rfl, Or.inr ⟨fun j h1 h2 => hpre j h1 (by omega), rfl⟩, hM2⟩, fun j hj => ((fun j hj => by rw [ecw13, va_up_ne _ _ (by omega)]) : ∀ j, (j ≠ 37) → _ = cw j) j (by omega)⟩) (Nat.le_of_ble_eq_true rfl) (Nat.le_of_ble_eq_true rfl)
      · skip
        exact absurd (nI_lt (by omega) (by omega)) c20
    | succ mm ih =>
      intro i hi hqi hpre
      refine z_aload_n C dX4_find_25 1 rfl ?_
      refine z_get (Cn := RX4) (T := TX4) (NF := 13) (ci := 4) (v := .int (nI 0)) C qX4_find_0 rfl 0 (by decide) (C.2.2.2.2.1 _ qX4_find_1) (fun _ h9 => h9) dX4_find_26 (37) (by omega) hw_14 rfl ?_
      refine z_if_ne (tgt := 56) C dX4_find_29 (by decide) (fun c22 => (c22 (by decide)).elim) (fun c22 => ?_)
      refine z_iload_n C dX4_find_32 0 rfl ?_
      refine z_aload_n C dX4_find_33 1 rfl ?_
      refine z_calli (z_runV (As := []) (rest := [.int (nI i)]) C (c_M_length l D cI cR cL B N ad cw13 hN hw_14 hw_15 (by omega) (k2)) (cwV 0 C.2.2.2.2.1 gX4_find_X4_length rfl rfl rfl (by decide +kernel) ⟨Nat.le_of_ble_eq_true rfl, Nat.le_of_ble_eq_true rfl⟩) (by omega) hw_14 rfl rfl rfl rfl (Nat.le_of_ble_eq_true rfl) dX4_find_34 ⟨Nat.le_of_ble_eq_true rfl, Nat.le_of_ble_eq_true rfl⟩) (fun r23 cw24 hp25 => ?_)
      refine z_cw hp25.2 ?_
      refine z_top hp25.1 ?_
      refine z_icmp_gt (tgt := 56) C dX4_find_37 (by decide) (fun c26 => ?_) (fun c26 => ?_)
      · skip
        exact absurd ((nI_ltI (by omega) (by omega)).mp c26) (by omega)
      · skip
        refine z_aload_n C dX4_find_40 1 rfl ?_
        refine z_iload_n C dX4_find_41 0 rfl ?_
        refine z_calli (z_runV (As := [.int (nI i)]) (rest := []) C (c_M_occurs l D cI cR cL B N ad cw13 hN hM2 (q := i) (by omega)) (cwV 1 C.2.2.2.2.1 gX4_find_X4_occurs rfl rfl rfl (by decide +kernel) ⟨Nat.le_of_ble_eq_true rfl, Nat.le_of_ble_eq_true rfl⟩) (by omega) hw_14 rfl rfl rfl rfl (Nat.le_of_ble_eq_true rfl) dX4_find_42 ⟨Nat.le_of_ble_eq_true rfl, Nat.le_of_ble_eq_true rfl⟩) (fun r27 cw28 hp29 => ?_)
        refine z_cw hp29.2 ?_
        refine z_if_eq (tgt := 50) C dX4_find_45 (by decide) (fun c30 => ?_) (fun c30 => ?_)
        · skip
          have hno : ¬ lOcc (hs past) pat i := by rcases hp29.1 with h9 | h9; exact absurd (h9.1.symm.trans c30) (by decide); exact h9.2
          refine z_iinc (x := nI (i + 1)) (lv' := [(2, .int (nI (i + 1))), (0, .ref (ad (37))), (1, .int (nI q0))]) C dX4_find_50 0 rfl (nI_1 i) (by decide) rfl ?_
          refine z_goto (tgt := 25) C dX4_find_53 (by decide) ?_
          refine z_lv (lv' := [(2, .int (nI (i + 1))), (0, .ref (ad (37))), (1, .int (nI q0))]) [0, 1, 2] rfl ?_
          exact ih (i + 1) (by omega) (by omega) (fun j h1 h2 => by rcases Nat.lt_succ_iff_lt_or_eq.mp h2 with h | h; exact hpre j h1 h; rw [h]; exact hno)
        · skip
          have hyes : lOcc (hs past) pat i := by rcases hp29.1 with h9 | h9; exact h9.2; exact absurd h9.1 c30
          refine z_iload_n C dX4_find_48 0 rfl ?_
          exact z_iret C hr dX4_find_49 (⟨Or.inr ⟨q0, hq0, rfl, Or.inl ⟨i, hqi, by omega, hyes, hpre, rfl⟩, hM2⟩, fun j hj => ((fun j hj => by rw [ecw13, va_up_ne _ _ (by omega)]) : ∀ j, (j ≠ 37) → _ = cw j) j (by omega)⟩) (Nat.le_of_ble_eq_true rfl) (Nat.le_of_ble_eq_true rfl)

theorem qX4_replace_0 : Cond.constantLong RX4 56 (255) ∈ wsX4_replace := by decide +kernel
theorem qX4_replace_1 : ∀ w ∈ wsX40, w ∈ wsX4_replace := by decide +kernel
theorem qX4_replace_2 : Cond.fieldLink RX4 69 "PieceTextModel" "patternSize" "I" ∈ wsX4_replace := by decide +kernel
theorem qX4_replace_3 : Cond.fieldLink RX4 31 "PieceTextModel" "thrown" "I" ∈ wsX4_replace := by decide +kernel
theorem qX4_replace_4 : Cond.fieldLink RX4 38 "PieceTextModel" "drafted" "I" ∈ wsX4_replace := by decide +kernel
set_option maxHeartbeats 4000000 in
set_option maxRecDepth 100000 in
theorem c_M_replace (l : Launch) (D : va_G) (cI cR cL : ClassId) (B N : Nat) (ad : Nat → Nat) (cw : Nat → va_E) (hN : 45 < N) {past fut : Nat} {hs : Nat → List Int32} {pat ws : List Int32} {th dn : Int32} (hM : zRM cI ad cw past fut hs pat ws th dn) (x : Int32) : Met l yX4_replace wsX4_replace ({ frames := 2, cells := 0, slots := 0, locals := 44 } : Room) (va_Pc [.ref (ad (37)), .int (x)] (zI D vwCl (zTy cI cR cL) B N ad cw)) (zQi D vwCl B N ad (fun (v : Int32) (cw' : Nat → va_E) => ((zRM cI ad cw' past fut hs pat ws (nI 1) dn ∧ ¬ (∃ q, q < 256 ∧ x = nI q)) ∨ (zRM cI ad cw' past fut hs pat ws (nI 2) dn ∧ (∃ q, q < 256 ∧ x = nI q) ∧ ¬ (0 < pat.length)) ∨ ((∃ q, q < 256 ∧ x = nI q) ∧ 0 < pat.length ∧ v = nI (sRep (hs past) pat x (hs past).length 0 [] 0).2 ∧ zRM cI ad cw' (aPast past) 0 (aHs past hs (sRep (hs past) pat x (hs past).length 0 [] 0).1) pat ws (nI 0) (nI (sRep (hs past) pat x (hs past).length 0 [] 0).1.length))) ∧ ∀ j, (j < 37 ∨ 45 ≤ j) → cw' j = cw j)) 0 0 (zA B) := by
  obtain ⟨m1, ⟨m2, tf, lf, m3, m4, m5⟩, ⟨df, m6⟩, ⟨m7, pf, m8, m9⟩, ⟨m10, wf, m11, m12⟩, ⟨bf, m13⟩, zf, m14⟩ := id hM
  obtain ⟨k1, k2, k3⟩ := m5 past (by omega)
  refine z_ofW (cc := cX4_replace) (maxL := 5) (ret := (some .int)) (by decide) rfl (Nat.le_of_ble_eq_true rfl) ?_
  intro p e s m args below meth c C hr hnm
  refine z_lv (lv' := [(0, .ref (ad (37))), (1, .int (x))]) [0, 1] rfl ?_
  refine z_aload_n C dX4_replace_0 0 rfl ?_
  refine z_iload_n C dX4_replace_1 1 rfl ?_
  refine z_i2l C dX4_replace_2 rfl ?_
  refine z_lconst (v := 0) C dX4_replace_3 rfl ?_
  refine z_ldc2 (v := 255) C (C.2.2.2.2.1 _ qX4_replace_0) dX4_replace_4 ?_
  refine z_calli (z_runS (As := [.long (x.toInt64), .long (0), .long (255)]) (rest := [.ref (ad (37))]) C (c_M_isIn l D cI cR cL B N ad cw (x.toInt64) (0) (255)) (va_cwS 3 C.2.2.2.2.1 gX4_replace_X4_isIn rfl rfl rfl (by decide +kernel) ⟨Nat.le_of_ble_eq_true rfl, Nat.le_of_ble_eq_true rfl⟩) rfl rfl (Nat.le_of_ble_eq_true rfl) dX4_replace_7 ⟨Nat.le_of_ble_eq_true rfl, Nat.le_of_ble_eq_true rfl⟩) (fun r1 cw2 hp3 => ?_)
  refine z_cw hp3.2 ?_
  refine z_if_ne (tgt := 17) C dX4_replace_10 (by decide) (fun c4 => ?_) (fun c4 => ?_)
  · skip
    have hch := (z_in255 (x := x)).mp (by rcases hp3.1 with h9 | h9; exact h9.2; exact absurd h9.1 c4)
    refine z_aload_n C dX4_replace_17 0 rfl ?_
    refine z_get (Cn := RX4) (T := TX4) (NF := 13) (ci := 4) (v := .int (nI (pat.length))) C qX4_replace_1 rfl 8 (by decide) (C.2.2.2.2.1 _ qX4_replace_2) (fun _ h9 => h9) dX4_replace_18 (37) (by omega) m1 rfl ?_
    refine z_if_ne (tgt := 28) C dX4_replace_21 (by decide) (fun c5 => ?_) (fun c5 => ?_)
    · skip
      have hp0 : 0 < pat.length := Nat.pos_of_ne_zero (fun h9 => c5 (by rw [h9]; decide))
      refine z_iconst (v := nI 0) C dX4_replace_28 (by decide) ?_
      obtain ⟨cw6, ecw6⟩ : ∃ z : Nat → va_E, z = va_up (cw) (37) (.inr (4, [.int (nI 0), .ref (ad (38)), .ref (ad (39)), .int (nI (past)), .int (nI (fut)), .ref (ad (40)), .int (dn), .ref (ad (41)), .int (nI (pat.length)), .ref (ad (42)), .int (nI (ws.length)), .ref (ad (43)), .ref (ad (44))])) := ⟨_, rfl⟩
      refine z_put (Cn := RX4) (T := TX4) (NF := 13) (ci := 4) (ty := .int) (v := .int (nI 0)) C qX4_replace_1 tyX4_ok nmX4 rfl 0 (by decide) (C.2.2.2.2.1 _ qX4_replace_3) (fun _ h9 => h9) rfl (by decide +kernel) dX4_replace_29 (37) (by omega) m1 rfl rfl (Nat.le_of_ble_eq_true rfl) ?_
      refine z_cw ecw6.symm ?_
      have hw_7 : cw6 (37) = .inr (4, [.int (nI 0), .ref (ad (38)), .ref (ad (39)), .int (nI (past)), .int (nI (fut)), .ref (ad (40)), .int (dn), .ref (ad (41)), .int (nI (pat.length)), .ref (ad (42)), .int (nI (ws.length)), .ref (ad (43)), .ref (ad (44))]) := by rw [ecw6, va_up_self]
      have hw_8 : cw6 (38) = .inl (cI, 3120, .inl (tf)) := by rw [ecw6, va_up_ne _ _ (by decide)]; exact m3
      have hw_9 : cw6 (39) = .inl (cI, 13, .inl (lf)) := by rw [ecw6, va_up_ne _ _ (by decide)]; exact m4
      have hw_10 : cw6 (40) = .inl (cI, 240, .inl (df)) := by rw [ecw6, va_up_ne _ _ (by decide)]; exact m6
      refine z_aload_n C dX4_replace_32 0 rfl ?_
      refine z_get (Cn := RX4) (T := TX4) (NF := 13) (ci := 4) (v := .int (nI 0)) C qX4_replace_1 rfl 0 (by decide) (C.2.2.2.2.1 _ qX4_replace_3) (fun _ h9 => h9) dX4_replace_33 (37) (by omega) hw_7 rfl ?_
      refine z_if_le (tgt := 41) C dX4_replace_36 (by decide) (fun c11 => ?_) (fun c11 => absurd (show nI 0 ≤ 0 by decide) c11)
      refine z_aload_n C dX4_replace_41 0 rfl ?_
      refine z_iconst (v := nI 0) C dX4_replace_42 (by decide) ?_
      obtain ⟨cw12, ecw12⟩ : ∃ z : Nat → va_E, z = va_up (cw6) (37) (.inr (4, [.int (nI 0), .ref (ad (38)), .ref (ad (39)), .int (nI (past)), .int (nI (fut)), .ref (ad (40)), .int (nI 0), .ref (ad (41)), .int (nI (pat.length)), .ref (ad (42)), .int (nI (ws.length)), .ref (ad (43)), .ref (ad (44))])) := ⟨_, rfl⟩
      refine z_put (Cn := RX4) (T := TX4) (NF := 13) (ci := 4) (ty := .int) (v := .int (nI 0)) C qX4_replace_1 tyX4_ok nmX4 rfl 6 (by decide) (C.2.2.2.2.1 _ qX4_replace_4) (fun _ h9 => h9) rfl (by decide +kernel) dX4_replace_43 (37) (by omega) hw_7 rfl rfl (Nat.le_of_ble_eq_true rfl) ?_
      refine z_cw ecw12.symm ?_
      have hw_13 : cw12 (37) = .inr (4, [.int (nI 0), .ref (ad (38)), .ref (ad (39)), .int (nI (past)), .int (nI (fut)), .ref (ad (40)), .int (nI 0), .ref (ad (41)), .int (nI (pat.length)), .ref (ad (42)), .int (nI (ws.length)), .ref (ad (43)), .ref (ad (44))]) := by rw [ecw12, va_up_self]
      have hw_14 : cw12 (38) = .inl (cI, 3120, .inl (tf)) := by rw [ecw12, va_up_ne _ _ (by decide)]; exact hw_8
      have hw_15 : cw12 (39) = .inl (cI, 13, .inl (lf)) := by rw [ecw12, va_up_ne _ _ (by decide)]; exact hw_9
      have hw_16 : cw12 (40) = .inl (cI, 240, .inl (df)) := by rw [ecw12, va_up_ne _ _ (by decide)]; exact hw_10
      refine z_iconst (v := nI 0) C dX4_replace_46 (by decide) ?_
      refine z_istore_n (lv' := [(2, .int (nI 0)), (0, .ref (ad (37))), (1, .int (x))]) C dX4_replace_47 rfl (by decide) rfl ?_
      refine z_iconst (v := nI 0) C dX4_replace_48 (by decide) ?_
      refine z_istore_n (lv' := [(3, .int (nI 0)), (2, .int (nI 0)), (0, .ref (ad (37))), (1, .int (x))]) C dX4_replace_49 rfl (by decide) rfl ?_
      refine z_lv (lv' := [(3, .int (nI 0)), (2, .int (nI 0)), (0, .ref (ad (37))), (1, .int (x))]) [0, 1, 2, 3] rfl ?_
      suffices loop : ∀ (mm i t : Nat) (o : List Int32) (cwk : Nat → va_E), (hs past).length ≤ i + mm → i ≤ (hs past).length → o.length ≤ i → t ≤ i → (∃ n, (hs past).length ≤ n + i ∧ sRep (hs past) pat x n i o t = sRep (hs past) pat x (hs past).length 0 [] 0) → cwk 37 = .inr (4, [.int (nI 0), .ref (ad (38)), .ref (ad (39)), .int (nI (past)), .int (nI (fut)), .ref (ad (40)), .int (nI (o.length)), .ref (ad (41)), .int (nI (pat.length)), .ref (ad (42)), .int (nI (ws.length)), .ref (ad (43)), .ref (ad (44))]) → (∃ d9, cwk 40 = .inl (cI, 240, .inl (d9)) ∧ zIs d9 o) → (∀ j, (j ≠ 37 ∧ j ≠ 40) → cwk j = cw j) → zG p l e (headSpec wsX4_replace ({ frames := 2, cells := 0, slots := 0, locals := 44 } : Room)).room s m args below meth c (MQ below (zQi D vwCl B N ad (fun (v : Int32) (cw' : Nat → va_E) => ((zRM cI ad cw' past fut hs pat ws (nI 1) dn ∧ ¬ (∃ q, q < 256 ∧ x = nI q)) ∨ (zRM cI ad cw' past fut hs pat ws (nI 2) dn ∧ (∃ q, q < 256 ∧ x = nI q) ∧ ¬ (0 < pat.length)) ∨ ((∃ q, q < 256 ∧ x = nI q) ∧ 0 < pat.length ∧ v = nI (sRep (hs past) pat x (hs past).length 0 [] 0).2 ∧ zRM cI ad cw' (aPast past) 0 (aHs past hs (sRep (hs past) pat x (hs past).length 0 [] 0).1) pat ws (nI 0) (nI (sRep (hs past) pat x (hs past).length 0 [] 0).1.length))) ∧ ∀ j, (j < 37 ∨ 45 ≤ j) → cw' j = cw j)) args s 0 0 (zA B)) D vwCl B 5 N ad cwk 0 0 [(3, .int (nI i)), (2, .int (nI t)), (0, .ref (ad (37))), (1, .int (x))] 50 [] from loop (hs past).length 0 0 [] cw12 (by omega) (Nat.zero_le _) (Nat.le_refl _) (Nat.le_refl _) ⟨_, Nat.le_refl _, rfl⟩ hw_13 ⟨_, hw_16, zIs_nil _⟩ (fun j hj => ((fun j hj => by rw [ecw12, va_up_ne _ _ (by omega)]; rw [ecw6, va_up_ne _ _ (by omega)]) : ∀ j, (j ≠ 37 ∧ j ≠ 40) → _ = cw j) j hj)
      intro mm
      induction mm with
      | zero =>
        intro i t o cwk hi hil ho ht2 hrep q1 q2 hfrm
        obtain ⟨d9, q3, q4⟩ := id q2
        have hMk := zRM_dr hM q1 ⟨d9, q3⟩ hfrm
        obtain ⟨n0, hn1, hn2⟩ := hrep
        have hk_17 : cwk (38) = .inl (cI, 3120, .inl (tf)) := (hfrm (38) (by omega)).trans m3
        have hk_18 : cwk (39) = .inl (cI, 13, .inl (lf)) := (hfrm (39) (by omega)).trans m4
        refine z_iload_n C dX4_replace_50 0 rfl ?_
        refine z_aload_n C dX4_replace_51 2 rfl ?_
        refine z_calli (z_runV (As := []) (rest := [.int (nI i)]) C (c_M_length l D cI cR cL B N ad cwk hN q1 hk_18 (by omega) (k2)) (cwV 0 C.2.2.2.2.1 gX4_replace_X4_length rfl rfl rfl (by decide +kernel) ⟨Nat.le_of_ble_eq_true rfl, Nat.le_of_ble_eq_true rfl⟩) (by omega) q1 rfl rfl rfl rfl (Nat.le_of_ble_eq_true rfl) dX4_replace_52 ⟨Nat.le_of_ble_eq_true rfl, Nat.le_of_ble_eq_true rfl⟩) (fun r19 cw20 hp21 => ?_)
        refine z_cw hp21.2 ?_
        refine z_top hp21.1 ?_
        refine z_icmp_ge (tgt := 117) C dX4_replace_55 (by decide) (fun c22 => ?_) (fun c22 => ?_)
        · skip
          have hge : (hs past).length ≤ i := (nI_leI (by omega) (by omega)).mp c22
          rw [sRep_end hge] at hn2
          refine z_aload_n C dX4_replace_117 2 rfl ?_
          refine z_calli (z_runV (As := []) (rest := []) C (c_M_act l D cI cR cL B N ad cwk hN hMk q3 q4 (by omega)) (cwV 0 C.2.2.2.2.1 gX4_replace_X4_act rfl rfl rfl (by decide +kernel) ⟨Nat.le_of_ble_eq_true rfl, Nat.le_of_ble_eq_true rfl⟩) (by omega) q1 rfl rfl rfl rfl (Nat.le_of_ble_eq_true rfl) dX4_replace_118 ⟨Nat.le_of_ble_eq_true rfl, Nat.le_of_ble_eq_true rfl⟩) (fun r23 cw24 hp25 => ?_)
          refine z_istore (lv' := [(4, .int (r23)), (3, .int (nI i)), (2, .int (nI t)), (0, .ref (ad (37))), (1, .int (x))]) C dX4_replace_121 (by decide) rfl ?_
          refine z_iload_n C dX4_replace_123 2 rfl ?_
          exact z_iret C hr dX4_replace_124 (⟨Or.inr (Or.inr ⟨hch, hp0, by rw [← hn2], by rw [← hn2]; exact hp25.2.1⟩), fun j hj => (hp25.2.2 j (by omega)).trans (hfrm j (by omega))⟩) (Nat.le_of_ble_eq_true rfl) (Nat.le_of_ble_eq_true rfl)
        · skip
          exact absurd (nI_le (by omega) (by omega)) c22
      | succ mm ih =>
        intro i t o cwk hi hil ho ht2 hrep q1 q2 hfrm
        obtain ⟨d9, q3, q4⟩ := id q2
        have hMk := zRM_dr hM q1 ⟨d9, q3⟩ hfrm
        obtain ⟨n0, hn1, hn2⟩ := hrep
        have hk_26 : cwk (38) = .inl (cI, 3120, .inl (tf)) := (hfrm (38) (by omega)).trans m3
        have hk_27 : cwk (39) = .inl (cI, 13, .inl (lf)) := (hfrm (39) (by omega)).trans m4
        refine z_iload_n C dX4_replace_50 0 rfl ?_
        refine z_aload_n C dX4_replace_51 2 rfl ?_
        refine z_calli (z_runV (As := []) (rest := [.int (nI i)]) C (c_M_length l D cI cR cL B N ad cwk hN q1 hk_27 (by omega) (k2)) (cwV 0 C.2.2.2.2.1 gX4_replace_X4_length rfl rfl rfl (by decide +kernel) ⟨Nat.le_of_ble_eq_true rfl, Nat.le_of_ble_eq_true rfl⟩) (by omega) q1 rfl rfl rfl rfl (Nat.le_of_ble_eq_true rfl) dX4_replace_52 ⟨Nat.le_of_ble_eq_true rfl, Nat.le_of_ble_eq_true rfl⟩) (fun r28 cw29 hp30 => ?_)
        refine z_cw hp30.2 ?_
        refine z_top hp30.1 ?_
        refine z_icmp_ge (tgt := 117) C dX4_replace_55 (by decide) (fun c31 => ?_) (fun c31 => ?_)
        · skip
          have hge : (hs past).length ≤ i := (nI_leI (by omega) (by omega)).mp c31
          rw [sRep_end hge] at hn2
          refine z_aload_n C dX4_replace_117 2 rfl ?_
          refine z_calli (z_runV (As := []) (rest := []) C (c_M_act l D cI cR cL B N ad cwk hN hMk q3 q4 (by omega)) (cwV 0 C.2.2.2.2.1 gX4_replace_X4_act rfl rfl rfl (by decide +kernel) ⟨Nat.le_of_ble_eq_true rfl, Nat.le_of_ble_eq_true rfl⟩) (by omega) q1 rfl rfl rfl rfl (Nat.le_of_ble_eq_true rfl) dX4_replace_118 ⟨Nat.le_of_ble_eq_true rfl, Nat.le_of_ble_eq_true rfl⟩) (fun r32 cw33 hp34 => ?_)
          refine z_istore (lv' := [(4, .int (r32)), (3, .int (nI i)), (2, .int (nI t)), (0, .ref (ad (37))), (1, .int (x))]) C dX4_replace_121 (by decide) rfl ?_
          refine z_iload_n C dX4_replace_123 2 rfl ?_
          exact z_iret C hr dX4_replace_124 (⟨Or.inr (Or.inr ⟨hch, hp0, by rw [← hn2], by rw [← hn2]; exact hp34.2.1⟩), fun j hj => (hp34.2.2 j (by omega)).trans (hfrm j (by omega))⟩) (Nat.le_of_ble_eq_true rfl) (Nat.le_of_ble_eq_true rfl)
        · skip
          have hlt : i < (hs past).length := Nat.lt_of_not_le (fun h9 => c31 (nI_le h9 (by omega)))
          obtain ⟨n, rfl⟩ : ∃ z, n0 = z + 1 := Nat.exists_eq_succ_of_ne_zero (by omega)
          refine z_aload_n C dX4_replace_58 2 rfl ?_
          refine z_iload_n C dX4_replace_59 0 rfl ?_
          refine z_calli (z_runV (As := [.int (nI i)]) (rest := []) C (c_M_occurs l D cI cR cL B N ad cwk hN hMk (q := i) (by omega)) (cwV 1 C.2.2.2.2.1 gX4_replace_X4_occurs rfl rfl rfl (by decide +kernel) ⟨Nat.le_of_ble_eq_true rfl, Nat.le_of_ble_eq_true rfl⟩) (by omega) q1 rfl rfl rfl rfl (Nat.le_of_ble_eq_true rfl) dX4_replace_60 ⟨Nat.le_of_ble_eq_true rfl, Nat.le_of_ble_eq_true rfl⟩) (fun r35 cw36 hp37 => ?_)
          refine z_cw hp37.2 ?_
          rcases hp37.1 with ⟨rfl, hyes⟩ | ⟨rfl, hno⟩
          · skip
            have hle := lOcc_le hyes (by omega)
            rw [sRep_yes hlt hyes] at hn2
            refine z_istore (lv' := [(4, .int (nI 1)), (3, .int (nI i)), (2, .int (nI t)), (0, .ref (ad (37))), (1, .int (x))]) C dX4_replace_63 (by decide) rfl ?_
            refine z_aload_n C dX4_replace_65 3 rfl ?_
            refine z_iload C dX4_replace_66 0 rfl ?_
            refine z_if_eq (tgt := 75) C dX4_replace_68 (by decide) (fun c38 => absurd c38 (by decide)) (fun c38 => ?_)
            refine z_iload_n C dX4_replace_71 4 rfl ?_
            refine z_goto (tgt := 80) C dX4_replace_72 (by decide) ?_
            refine z_callv (z_runV (As := [.int (x)]) (rest := []) C (c_M_draftOne l D cI cR cL B N ad cwk hN (n := (o).length) q1 q3 (by omega) (x)) (cwV 1 C.2.2.2.2.1 gX4_replace_X4_draftOne rfl rfl rfl (by decide +kernel) ⟨Nat.le_of_ble_eq_true rfl, Nat.le_of_ble_eq_true rfl⟩) (by omega) q1 rfl rfl rfl rfl (Nat.le_of_ble_eq_true rfl) dX4_replace_80 ⟨Nat.le_of_ble_eq_true rfl, Nat.le_of_ble_eq_true rfl⟩) (fun cw39 hp40 => ?_)
            have hw_41 : cw39 (37) = .inr (4, [.int (nI 0), .ref (ad (38)), .ref (ad (39)), .int (nI (past)), .int (nI (fut)), .ref (ad (40)), .int (nI ((o).length + 1)), .ref (ad (41)), .int (nI (pat.length)), .ref (ad (42)), .int (nI (ws.length)), .ref (ad (43)), .ref (ad (44))]) := by rw [hp40, va_up_self]
            have hw_42 : cw39 (40) = .inl (cI, 240, .inl (upd (d9) ((o).length) (x))) := by rw [hp40, va_up_ne _ _ (by decide), va_up_self]
            have hw_43 : cw39 (38) = .inl (cI, 3120, .inl (tf)) := by rw [hp40, va_up_ne _ _ (by decide), va_up_ne _ _ (by decide)]; exact hk_26
            have hw_44 : cw39 (39) = .inl (cI, 13, .inl (lf)) := by rw [hp40, va_up_ne _ _ (by decide), va_up_ne _ _ (by decide)]; exact hk_27
            have hv_45 : cw39 37 = .inr (4, [.int (nI 0), .ref (ad (38)), .ref (ad (39)), .int (nI (past)), .int (nI (fut)), .ref (ad (40)), .int (nI ((o ++ [x]).length)), .ref (ad (41)), .int (nI (pat.length)), .ref (ad (42)), .int (nI (ws.length)), .ref (ad (43)), .ref (ad (44))]) := by rw [hw_41, len_snoc]
            have hz_46 := zIs_add q4 (x)
            refine z_iload C dX4_replace_83 0 rfl ?_
            refine z_if_eq (tgt := 94) C dX4_replace_85 (by decide) (fun c47 => absurd c47 (by decide)) (fun c47 => ?_)
            refine z_iload_n C dX4_replace_88 2 rfl ?_
            refine z_iconst (v := nI 1) C dX4_replace_89 (by decide) ?_
            refine z_iadd C dX4_replace_90 ?_
            refine z_top (y := nI (t + 1)) (nI_1 t) ?_
            refine z_goto (tgt := 95) C dX4_replace_91 (by decide) ?_
            refine z_istore_n (lv' := [(2, .int (nI (t + 1))), (4, .int (nI 1)), (3, .int (nI i)), (0, .ref (ad (37))), (1, .int (x))]) C dX4_replace_95 rfl (by decide) rfl ?_
            refine z_iload C dX4_replace_96 1 rfl ?_
            refine z_if_eq (tgt := 110) C dX4_replace_98 (by decide) (fun c48 => absurd c48 (by decide)) (fun c48 => ?_)
            refine z_iload_n C dX4_replace_101 2 rfl ?_
            refine z_aload_n C dX4_replace_102 3 rfl ?_
            refine z_get (Cn := RX4) (T := TX4) (NF := 13) (ci := 4) (v := .int (nI (pat.length))) C qX4_replace_1 rfl 8 (by decide) (C.2.2.2.2.1 _ qX4_replace_2) (fun _ h9 => h9) dX4_replace_103 (37) (by omega) hv_45 rfl ?_
            refine z_iadd C dX4_replace_106 ?_
            refine z_top (y := nI (i + pat.length)) (nI_add _ _) ?_
            refine z_goto (tgt := 113) C dX4_replace_107 (by decide) ?_
            refine z_istore_n (lv' := [(3, .int (nI (i + pat.length))), (2, .int (nI (t + 1))), (4, .int (nI 1)), (0, .ref (ad (37))), (1, .int (x))]) C dX4_replace_113 rfl (by decide) rfl ?_
            refine z_goto (tgt := 50) C dX4_replace_114 (by decide) ?_
            refine z_lv (lv' := [(3, .int (nI (i + pat.length))), (2, .int (nI (t + 1))), (0, .ref (ad (37))), (1, .int (x))]) [0, 1, 3, 4] rfl ?_
            exact ih (i + pat.length) (t + 1) (o ++ [x]) _ (by omega) hle (by rw [len_snoc]; omega) (by omega) ⟨n, by omega, hn2⟩ hv_45 ⟨_, hw_42, hz_46⟩ (fun j hj => ((fun j hj => by rw [hp40, va_up_ne _ _ (by omega), va_up_ne _ _ (by omega)]) : ∀ j, (j ≠ 37 ∧ j ≠ 40) → _ = cwk j) j hj |>.trans (hfrm j hj))
          · skip
            rw [sRep_no hlt hno, zIs_getD k3 hlt] at hn2
            refine z_istore (lv' := [(4, .int (nI 0)), (3, .int (nI i)), (2, .int (nI t)), (0, .ref (ad (37))), (1, .int (x))]) C dX4_replace_63 (by decide) rfl ?_
            refine z_aload_n C dX4_replace_65 3 rfl ?_
            refine z_iload C dX4_replace_66 0 rfl ?_
            refine z_if_eq (tgt := 75) C dX4_replace_68 (by decide) (fun c49 => ?_) (fun c49 => (c49 (by decide)).elim)
            refine z_aload_n C dX4_replace_75 3 rfl ?_
            refine z_iload_n C dX4_replace_76 1 rfl ?_
            refine z_calli (z_runV (As := [.int (nI (i))]) (rest := [.ref (ad (37))]) C (c_M_charAt l D cI cR cL B N ad cwk hN q1 hk_26 (i := i) (by omega)) (cwV 1 C.2.2.2.2.1 gX4_replace_X4_charAt rfl rfl rfl (by decide +kernel) ⟨Nat.le_of_ble_eq_true rfl, Nat.le_of_ble_eq_true rfl⟩) (by omega) q1 rfl rfl rfl rfl (Nat.le_of_ble_eq_true rfl) dX4_replace_77 ⟨Nat.le_of_ble_eq_true rfl, Nat.le_of_ble_eq_true rfl⟩) (fun r50 cw51 hp52 => ?_)
            refine z_cw hp52.2 ?_
            refine z_top hp52.1 ?_
            refine z_callv (z_runV (As := [.int (tf (240 * past + i))]) (rest := []) C (c_M_draftOne l D cI cR cL B N ad cwk hN (n := (o).length) q1 q3 (by omega) (tf (240 * past + i))) (cwV 1 C.2.2.2.2.1 gX4_replace_X4_draftOne rfl rfl rfl (by decide +kernel) ⟨Nat.le_of_ble_eq_true rfl, Nat.le_of_ble_eq_true rfl⟩) (by omega) q1 rfl rfl rfl rfl (Nat.le_of_ble_eq_true rfl) dX4_replace_80 ⟨Nat.le_of_ble_eq_true rfl, Nat.le_of_ble_eq_true rfl⟩) (fun cw53 hp54 => ?_)
            have hw_55 : cw53 (37) = .inr (4, [.int (nI 0), .ref (ad (38)), .ref (ad (39)), .int (nI (past)), .int (nI (fut)), .ref (ad (40)), .int (nI ((o).length + 1)), .ref (ad (41)), .int (nI (pat.length)), .ref (ad (42)), .int (nI (ws.length)), .ref (ad (43)), .ref (ad (44))]) := by rw [hp54, va_up_self]
            have hw_56 : cw53 (40) = .inl (cI, 240, .inl (upd (d9) ((o).length) (tf (240 * past + i)))) := by rw [hp54, va_up_ne _ _ (by decide), va_up_self]
            have hw_57 : cw53 (38) = .inl (cI, 3120, .inl (tf)) := by rw [hp54, va_up_ne _ _ (by decide), va_up_ne _ _ (by decide)]; exact hk_26
            have hw_58 : cw53 (39) = .inl (cI, 13, .inl (lf)) := by rw [hp54, va_up_ne _ _ (by decide), va_up_ne _ _ (by decide)]; exact hk_27
            have hv_59 : cw53 37 = .inr (4, [.int (nI 0), .ref (ad (38)), .ref (ad (39)), .int (nI (past)), .int (nI (fut)), .ref (ad (40)), .int (nI ((o ++ [tf (240 * past + i)]).length)), .ref (ad (41)), .int (nI (pat.length)), .ref (ad (42)), .int (nI (ws.length)), .ref (ad (43)), .ref (ad (44))]) := by rw [hw_55, len_snoc]
            have hz_60 := zIs_add q4 (tf (240 * past + i))
            refine z_iload C dX4_replace_83 0 rfl ?_
            refine z_if_eq (tgt := 94) C dX4_replace_85 (by decide) (fun c61 => ?_) (fun c61 => (c61 (by decide)).elim)
            refine z_iload_n C dX4_replace_94 2 rfl ?_
            refine z_istore_n (lv' := [(2, .int (nI t)), (4, .int (nI 0)), (3, .int (nI i)), (0, .ref (ad (37))), (1, .int (x))]) C dX4_replace_95 rfl (by decide) rfl ?_
            refine z_iload C dX4_replace_96 1 rfl ?_
            refine z_if_eq (tgt := 110) C dX4_replace_98 (by decide) (fun c62 => ?_) (fun c62 => (c62 (by decide)).elim)
            refine z_iload_n C dX4_replace_110 2 rfl ?_
            refine z_iconst (v := nI 1) C dX4_replace_111 (by decide) ?_
            refine z_iadd C dX4_replace_112 ?_
            refine z_top (y := nI (i + 1)) (nI_1 i) ?_
            refine z_istore_n (lv' := [(3, .int (nI (i + 1))), (2, .int (nI t)), (4, .int (nI 0)), (0, .ref (ad (37))), (1, .int (x))]) C dX4_replace_113 rfl (by decide) rfl ?_
            refine z_goto (tgt := 50) C dX4_replace_114 (by decide) ?_
            refine z_lv (lv' := [(3, .int (nI (i + 1))), (2, .int (nI t)), (0, .ref (ad (37))), (1, .int (x))]) [0, 1, 3, 4] rfl ?_
            exact ih (i + 1) t (o ++ [tf (240 * past + i)]) _ (by omega) (by omega) (by rw [len_snoc]; omega) (by omega) ⟨n, by omega, hn2⟩ hv_59 ⟨_, hw_56, hz_60⟩ (fun j hj => ((fun j hj => by rw [hp54, va_up_ne _ _ (by omega), va_up_ne _ _ (by omega)]) : ∀ j, (j ≠ 37 ∧ j ≠ 40) → _ = cwk j) j hj |>.trans (hfrm j hj))
    · skip
      have h00 : pat.length = 0 := (nI_eq (by omega) (by omega)).mp c5
      refine z_iconst (v := nI 2) C dX4_replace_24 (by decide) ?_
      refine z_goto (tgt := 29) C dX4_replace_25 (by decide) ?_
      obtain ⟨cw63, ecw63⟩ : ∃ z : Nat → va_E, z = va_up (cw) (37) (.inr (4, [.int (nI 2), .ref (ad (38)), .ref (ad (39)), .int (nI (past)), .int (nI (fut)), .ref (ad (40)), .int (dn), .ref (ad (41)), .int (nI (pat.length)), .ref (ad (42)), .int (nI (ws.length)), .ref (ad (43)), .ref (ad (44))])) := ⟨_, rfl⟩
      refine z_put (Cn := RX4) (T := TX4) (NF := 13) (ci := 4) (ty := .int) (v := .int (nI 2)) C qX4_replace_1 tyX4_ok nmX4 rfl 0 (by decide) (C.2.2.2.2.1 _ qX4_replace_3) (fun _ h9 => h9) rfl (by decide +kernel) dX4_replace_29 (37) (by omega) m1 rfl rfl (Nat.le_of_ble_eq_true rfl) ?_
      refine z_cw ecw63.symm ?_
      have hw_64 : cw63 (37) = .inr (4, [.int (nI 2), .ref (ad (38)), .ref (ad (39)), .int (nI (past)), .int (nI (fut)), .ref (ad (40)), .int (dn), .ref (ad (41)), .int (nI (pat.length)), .ref (ad (42)), .int (nI (ws.length)), .ref (ad (43)), .ref (ad (44))]) := by rw [ecw63, va_up_self]
      have hw_65 : cw63 (38) = .inl (cI, 3120, .inl (tf)) := by rw [ecw63, va_up_ne _ _ (by decide)]; exact m3
      have hw_66 : cw63 (39) = .inl (cI, 13, .inl (lf)) := by rw [ecw63, va_up_ne _ _ (by decide)]; exact m4
      have hw_67 : cw63 (40) = .inl (cI, 240, .inl (df)) := by rw [ecw63, va_up_ne _ _ (by decide)]; exact m6
      refine z_aload_n C dX4_replace_32 0 rfl ?_
      refine z_get (Cn := RX4) (T := TX4) (NF := 13) (ci := 4) (v := .int (nI 2)) C qX4_replace_1 rfl 0 (by decide) (C.2.2.2.2.1 _ qX4_replace_3) (fun _ h9 => h9) dX4_replace_33 (37) (by omega) hw_64 rfl ?_
      refine z_if_le (tgt := 41) C dX4_replace_36 (by decide) (fun c68 => ?_) (fun c68 => ?_)
      · skip
        exact absurd c68 (by decide)
      · skip
        refine z_iconst (v := nI 0) C dX4_replace_39 (by decide) ?_
        exact z_iret C hr dX4_replace_40 (⟨Or.inr (Or.inl ⟨zRM_obj hM hw_64 (fun j hj => by rw [ecw63, va_up_ne _ _ (by omega)]), hch, by omega⟩), fun j hj => ((fun j hj => by rw [ecw63, va_up_ne _ _ (by omega)]) : ∀ j, (j ≠ 37) → _ = cw j) j (by omega)⟩) (Nat.le_of_ble_eq_true rfl) (Nat.le_of_ble_eq_true rfl)
  · skip
    have nhch : ¬ _ := fun h8 => (by rcases hp3.1 with h9 | h9; exact absurd (h9.1.symm.trans c4) (by decide); exact h9.2 ((z_in255 (x := x)).mpr h8))
    refine z_iconst (v := nI 1) C dX4_replace_13 (by decide) ?_
    refine z_goto (tgt := 29) C dX4_replace_14 (by decide) ?_
    obtain ⟨cw69, ecw69⟩ : ∃ z : Nat → va_E, z = va_up (cw) (37) (.inr (4, [.int (nI 1), .ref (ad (38)), .ref (ad (39)), .int (nI (past)), .int (nI (fut)), .ref (ad (40)), .int (dn), .ref (ad (41)), .int (nI (pat.length)), .ref (ad (42)), .int (nI (ws.length)), .ref (ad (43)), .ref (ad (44))])) := ⟨_, rfl⟩
    refine z_put (Cn := RX4) (T := TX4) (NF := 13) (ci := 4) (ty := .int) (v := .int (nI 1)) C qX4_replace_1 tyX4_ok nmX4 rfl 0 (by decide) (C.2.2.2.2.1 _ qX4_replace_3) (fun _ h9 => h9) rfl (by decide +kernel) dX4_replace_29 (37) (by omega) m1 rfl rfl (Nat.le_of_ble_eq_true rfl) ?_
    refine z_cw ecw69.symm ?_
    have hw_70 : cw69 (37) = .inr (4, [.int (nI 1), .ref (ad (38)), .ref (ad (39)), .int (nI (past)), .int (nI (fut)), .ref (ad (40)), .int (dn), .ref (ad (41)), .int (nI (pat.length)), .ref (ad (42)), .int (nI (ws.length)), .ref (ad (43)), .ref (ad (44))]) := by rw [ecw69, va_up_self]
    have hw_71 : cw69 (38) = .inl (cI, 3120, .inl (tf)) := by rw [ecw69, va_up_ne _ _ (by decide)]; exact m3
    have hw_72 : cw69 (39) = .inl (cI, 13, .inl (lf)) := by rw [ecw69, va_up_ne _ _ (by decide)]; exact m4
    have hw_73 : cw69 (40) = .inl (cI, 240, .inl (df)) := by rw [ecw69, va_up_ne _ _ (by decide)]; exact m6
    refine z_aload_n C dX4_replace_32 0 rfl ?_
    refine z_get (Cn := RX4) (T := TX4) (NF := 13) (ci := 4) (v := .int (nI 1)) C qX4_replace_1 rfl 0 (by decide) (C.2.2.2.2.1 _ qX4_replace_3) (fun _ h9 => h9) dX4_replace_33 (37) (by omega) hw_70 rfl ?_
    refine z_if_le (tgt := 41) C dX4_replace_36 (by decide) (fun c74 => ?_) (fun c74 => ?_)
    · skip
      exact absurd c74 (by decide)
    · skip
      refine z_iconst (v := nI 0) C dX4_replace_39 (by decide) ?_
      exact z_iret C hr dX4_replace_40 (⟨Or.inl ⟨zRM_obj hM hw_70 (fun j hj => by rw [ecw69, va_up_ne _ _ (by omega)]), nhch⟩, fun j hj => ((fun j hj => by rw [ecw69, va_up_ne _ _ (by omega)]) : ∀ j, (j ≠ 37) → _ = cw j) j (by omega)⟩) (Nat.le_of_ble_eq_true rfl) (Nat.le_of_ble_eq_true rfl)

