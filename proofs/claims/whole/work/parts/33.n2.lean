theorem qX1_init_0 : Cond.methodLink RX1 3 objectInit ∈ wsX1_init := by decide +kernel
theorem qX1_init_1 : Cond.instanceMethod objectInit ∈ wsX1_init := by decide +kernel
theorem qX1_init_2 : Cond.arrayClass .int ∈ wsX1_init := by decide +kernel
theorem qX1_init_3 : ∀ w ∈ wsX10, w ∈ wsX1_init := by decide +kernel
theorem qX1_init_4 : Cond.fieldLink RX1 9 "PieceText$Phrases" "words" "[I" ∈ wsX1_init := by decide +kernel
theorem qX1_init_5 : Cond.fieldLink RX1 15 "PieceText$Phrases" "starts" "[I" ∈ wsX1_init := by decide +kernel
theorem qX1_init_6 : Cond.fieldLink RX1 18 "PieceText$Phrases" "count" "I" ∈ wsX1_init := by decide +kernel
set_option maxHeartbeats 4000000 in
set_option maxRecDepth 100000 in
theorem c_Phr_init (l : Launch) (D : va_G) (cI cR cL : ClassId) (B N : Nat) (ad : Nat → Nat) (cw : Nat → va_E) (hN2 : N = 32) (e1 : cw (31) = .inr (1, [.null, .null, .int (nI 0)])) : Met l yX1_init wsX1_init ({ frames := 1, cells := 2, slots := 481, locals := 20 } : Room) (va_Pc [.ref (ad (31))] (zI D vwCl (zTy cI cR cL) B N ad cw)) (zQn D vwCl B N (34) ad (fun (ad' : Nat → Nat) (cw' : Nat → va_E) => cw' 31 = .inr (1, [.ref (ad' (32)), .ref (ad' (33)), .int (nI 0)]) ∧ cw' 32 = .inl (cI, 240, .inl (fun _ => 0)) ∧ cw' 33 = .inl (cI, 241, .inl (fun _ => 0)) ∧ ∀ j, (j ≠ 31 ∧ j ≠ 32 ∧ j ≠ 33) → cw' j = cw j)) 2 481 (zA B) := by
  subst hN2
  refine z_ofW (cc := cX1_init) (maxL := 1) (ret := none) (by decide) rfl (Nat.le_of_ble_eq_true rfl) ?_
  intro p e s m args below meth c C hr hnm
  refine z_lv (lv' := [(0, .ref (ad (31)))]) [0] rfl ?_
  refine z_aload_n C dX1_init_0 0 rfl ?_
  refine z_objInit C (C.2.2.2.2.1 _ qX1_init_0) (C.2.2.2.2.1 _ qX1_init_1) (C.2.2.2.2.1 _ (List.mem_of_getElem? (i := 3) rfl)) dX1_init_1 (Nat.le_of_ble_eq_true rfl) (Nat.le_of_ble_eq_true rfl) ?_
  refine z_aload_n C dX1_init_4 0 rfl ?_
  refine z_sipush (v := nI 240) C dX1_init_5 (by decide) ?_
  refine z_newa (N := 32) (N' := 240) C 0 rfl (C.2.2.2.2.1 _ qX1_init_2) (rfl) (by omega) (Nat.le_of_ble_eq_true rfl) (Nat.le_of_ble_eq_true rfl) dX1_init_8 (fun ad1 had1 => ?_)
  rw [← had1 (31) (by omega)]
  obtain ⟨cw2, ecw2⟩ : ∃ z : Nat → va_E, z = va_up cw (32) (.inl (cI, 240, .inl (fun _ => 0))) := ⟨_, rfl⟩
  refine z_cw ecw2.symm ?_
  refine z_N (N' := 33) (by omega) ?_
  have hw_3 : cw2 (31) = .inr (1, [.null, .null, .int (nI 0)]) := by rw [ecw2, va_up_ne _ _ (by omega)]; exact e1
  have hw_4 : cw2 (32) = .inl (cI, 240, .inl (fun _ => 0)) := by rw [ecw2]; exact va_up_self _ _ _
  obtain ⟨cw5, ecw5⟩ : ∃ z : Nat → va_E, z = va_up (cw2) (31) (.inr (1, [.ref (ad1 (32)), .null, .int (nI 0)])) := ⟨_, rfl⟩
  refine z_putF (Cn := RX1) (T := TX1) (NF := 3) (ci := 1) (ty := .array .int) (v := .ref (ad1 (32))) C qX1_init_3 tyX1_ok nmX1 rfl 0 (by decide) (C.2.2.2.2.1 _ qX1_init_4) (fun _ h9 => h9) rfl hnm rfl (by decide +kernel) dX1_init_10 (31) (by omega) hw_3 rfl rfl (Nat.le_of_ble_eq_true rfl) ?_
  refine z_cw ecw5.symm ?_
  have hw_6 : cw5 (31) = .inr (1, [.ref (ad1 (32)), .null, .int (nI 0)]) := by rw [ecw5, va_up_self]
  have hw_7 : cw5 (32) = .inl (cI, 240, .inl (fun _ => 0)) := by rw [ecw5, va_up_ne _ _ (by decide)]; exact hw_4
  refine z_aload_n C dX1_init_13 0 rfl ?_
  refine z_sipush (v := nI 241) C dX1_init_14 (by decide) ?_
  refine z_newa (N := 33) (N' := 241) C 0 rfl (C.2.2.2.2.1 _ qX1_init_2) (rfl) (by omega) (Nat.le_of_ble_eq_true rfl) (Nat.le_of_ble_eq_true rfl) dX1_init_17 (fun ad8 had8 => ?_)
  rw [← had8 (31) (by omega)]
  obtain ⟨cw9, ecw9⟩ : ∃ z : Nat → va_E, z = va_up cw5 (33) (.inl (cI, 241, .inl (fun _ => 0))) := ⟨_, rfl⟩
  refine z_cw ecw9.symm ?_
  refine z_N (N' := 34) (by omega) ?_
  have hw_10 : cw9 (31) = .inr (1, [.ref (ad8 (32)), .null, .int (nI 0)]) := by rw [ecw9, va_up_ne _ _ (by omega)]; rw [had8 (32) (by omega)]; exact hw_6
  have hw_11 : cw9 (32) = .inl (cI, 240, .inl (fun _ => 0)) := by rw [ecw9, va_up_ne _ _ (by omega)]; exact hw_7
  have hw_12 : cw9 (33) = .inl (cI, 241, .inl (fun _ => 0)) := by rw [ecw9]; exact va_up_self _ _ _
  obtain ⟨cw13, ecw13⟩ : ∃ z : Nat → va_E, z = va_up (cw9) (31) (.inr (1, [.ref (ad8 (32)), .ref (ad8 (33)), .int (nI 0)])) := ⟨_, rfl⟩
  refine z_putF (Cn := RX1) (T := TX1) (NF := 3) (ci := 1) (ty := .array .int) (v := .ref (ad8 (33))) C qX1_init_3 tyX1_ok nmX1 rfl 1 (by decide) (C.2.2.2.2.1 _ qX1_init_5) (fun _ h9 => h9) rfl hnm rfl (by decide +kernel) dX1_init_19 (31) (by omega) hw_10 rfl rfl (Nat.le_of_ble_eq_true rfl) ?_
  refine z_cw ecw13.symm ?_
  have hw_14 : cw13 (31) = .inr (1, [.ref (ad8 (32)), .ref (ad8 (33)), .int (nI 0)]) := by rw [ecw13, va_up_self]
  have hw_15 : cw13 (32) = .inl (cI, 240, .inl (fun _ => 0)) := by rw [ecw13, va_up_ne _ _ (by decide)]; exact hw_11
  have hw_16 : cw13 (33) = .inl (cI, 241, .inl (fun _ => 0)) := by rw [ecw13, va_up_ne _ _ (by decide)]; exact hw_12
  refine z_aload_n C dX1_init_22 0 rfl ?_
  refine z_iconst (v := nI 0) C dX1_init_23 (by decide) ?_
  obtain ⟨cw17, ecw17⟩ : ∃ z : Nat → va_E, z = va_up (cw13) (31) (.inr (1, [.ref (ad8 (32)), .ref (ad8 (33)), .int (nI 0)])) := ⟨_, rfl⟩
  refine z_put (Cn := RX1) (T := TX1) (NF := 3) (ci := 1) (ty := .int) (v := .int (nI 0)) C qX1_init_3 tyX1_ok nmX1 rfl 2 (by decide) (C.2.2.2.2.1 _ qX1_init_6) (fun _ h9 => h9) rfl (by decide +kernel) dX1_init_24 (31) (by omega) hw_14 rfl rfl (Nat.le_of_ble_eq_true rfl) ?_
  refine z_cw ecw17.symm ?_
  have hw_18 : cw17 (31) = .inr (1, [.ref (ad8 (32)), .ref (ad8 (33)), .int (nI 0)]) := by rw [ecw17, va_up_self]
  have hw_19 : cw17 (32) = .inl (cI, 240, .inl (fun _ => 0)) := by rw [ecw17, va_up_ne _ _ (by decide)]; exact hw_15
  have hw_20 : cw17 (33) = .inl (cI, 241, .inl (fun _ => 0)) := by rw [ecw17, va_up_ne _ _ (by decide)]; exact hw_16
  exact z_nret C hr dX1_init_27 (⟨fun k hk => (had8 k (by omega)).trans (had1 k (by omega)), hw_18, hw_19, hw_20, fun j hj => (fun j hj => by rw [ecw17, va_up_ne _ _ (by omega)]; rw [ecw13, va_up_ne _ _ (by omega)]; rw [ecw9, va_up_ne _ _ (by omega)]; rw [ecw5, va_up_ne _ _ (by omega)]; rw [ecw2, va_up_ne _ _ (by omega)]) j hj⟩) (Nat.le_of_ble_eq_true rfl) (Nat.le_of_ble_eq_true rfl)

theorem qX0_init_0 : Cond.methodLink RX0 3 objectInit ∈ wsX0_init := by decide +kernel
theorem qX0_init_1 : Cond.instanceMethod objectInit ∈ wsX0_init := by decide +kernel
theorem qX0_init_2 : Cond.classLink RX0 11 RX2 ∈ wsX0_init := by decide +kernel
theorem qX0_init_3 : ∀ w ∈ wsX00, w ∈ wsX0_init := by decide +kernel
theorem qX0_init_4 : Cond.fieldLink RX0 13 "PieceText$History" "texts" "[LPieceText$Row;" ∈ wsX0_init := by decide +kernel
theorem qX0_init_5 : Cond.fieldLink RX0 20 "PieceText$History" "now" "I" ∈ wsX0_init := by decide +kernel
theorem qX0_init_6 : Cond.fieldLink RX0 24 "PieceText$History" "past" "I" ∈ wsX0_init := by decide +kernel
theorem qX0_init_7 : Cond.fieldLink RX0 27 "PieceText$History" "future" "I" ∈ wsX0_init := by decide +kernel
theorem qX0_init_8 : ∀ w ∈ wsX20, w ∈ wsX0_init := by decide +kernel
theorem qX0_init_9 : Cond.instantiable RX2 2 ∈ wsX0_init := by decide +kernel
theorem qX0_init_10 : Cond.initialized RX2 ∈ wsX0_init := by decide +kernel
theorem qX0_init_11 : Cond.methodLink RX0 17 yX2_init ∈ wsX0_init := by decide +kernel
theorem qX0_init_12 : Cond.instanceMethod yX2_init ∈ wsX0_init := by decide +kernel
set_option maxHeartbeats 4000000 in
set_option maxRecDepth 100000 in
theorem c_Hist_init (l : Launch) (D : va_G) (cI cR cL : ClassId) (B N : Nat) (ad : Nat → Nat) (cw : Nat → va_E) (hN2 : N = 2) (e1 : cw (1) = .inr (0, [.null, .int (nI 0), .int (nI 0), .int (nI 0)])) : Met l yX0_init wsX0_init ({ frames := 2, cells := 27, slots := 3159, locals := 41 } : Room) (va_Pc [.ref (ad (1))] (zI D vwCl (zTy cI cR cL) B N ad cw)) (zQn D vwCl B N (29) ad (fun (ad' : Nat → Nat) (cw' : Nat → va_E) => cw' 1 = .inr (0, [.ref (ad' (2)), .int (nI 0), .int (nI 0), .int (nI 0)]) ∧ zTexts cR ad' cw' ∧ (∀ i, i < 13 → cw' (3 + 2 * i) = .inr (2, [.ref (ad' (4 + 2 * i)), .int (nI 0)]) ∧ cw' (4 + 2 * i) = .inl (cI, 240, .inl (fun _ => 0))) ∧ cw' 0 = cw 0)) 27 3159 (zA B) := by
  subst hN2
  refine z_ofW (cc := cX0_init) (maxL := 2) (ret := none) (by decide) rfl (Nat.le_of_ble_eq_true rfl) ?_
  intro p e s m args below meth c C hr hnm
  refine z_lv (lv' := [(0, .ref (ad (1)))]) [0] rfl ?_
  refine z_aload_n C dX0_init_0 0 rfl ?_
  refine z_objInit C (C.2.2.2.2.1 _ qX0_init_0) (C.2.2.2.2.1 _ qX0_init_1) (C.2.2.2.2.1 _ (List.mem_of_getElem? (i := 3) rfl)) dX0_init_1 (Nat.le_of_ble_eq_true rfl) (Nat.le_of_ble_eq_true rfl) ?_
  refine z_aload_n C dX0_init_4 0 rfl ?_
  refine z_bipush (v := nI 13) C dX0_init_5 (by decide) ?_
  refine z_newq (N := 2) (N' := 13) C 1 rfl (C.2.2.2.2.1 _ qX0_init_2) rfl (by omega) (Nat.le_of_ble_eq_true rfl) (Nat.le_of_ble_eq_true rfl) dX0_init_7 (fun ad1 had1 => ?_)
  rw [← had1 (1) (by omega)]
  obtain ⟨cw2, ecw2⟩ : ∃ z : Nat → va_E, z = va_up cw (2) (.inl (cR, 13, .inr (.inr (.inr (.inr (fun _ => none)))))) := ⟨_, rfl⟩
  refine z_cw ecw2.symm ?_
  refine z_N (N' := 3) (by omega) ?_
  have hw_3 : cw2 (1) = .inr (0, [.null, .int (nI 0), .int (nI 0), .int (nI 0)]) := by rw [ecw2, va_up_ne _ _ (by omega)]; exact e1
  have hw_4 : cw2 (2) = .inl (cR, 13, .inr (.inr (.inr (.inr (fun _ => none))))) := by rw [ecw2]; exact va_up_self _ _ _
  obtain ⟨cw5, ecw5⟩ : ∃ z : Nat → va_E, z = va_up (cw2) (1) (.inr (0, [.ref (ad1 (2)), .int (nI 0), .int (nI 0), .int (nI 0)])) := ⟨_, rfl⟩
  refine z_putF (Cn := RX0) (T := TX0) (NF := 4) (ci := 0) (ty := .array (.object "PieceText$Row")) (v := .ref (ad1 (2))) C qX0_init_3 tyX0_ok nmX0 rfl 0 (by decide) (C.2.2.2.2.1 _ qX0_init_4) (fun _ h9 => h9) rfl hnm rfl (by decide +kernel) dX0_init_10 (1) (by omega) hw_3 rfl rfl (Nat.le_of_ble_eq_true rfl) ?_
  refine z_cw ecw5.symm ?_
  have hw_6 : cw5 (1) = .inr (0, [.ref (ad1 (2)), .int (nI 0), .int (nI 0), .int (nI 0)]) := by rw [ecw5, va_up_self]
  have hw_7 : cw5 (2) = .inl (cR, 13, .inr (.inr (.inr (.inr (fun _ => none))))) := by rw [ecw5, va_up_ne _ _ (by decide)]; exact hw_4
  refine z_iconst (v := nI 0) C dX0_init_13 (by decide) ?_
  refine z_istore_n (lv' := [(1, .int (nI 0)), (0, .ref (ad1 (1)))]) C dX0_init_14 rfl (by decide) rfl ?_
  refine z_lv (lv' := [(1, .int (nI 0)), (0, .ref (ad1 (1)))]) [0, 1] rfl ?_
  suffices loop : ∀ (mm i : Nat) (adk : Nat → Nat) (cwk : Nat → va_E), 13 = i + mm → (∀ k, k < 2 → adk k = ad k) → cwk (1) = .inr (0, [.ref (adk (2)), .int (nI 0), .int (nI 0), .int (nI 0)]) → (∃ fr, cwk (2) = .inl (cR, 13, .inr (.inr (.inr (.inr (fr))))) ∧ ∀ a, a < i → fr a = some (adk (3 + 2 * a))) → (∀ a, a < i → cwk (3 + 2 * a) = .inr (2, [.ref (adk (4 + 2 * a)), .int (nI 0)]) ∧ cwk (4 + 2 * a) = .inl (cI, 240, .inl (fun _ => 0))) → cwk 0 = cw 0 → zG p l e (headSpec wsX0_init ({ frames := 2, cells := 27, slots := 3159, locals := 41 } : Room)).room s m args below meth c (MQ below (zQn D vwCl B 2 (29) ad (fun (ad' : Nat → Nat) (cw' : Nat → va_E) => cw' 1 = .inr (0, [.ref (ad' (2)), .int (nI 0), .int (nI 0), .int (nI 0)]) ∧ zTexts cR ad' cw' ∧ (∀ i, i < 13 → cw' (3 + 2 * i) = .inr (2, [.ref (ad' (4 + 2 * i)), .int (nI 0)]) ∧ cw' (4 + 2 * i) = .inl (cI, 240, .inl (fun _ => 0))) ∧ cw' 0 = cw 0)) args s 27 3159 (zA B)) D vwCl B 2 (3 + 2 * i) adk cwk (1 + 2 * i) (13 + 242 * i) [(1, .int (nI i)), (0, .ref (adk (1)))] 15 [] from loop 13 0 _ _ (by omega) (fun k hk => had1 k (by omega)) hw_6 ⟨_, hw_7, fun a ha => absurd ha (by omega)⟩ (fun a ha => absurd ha (by omega)) (((fun j hj => by rw [ecw5, va_up_ne _ _ (by omega)]; rw [ecw2, va_up_ne _ _ (by omega)] : ∀ j, (j ≠ 1 ∧ j ≠ 2) → _ = cw j)) 0 (by omega))
  intro mm
  induction mm with
  | zero =>
    intro i adk cwk hi hak q1 q2 qr q0
    obtain ⟨fr, q3, q4⟩ := id q2
    refine z_iload_n C dX0_init_15 0 rfl ?_
    refine z_bipush (v := nI 13) C dX0_init_16 (by decide) ?_
    refine z_icmp_ge (tgt := 43) C dX0_init_18 (by decide) (fun c8 => ?_) (fun c8 => ?_)
    · skip
      have hi13 : i = 13 := by omega
      subst hi13
      refine z_N (N' := 29) rfl ?_
      refine z_aload_n C dX0_init_43 1 rfl ?_
      refine z_iconst (v := nI 0) C dX0_init_44 (by decide) ?_
      obtain ⟨cw9, ecw9⟩ : ∃ z : Nat → va_E, z = va_up (cwk) (1) (.inr (0, [.ref (adk (2)), .int (nI 0), .int (nI 0), .int (nI 0)])) := ⟨_, rfl⟩
      refine z_put (Cn := RX0) (T := TX0) (NF := 4) (ci := 0) (ty := .int) (v := .int (nI 0)) C qX0_init_3 tyX0_ok nmX0 rfl 1 (by decide) (C.2.2.2.2.1 _ qX0_init_5) (fun _ h9 => h9) rfl (by decide +kernel) dX0_init_45 (1) (by omega) q1 rfl rfl (Nat.le_of_ble_eq_true rfl) ?_
      refine z_cw ecw9.symm ?_
      have hw_10 : cw9 (1) = .inr (0, [.ref (adk (2)), .int (nI 0), .int (nI 0), .int (nI 0)]) := by rw [ecw9, va_up_self]
      have hw_11 : cw9 (2) = .inl (cR, 13, .inr (.inr (.inr (.inr (fr))))) := by rw [ecw9, va_up_ne _ _ (by decide)]; exact q3
      refine z_aload_n C dX0_init_48 1 rfl ?_
      refine z_iconst (v := nI 0) C dX0_init_49 (by decide) ?_
      obtain ⟨cw12, ecw12⟩ : ∃ z : Nat → va_E, z = va_up (cw9) (1) (.inr (0, [.ref (adk (2)), .int (nI 0), .int (nI 0), .int (nI 0)])) := ⟨_, rfl⟩
      refine z_put (Cn := RX0) (T := TX0) (NF := 4) (ci := 0) (ty := .int) (v := .int (nI 0)) C qX0_init_3 tyX0_ok nmX0 rfl 2 (by decide) (C.2.2.2.2.1 _ qX0_init_6) (fun _ h9 => h9) rfl (by decide +kernel) dX0_init_50 (1) (by omega) hw_10 rfl rfl (Nat.le_of_ble_eq_true rfl) ?_
      refine z_cw ecw12.symm ?_
      have hw_13 : cw12 (1) = .inr (0, [.ref (adk (2)), .int (nI 0), .int (nI 0), .int (nI 0)]) := by rw [ecw12, va_up_self]
      have hw_14 : cw12 (2) = .inl (cR, 13, .inr (.inr (.inr (.inr (fr))))) := by rw [ecw12, va_up_ne _ _ (by decide)]; exact hw_11
      refine z_aload_n C dX0_init_53 1 rfl ?_
      refine z_iconst (v := nI 0) C dX0_init_54 (by decide) ?_
      obtain ⟨cw15, ecw15⟩ : ∃ z : Nat → va_E, z = va_up (cw12) (1) (.inr (0, [.ref (adk (2)), .int (nI 0), .int (nI 0), .int (nI 0)])) := ⟨_, rfl⟩
      refine z_put (Cn := RX0) (T := TX0) (NF := 4) (ci := 0) (ty := .int) (v := .int (nI 0)) C qX0_init_3 tyX0_ok nmX0 rfl 3 (by decide) (C.2.2.2.2.1 _ qX0_init_7) (fun _ h9 => h9) rfl (by decide +kernel) dX0_init_55 (1) (by omega) hw_13 rfl rfl (Nat.le_of_ble_eq_true rfl) ?_
      refine z_cw ecw15.symm ?_
      have hw_16 : cw15 (1) = .inr (0, [.ref (adk (2)), .int (nI 0), .int (nI 0), .int (nI 0)]) := by rw [ecw15, va_up_self]
      have hw_17 : cw15 (2) = .inl (cR, 13, .inr (.inr (.inr (.inr (fr))))) := by rw [ecw15, va_up_ne _ _ (by decide)]; exact hw_14
      have hfr9 : ∀ j, (j ≠ 1) → cw15 j = cwk j := fun j hj => by rw [ecw15, va_up_ne _ _ (by omega)]; rw [ecw12, va_up_ne _ _ (by omega)]; rw [ecw9, va_up_ne _ _ (by omega)]
      exact z_nret C hr dX0_init_58 (⟨hak, hw_16, ⟨fr, hw_17, q4⟩, fun a ha => ⟨(hfr9 _ (by omega)).trans (qr a ha).1, (hfr9 _ (by omega)).trans (qr a ha).2⟩, (hfr9 0 (by omega)).trans q0⟩) (Nat.le_of_ble_eq_true rfl) (Nat.le_of_ble_eq_true rfl)
    · skip
      exact absurd (nI_le (by omega) (by omega)) c8
  | succ mm ih =>
    intro i adk cwk hi hak q1 q2 qr q0
    obtain ⟨fr, q3, q4⟩ := id q2
    refine z_iload_n C dX0_init_15 0 rfl ?_
    refine z_bipush (v := nI 13) C dX0_init_16 (by decide) ?_
    refine z_icmp_ge (tgt := 43) C dX0_init_18 (by decide) (fun c18 => ?_) (fun c18 => ?_)
    · skip
      exact absurd ((nI_leI (by omega) (by omega)).mp c18) (by omega)
    · skip
      refine z_aload_n C dX0_init_21 1 rfl ?_
      refine z_get (Cn := RX0) (T := TX0) (NF := 4) (ci := 0) (v := .ref (adk (2))) C qX0_init_3 rfl 0 (by decide) (C.2.2.2.2.1 _ qX0_init_4) (fun _ h9 => h9) dX0_init_22 (1) (by omega) q1 rfl ?_
      refine z_iload_n C dX0_init_25 0 rfl ?_
      refine z_new (N := 3 + 2 * i) (Cn := RX2) (T := TX2) (NF := 2) (ci := 2) (fs := [.null, .int (nI 0)]) C qX0_init_8 tyX2_ok (C.2.2.2.2.1 _ qX0_init_2) (C.2.2.2.2.1 _ qX0_init_9) (C.2.2.2.2.1 _ qX0_init_10) rfl (fun j hj => by rcases (show j = 0 ∨ j = 1 by omega) with rfl | rfl <;> rfl) (Nat.le_trans (show _ ≤ 27 by omega) (Nat.le_of_ble_eq_true rfl)) (Nat.le_trans (show _ ≤ 3159 by omega) (Nat.le_of_ble_eq_true rfl)) dX0_init_26 (fun ad19 had19 => ?_)
      rw [← had19 (1) (by omega)]
      rw [← had19 (2) (by omega)]
      obtain ⟨cw20, ecw20⟩ : ∃ z : Nat → va_E, z = va_up cwk (3 + 2 * i) (.inr (2, [.null, .int (nI 0)])) := ⟨_, rfl⟩
      refine z_cw ecw20.symm ?_
      refine z_N (N' := 4 + 2 * i) (by omega) ?_
      have hw_21 : cw20 (1) = .inr (0, [.ref (ad19 (2)), .int (nI 0), .int (nI 0), .int (nI 0)]) := by rw [ecw20, va_up_ne _ _ (by omega)]; rw [had19 (2) (by omega)]; exact q1
      have hw_22 : cw20 (2) = .inl (cR, 13, .inr (.inr (.inr (.inr (fr))))) := by rw [ecw20, va_up_ne _ _ (by omega)]; exact q3
      have hw_23 : cw20 (3 + 2 * i) = .inr (2, [.null, .int (nI 0)]) := by rw [ecw20]; exact va_up_self _ _ _
      refine z_dup C dX0_init_29 rfl ?_
      refine z_sipush (v := nI 240) C dX0_init_30 (by decide) ?_
      refine z_calln (z_runI (As := [.int (nI 240)]) (rest := [.ref (ad19 (3 + 2 * i)), .int (nI i), .ref (ad19 (2))]) C (c_Row_init l D cI cR cL B (4 + 2 * i) ad19 cw20 (i := 3 + 2 * i) (lim := 240) (by omega) hw_23 (by omega)) (cwI 1 C.2.2.2.2.1 gX0_init_X2_init rfl rfl rfl (C.2.2.2.2.1 _ qX0_init_10) (C.2.2.2.2.1 _ qX0_init_11) (C.2.2.2.2.1 _ qX0_init_12) rfl (by decide +kernel) ⟨Nat.le_of_ble_eq_true rfl, Nat.le_of_ble_eq_true rfl⟩) rfl rfl (Nat.le_of_ble_eq_true rfl) dX0_init_33 ⟨Nat.le_trans (show _ ≤ 27 by omega) (Nat.le_of_ble_eq_true rfl), Nat.le_trans (show _ ≤ 3159 by omega) (Nat.le_of_ble_eq_true rfl)⟩) (fun ad24 cw25 had24 hp26 => ?_)
      rw [← had24 (1) (by omega)]
      rw [← had24 (3 + 2 * i) (by omega)]
      rw [← had24 (2) (by omega)]
      refine z_N (N' := 3 + 2 * (i + 1)) (by omega) ?_
      have hw_27 : cw25 (1) = .inr (0, [.ref (ad24 (2)), .int (nI 0), .int (nI 0), .int (nI 0)]) := by rw [hp26.2.2 _ (by omega)]; rw [had24 (2) (by omega)]; exact hw_21
      have hw_28 : cw25 (2) = .inl (cR, 13, .inr (.inr (.inr (.inr (fr))))) := by rw [hp26.2.2 _ (by omega)]; exact hw_22
      have hw_29 : cw25 (3 + 2 * i) = .inr (2, [.ref (ad24 (4 + 2 * i)), .int (nI 0)]) := hp26.1
      have hw_29b : cw25 (4 + 2 * i) = .inl (cI, 240, .inl (fun _ => 0)) := hp26.2.1
      obtain ⟨cw30, ecw30⟩ : ∃ z : Nat → va_E, z = va_up (cw25) (2) (.inl (cR, 13, .inr (.inr (.inr (.inr (va_up (fr) (i) (some (ad24 (3 + 2 * i))))))))) := ⟨_, rfl⟩
      refine z_aast (ci := 2) C 1 rfl rfl dX0_init_36 (2) (by omega) hw_28 (kv := 3 + 2 * i) (by omega) hw_29 (i) rfl (by omega) (by decide) ?_
      refine z_cw ecw30.symm ?_
      have hw_31 : cw30 (1) = .inr (0, [.ref (ad24 (2)), .int (nI 0), .int (nI 0), .int (nI 0)]) := by rw [ecw30, va_up_ne _ _ (by decide)]; exact hw_27
      have hw_32 : cw30 (2) = .inl (cR, 13, .inr (.inr (.inr (.inr (va_up (fr) (i) (some (ad24 (3 + 2 * i)))))))) := by rw [ecw30, va_up_self]
      have hw_33 : cw30 (3 + 2 * i) = .inr (2, [.ref (ad24 (4 + 2 * i)), .int (nI 0)]) := by rw [ecw30, va_up_ne _ _ (by omega)]; exact hw_29
      have hw_34 : cw30 (4 + 2 * i) = .inl (cI, 240, .inl (fun _ => 0)) := by rw [ecw30, va_up_ne _ _ (by omega)]; exact hw_29b
      refine z_iinc (x := nI (i + 1)) (lv' := [(1, .int (nI (i + 1))), (0, .ref (ad24 (1)))]) C dX0_init_37 0 rfl (nI_1 i) (by decide) rfl ?_
      refine z_goto (tgt := 15) C dX0_init_40 (by decide) ?_
      refine z_lv (lv' := [(1, .int (nI (i + 1))), (0, .ref (ad24 (1)))]) [0, 1] rfl ?_
      refine z_widen (k := 1 + 2 * (i + 1)) (n := 13 + 242 * (i + 1)) (by omega) (by omega) ?_
      have hae : ∀ k, k < 3 + 2 * i → ad24 k = adk k := fun k hk => (had24 k (by omega)).trans (had19 k (by omega))
      have hfr9 : ∀ j, (j < 3 + 2 * i ∧ j ≠ 2) → cw30 j = cwk j := fun j hj => by rw [ecw30, va_up_ne _ _ (by omega), hp26.2.2 _ (by omega), ecw20, va_up_ne _ _ (by omega)]
      refine ih (i + 1) _ _ (by omega) (fun k hk => (hae k (by omega)).trans (hak k hk)) hw_31 ⟨_, hw_32, fun a ha => ?_⟩ (fun a ha => ?_) ((hfr9 0 (by omega)).trans q0)
      · by_cases h9 : a = i
        · rw [h9]; exact va_up_self _ _ _
        · rw [va_up_ne _ _ h9, q4 a (by omega), hae _ (by omega)]
      · by_cases h9 : a = i
        · subst h9; exact ⟨hw_33, hw_34⟩
        · exact ⟨by rw [hfr9 _ (by omega), (qr a (by omega)).1, hae _ (by omega)], by rw [hfr9 _ (by omega), (qr a (by omega)).2]⟩

