theorem qX3_init_0 : Cond.methodLink RX3 1 objectInit ∈ wsX3_init := by decide +kernel
theorem qX3_init_1 : Cond.instanceMethod objectInit ∈ wsX3_init := by decide +kernel
theorem qX3_init_2 : ∀ w ∈ wsX00, w ∈ wsX3_init := by decide +kernel
theorem qX3_init_3 : Cond.classLink RX3 7 RX0 ∈ wsX3_init := by decide +kernel
theorem qX3_init_4 : Cond.instantiable RX0 4 ∈ wsX3_init := by decide +kernel
theorem qX3_init_5 : Cond.initialized RX0 ∈ wsX3_init := by decide +kernel
theorem qX3_init_6 : Cond.methodLink RX3 9 yX0_init ∈ wsX3_init := by decide +kernel
theorem qX3_init_7 : Cond.instanceMethod yX0_init ∈ wsX3_init := by decide +kernel
theorem qX3_init_8 : ∀ w ∈ wsX30, w ∈ wsX3_init := by decide +kernel
theorem qX3_init_9 : Cond.fieldLink RX3 10 "PieceText" "history" "LPieceText$History;" ∈ wsX3_init := by decide +kernel
theorem qX3_init_10 : ∀ w ∈ wsX20, w ∈ wsX3_init := by decide +kernel
theorem qX3_init_11 : Cond.classLink RX3 16 RX2 ∈ wsX3_init := by decide +kernel
theorem qX3_init_12 : Cond.instantiable RX2 2 ∈ wsX3_init := by decide +kernel
theorem qX3_init_13 : Cond.initialized RX2 ∈ wsX3_init := by decide +kernel
theorem qX3_init_14 : Cond.methodLink RX3 18 yX2_init ∈ wsX3_init := by decide +kernel
theorem qX3_init_15 : Cond.instanceMethod yX2_init ∈ wsX3_init := by decide +kernel
theorem qX3_init_16 : Cond.fieldLink RX3 21 "PieceText" "sought" "LPieceText$Row;" ∈ wsX3_init := by decide +kernel
theorem qX3_init_17 : ∀ w ∈ wsX10, w ∈ wsX3_init := by decide +kernel
theorem qX3_init_18 : Cond.classLink RX3 25 RX1 ∈ wsX3_init := by decide +kernel
theorem qX3_init_19 : Cond.instantiable RX1 3 ∈ wsX3_init := by decide +kernel
theorem qX3_init_20 : Cond.initialized RX1 ∈ wsX3_init := by decide +kernel
theorem qX3_init_21 : Cond.methodLink RX3 27 yX1_init ∈ wsX3_init := by decide +kernel
theorem qX3_init_22 : Cond.instanceMethod yX1_init ∈ wsX3_init := by decide +kernel
theorem qX3_init_23 : Cond.fieldLink RX3 28 "PieceText" "written" "LPieceText$Phrases;" ∈ wsX3_init := by decide +kernel
theorem qX3_init_24 : Cond.fieldLink RX3 32 "PieceText" "draft" "LPieceText$Row;" ∈ wsX3_init := by decide +kernel
theorem qX3_init_25 : Cond.arrayClass .int ∈ wsX3_init := by decide +kernel
theorem qX3_init_26 : Cond.fieldLink RX3 35 "PieceText" "seen" "[I" ∈ wsX3_init := by decide +kernel
set_option maxHeartbeats 4000000 in
set_option maxRecDepth 100000 in
theorem c_PT_init (l : Launch) (D : va_G) (cI cR cL : ClassId) (B N : Nat) (ad : Nat → Nat) (cw : Nat → va_E) (hN2 : N = 1) (e1 : cw (0) = .inr (3, [.null, .null, .null, .null, .null])) : Met l yX3_init wsX3_init ({ frames := 3, cells := 36, slots := 4387, locals := 62 } : Room) (va_Pc [.ref (ad (0))] (zI D vwCl (zTy cI cR cL) B N ad cw)) (zQn D vwCl B N (37) ad (fun (ad' : Nat → Nat) (cw' : Nat → va_E) => zRX cI cR ad' cw' 0 0 (fun _ => []) [] [] [])) 36 4387 (zA B) := by
  subst hN2
  refine z_ofW (cc := cX3_init) (maxL := 1) (ret := none) (by decide) rfl (Nat.le_of_ble_eq_true rfl) ?_
  intro p e s m args below meth c C hr hnm
  refine z_lv (lv' := [(0, .ref (ad (0)))]) [0] rfl ?_
  refine z_aload_n C dX3_init_0 0 rfl ?_
  refine z_objInit C (C.2.2.2.2.1 _ qX3_init_0) (C.2.2.2.2.1 _ qX3_init_1) (C.2.2.2.2.1 _ (List.mem_of_getElem? (i := 3) rfl)) dX3_init_1 (Nat.le_of_ble_eq_true rfl) (Nat.le_of_ble_eq_true rfl) ?_
  refine z_aload_n C dX3_init_4 0 rfl ?_
  refine z_new (N := 1) (Cn := RX0) (T := TX0) (NF := 4) (ci := 0) (fs := [.null, .int (nI 0), .int (nI 0), .int (nI 0)]) C qX3_init_2 tyX0_ok (C.2.2.2.2.1 _ qX3_init_3) (C.2.2.2.2.1 _ qX3_init_4) (C.2.2.2.2.1 _ qX3_init_5) rfl (fun j hj => by rcases (show j = 0 ∨ j = 1 ∨ j = 2 ∨ j = 3 by omega) with rfl | rfl | rfl | rfl <;> rfl) (Nat.le_of_ble_eq_true rfl) (Nat.le_of_ble_eq_true rfl) dX3_init_5 (fun ad1 had1 => ?_)
  rw [← had1 (0) (by omega)]
  obtain ⟨cw2, ecw2⟩ : ∃ z : Nat → va_E, z = va_up cw (1) (.inr (0, [.null, .int (nI 0), .int (nI 0), .int (nI 0)])) := ⟨_, rfl⟩
  refine z_cw ecw2.symm ?_
  refine z_N (N' := 2) (by omega) ?_
  have hw_3 : cw2 (0) = .inr (3, [.null, .null, .null, .null, .null]) := by rw [ecw2, va_up_ne _ _ (by omega)]; exact e1
  have hw_4 : cw2 (1) = .inr (0, [.null, .int (nI 0), .int (nI 0), .int (nI 0)]) := by rw [ecw2]; exact va_up_self _ _ _
  refine z_dup C dX3_init_8 rfl ?_
  refine z_calln (z_runI (As := []) (rest := [.ref (ad1 (1)), .ref (ad1 (0))]) C (c_Hist_init l D cI cR cL B 2 ad1 cw2 rfl hw_4) (cwI 0 C.2.2.2.2.1 gX3_init_X0_init rfl rfl rfl (C.2.2.2.2.1 _ qX3_init_5) (C.2.2.2.2.1 _ qX3_init_6) (C.2.2.2.2.1 _ qX3_init_7) rfl (by decide +kernel) ⟨Nat.le_of_ble_eq_true rfl, Nat.le_of_ble_eq_true rfl⟩) rfl rfl (Nat.le_of_ble_eq_true rfl) dX3_init_9 ⟨Nat.le_of_ble_eq_true rfl, Nat.le_of_ble_eq_true rfl⟩) (fun ad5 cw6 had5 hp7 => ?_)
  rw [← had5 (0) (by omega)]
  rw [← had5 (1) (by omega)]
  refine z_N (N' := 29) rfl ?_
  have hw_8 : cw6 (0) = .inr (3, [.null, .null, .null, .null, .null]) := by rw [hp7.2.2.2]; exact hw_3
  have hw_9 : cw6 (1) = .inr (0, [.ref (ad5 (2)), .int (nI 0), .int (nI 0), .int (nI 0)]) := hp7.1
  obtain ⟨cw10, ecw10⟩ : ∃ z : Nat → va_E, z = va_up (cw6) (0) (.inr (3, [.ref (ad5 (1)), .null, .null, .null, .null])) := ⟨_, rfl⟩
  refine z_putF (Cn := RX3) (T := TX3) (NF := 5) (ci := 3) (ty := .object "PieceText$History") (v := .ref (ad5 (1))) C qX3_init_8 tyX3_ok nmX3 rfl 0 (by decide) (C.2.2.2.2.1 _ qX3_init_9) (fun _ h9 => h9) rfl hnm rfl (by decide +kernel) dX3_init_12 (0) (by omega) hw_8 rfl rfl (Nat.le_of_ble_eq_true rfl) ?_
  refine z_cw ecw10.symm ?_
  have hw_11 : cw10 (0) = .inr (3, [.ref (ad5 (1)), .null, .null, .null, .null]) := by rw [ecw10, va_up_self]
  have hw_12 : cw10 (1) = .inr (0, [.ref (ad5 (2)), .int (nI 0), .int (nI 0), .int (nI 0)]) := by rw [ecw10, va_up_ne _ _ (by decide)]; exact hw_9
  refine z_aload_n C dX3_init_15 0 rfl ?_
  refine z_new (N := 29) (Cn := RX2) (T := TX2) (NF := 2) (ci := 2) (fs := [.null, .int (nI 0)]) C qX3_init_10 tyX2_ok (C.2.2.2.2.1 _ qX3_init_11) (C.2.2.2.2.1 _ qX3_init_12) (C.2.2.2.2.1 _ qX3_init_13) rfl (fun j hj => by rcases (show j = 0 ∨ j = 1 by omega) with rfl | rfl <;> rfl) (Nat.le_of_ble_eq_true rfl) (Nat.le_of_ble_eq_true rfl) dX3_init_16 (fun ad13 had13 => ?_)
  rw [← had13 (0) (by omega)]
  obtain ⟨cw14, ecw14⟩ : ∃ z : Nat → va_E, z = va_up cw10 (29) (.inr (2, [.null, .int (nI 0)])) := ⟨_, rfl⟩
  refine z_cw ecw14.symm ?_
  refine z_N (N' := 30) (by omega) ?_
  have hw_15 : cw14 (0) = .inr (3, [.ref (ad13 (1)), .null, .null, .null, .null]) := by rw [ecw14, va_up_ne _ _ (by omega)]; rw [had13 (1) (by omega)]; exact hw_11
  have hw_16 : cw14 (1) = .inr (0, [.ref (ad13 (2)), .int (nI 0), .int (nI 0), .int (nI 0)]) := by rw [ecw14, va_up_ne _ _ (by omega)]; rw [had13 (2) (by omega)]; exact hw_12
  have hw_17 : cw14 (29) = .inr (2, [.null, .int (nI 0)]) := by rw [ecw14]; exact va_up_self _ _ _
  refine z_dup C dX3_init_19 rfl ?_
  refine z_bipush (v := nI 16) C dX3_init_20 (by decide) ?_
  refine z_calln (z_runI (As := [.int (nI 16)]) (rest := [.ref (ad13 (29)), .ref (ad13 (0))]) C (c_Row_init l D cI cR cL B 30 ad13 cw14 (i := 29) (lim := 16) (by omega) hw_17 (by omega)) (cwI 1 C.2.2.2.2.1 gX3_init_X2_init rfl rfl rfl (C.2.2.2.2.1 _ qX3_init_13) (C.2.2.2.2.1 _ qX3_init_14) (C.2.2.2.2.1 _ qX3_init_15) rfl (by decide +kernel) ⟨Nat.le_of_ble_eq_true rfl, Nat.le_of_ble_eq_true rfl⟩) rfl rfl (Nat.le_of_ble_eq_true rfl) dX3_init_22 ⟨Nat.le_of_ble_eq_true rfl, Nat.le_of_ble_eq_true rfl⟩) (fun ad18 cw19 had18 hp20 => ?_)
  rw [← had18 (0) (by omega)]
  rw [← had18 (29) (by omega)]
  refine z_N (N' := 31) rfl ?_
  have hw_21 : cw19 (0) = .inr (3, [.ref (ad18 (1)), .null, .null, .null, .null]) := by rw [hp20.2.2 _ (by omega)]; rw [had18 (1) (by omega)]; exact hw_15
  have hw_22 : cw19 (1) = .inr (0, [.ref (ad18 (2)), .int (nI 0), .int (nI 0), .int (nI 0)]) := by rw [hp20.2.2 _ (by omega)]; rw [had18 (2) (by omega)]; exact hw_16
  have hw_23 : cw19 (29) = .inr (2, [.ref (ad18 (30)), .int (nI 0)]) := hp20.1
  have hw_24 : cw19 (30) = .inl (cI, 16, .inl (fun _ => 0)) := hp20.2.1
  obtain ⟨cw25, ecw25⟩ : ∃ z : Nat → va_E, z = va_up (cw19) (0) (.inr (3, [.ref (ad18 (1)), .ref (ad18 (29)), .null, .null, .null])) := ⟨_, rfl⟩
  refine z_putF (Cn := RX3) (T := TX3) (NF := 5) (ci := 3) (ty := .object "PieceText$Row") (v := .ref (ad18 (29))) C qX3_init_8 tyX3_ok nmX3 rfl 1 (by decide) (C.2.2.2.2.1 _ qX3_init_16) (fun _ h9 => h9) rfl hnm rfl (by decide +kernel) dX3_init_25 (0) (by omega) hw_21 rfl rfl (Nat.le_of_ble_eq_true rfl) ?_
  refine z_cw ecw25.symm ?_
  have hw_26 : cw25 (0) = .inr (3, [.ref (ad18 (1)), .ref (ad18 (29)), .null, .null, .null]) := by rw [ecw25, va_up_self]
  have hw_27 : cw25 (1) = .inr (0, [.ref (ad18 (2)), .int (nI 0), .int (nI 0), .int (nI 0)]) := by rw [ecw25, va_up_ne _ _ (by decide)]; exact hw_22
  have hw_28 : cw25 (29) = .inr (2, [.ref (ad18 (30)), .int (nI 0)]) := by rw [ecw25, va_up_ne _ _ (by decide)]; exact hw_23
  have hw_29 : cw25 (30) = .inl (cI, 16, .inl (fun _ => 0)) := by rw [ecw25, va_up_ne _ _ (by decide)]; exact hw_24
  refine z_aload_n C dX3_init_28 0 rfl ?_
  refine z_new (N := 31) (Cn := RX1) (T := TX1) (NF := 3) (ci := 1) (fs := [.null, .null, .int (nI 0)]) C qX3_init_17 tyX1_ok (C.2.2.2.2.1 _ qX3_init_18) (C.2.2.2.2.1 _ qX3_init_19) (C.2.2.2.2.1 _ qX3_init_20) rfl (fun j hj => by rcases (show j = 0 ∨ j = 1 ∨ j = 2 by omega) with rfl | rfl | rfl <;> rfl) (Nat.le_of_ble_eq_true rfl) (Nat.le_of_ble_eq_true rfl) dX3_init_29 (fun ad30 had30 => ?_)
  rw [← had30 (0) (by omega)]
  obtain ⟨cw31, ecw31⟩ : ∃ z : Nat → va_E, z = va_up cw25 (31) (.inr (1, [.null, .null, .int (nI 0)])) := ⟨_, rfl⟩
  refine z_cw ecw31.symm ?_
  refine z_N (N' := 32) (by omega) ?_
  have hw_32 : cw31 (0) = .inr (3, [.ref (ad30 (1)), .ref (ad30 (29)), .null, .null, .null]) := by rw [ecw31, va_up_ne _ _ (by omega)]; rw [had30 (1) (by omega)]; rw [had30 (29) (by omega)]; exact hw_26
  have hw_33 : cw31 (1) = .inr (0, [.ref (ad30 (2)), .int (nI 0), .int (nI 0), .int (nI 0)]) := by rw [ecw31, va_up_ne _ _ (by omega)]; rw [had30 (2) (by omega)]; exact hw_27
  have hw_34 : cw31 (29) = .inr (2, [.ref (ad30 (30)), .int (nI 0)]) := by rw [ecw31, va_up_ne _ _ (by omega)]; rw [had30 (30) (by omega)]; exact hw_28
  have hw_35 : cw31 (30) = .inl (cI, 16, .inl (fun _ => 0)) := by rw [ecw31, va_up_ne _ _ (by omega)]; exact hw_29
  have hw_36 : cw31 (31) = .inr (1, [.null, .null, .int (nI 0)]) := by rw [ecw31]; exact va_up_self _ _ _
  refine z_dup C dX3_init_32 rfl ?_
  refine z_calln (z_runI (As := []) (rest := [.ref (ad30 (31)), .ref (ad30 (0))]) C (c_Phr_init l D cI cR cL B 32 ad30 cw31 rfl hw_36) (cwI 0 C.2.2.2.2.1 gX3_init_X1_init rfl rfl rfl (C.2.2.2.2.1 _ qX3_init_20) (C.2.2.2.2.1 _ qX3_init_21) (C.2.2.2.2.1 _ qX3_init_22) rfl (by decide +kernel) ⟨Nat.le_of_ble_eq_true rfl, Nat.le_of_ble_eq_true rfl⟩) rfl rfl (Nat.le_of_ble_eq_true rfl) dX3_init_33 ⟨Nat.le_of_ble_eq_true rfl, Nat.le_of_ble_eq_true rfl⟩) (fun ad37 cw38 had37 hp39 => ?_)
  rw [← had37 (0) (by omega)]
  rw [← had37 (31) (by omega)]
  refine z_N (N' := 34) rfl ?_
  have hw_40 : cw38 (0) = .inr (3, [.ref (ad37 (1)), .ref (ad37 (29)), .null, .null, .null]) := by rw [hp39.2.2.2 _ (by omega)]; rw [had37 (1) (by omega)]; rw [had37 (29) (by omega)]; exact hw_32
  have hw_41 : cw38 (1) = .inr (0, [.ref (ad37 (2)), .int (nI 0), .int (nI 0), .int (nI 0)]) := by rw [hp39.2.2.2 _ (by omega)]; rw [had37 (2) (by omega)]; exact hw_33
  have hw_42 : cw38 (29) = .inr (2, [.ref (ad37 (30)), .int (nI 0)]) := by rw [hp39.2.2.2 _ (by omega)]; rw [had37 (30) (by omega)]; exact hw_34
  have hw_43 : cw38 (30) = .inl (cI, 16, .inl (fun _ => 0)) := by rw [hp39.2.2.2 _ (by omega)]; exact hw_35
  have hw_44 : cw38 (31) = .inr (1, [.ref (ad37 (32)), .ref (ad37 (33)), .int (nI 0)]) := hp39.1
  have hw_45 : cw38 (32) = .inl (cI, 240, .inl (fun _ => 0)) := hp39.2.1
  have hw_46 : cw38 (33) = .inl (cI, 241, .inl (fun _ => 0)) := hp39.2.2.1
  obtain ⟨cw47, ecw47⟩ : ∃ z : Nat → va_E, z = va_up (cw38) (0) (.inr (3, [.ref (ad37 (1)), .ref (ad37 (29)), .ref (ad37 (31)), .null, .null])) := ⟨_, rfl⟩
  refine z_putF (Cn := RX3) (T := TX3) (NF := 5) (ci := 3) (ty := .object "PieceText$Phrases") (v := .ref (ad37 (31))) C qX3_init_8 tyX3_ok nmX3 rfl 2 (by decide) (C.2.2.2.2.1 _ qX3_init_23) (fun _ h9 => h9) rfl hnm rfl (by decide +kernel) dX3_init_36 (0) (by omega) hw_40 rfl rfl (Nat.le_of_ble_eq_true rfl) ?_
  refine z_cw ecw47.symm ?_
  have hw_48 : cw47 (0) = .inr (3, [.ref (ad37 (1)), .ref (ad37 (29)), .ref (ad37 (31)), .null, .null]) := by rw [ecw47, va_up_self]
  have hw_49 : cw47 (1) = .inr (0, [.ref (ad37 (2)), .int (nI 0), .int (nI 0), .int (nI 0)]) := by rw [ecw47, va_up_ne _ _ (by decide)]; exact hw_41
  have hw_50 : cw47 (29) = .inr (2, [.ref (ad37 (30)), .int (nI 0)]) := by rw [ecw47, va_up_ne _ _ (by decide)]; exact hw_42
  have hw_51 : cw47 (30) = .inl (cI, 16, .inl (fun _ => 0)) := by rw [ecw47, va_up_ne _ _ (by decide)]; exact hw_43
  have hw_52 : cw47 (31) = .inr (1, [.ref (ad37 (32)), .ref (ad37 (33)), .int (nI 0)]) := by rw [ecw47, va_up_ne _ _ (by decide)]; exact hw_44
  have hw_53 : cw47 (32) = .inl (cI, 240, .inl (fun _ => 0)) := by rw [ecw47, va_up_ne _ _ (by decide)]; exact hw_45
  have hw_54 : cw47 (33) = .inl (cI, 241, .inl (fun _ => 0)) := by rw [ecw47, va_up_ne _ _ (by decide)]; exact hw_46
  refine z_aload_n C dX3_init_39 0 rfl ?_
  refine z_new (N := 34) (Cn := RX2) (T := TX2) (NF := 2) (ci := 2) (fs := [.null, .int (nI 0)]) C qX3_init_10 tyX2_ok (C.2.2.2.2.1 _ qX3_init_11) (C.2.2.2.2.1 _ qX3_init_12) (C.2.2.2.2.1 _ qX3_init_13) rfl (fun j hj => by rcases (show j = 0 ∨ j = 1 by omega) with rfl | rfl <;> rfl) (Nat.le_of_ble_eq_true rfl) (Nat.le_of_ble_eq_true rfl) dX3_init_40 (fun ad55 had55 => ?_)
  rw [← had55 (0) (by omega)]
  obtain ⟨cw56, ecw56⟩ : ∃ z : Nat → va_E, z = va_up cw47 (34) (.inr (2, [.null, .int (nI 0)])) := ⟨_, rfl⟩
  refine z_cw ecw56.symm ?_
  refine z_N (N' := 35) (by omega) ?_
  have hw_57 : cw56 (0) = .inr (3, [.ref (ad55 (1)), .ref (ad55 (29)), .ref (ad55 (31)), .null, .null]) := by rw [ecw56, va_up_ne _ _ (by omega)]; rw [had55 (1) (by omega)]; rw [had55 (29) (by omega)]; rw [had55 (31) (by omega)]; exact hw_48
  have hw_58 : cw56 (1) = .inr (0, [.ref (ad55 (2)), .int (nI 0), .int (nI 0), .int (nI 0)]) := by rw [ecw56, va_up_ne _ _ (by omega)]; rw [had55 (2) (by omega)]; exact hw_49
  have hw_59 : cw56 (29) = .inr (2, [.ref (ad55 (30)), .int (nI 0)]) := by rw [ecw56, va_up_ne _ _ (by omega)]; rw [had55 (30) (by omega)]; exact hw_50
  have hw_60 : cw56 (30) = .inl (cI, 16, .inl (fun _ => 0)) := by rw [ecw56, va_up_ne _ _ (by omega)]; exact hw_51
  have hw_61 : cw56 (31) = .inr (1, [.ref (ad55 (32)), .ref (ad55 (33)), .int (nI 0)]) := by rw [ecw56, va_up_ne _ _ (by omega)]; rw [had55 (32) (by omega)]; rw [had55 (33) (by omega)]; exact hw_52
  have hw_62 : cw56 (32) = .inl (cI, 240, .inl (fun _ => 0)) := by rw [ecw56, va_up_ne _ _ (by omega)]; exact hw_53
  have hw_63 : cw56 (33) = .inl (cI, 241, .inl (fun _ => 0)) := by rw [ecw56, va_up_ne _ _ (by omega)]; exact hw_54
  have hw_64 : cw56 (34) = .inr (2, [.null, .int (nI 0)]) := by rw [ecw56]; exact va_up_self _ _ _
  refine z_dup C dX3_init_43 rfl ?_
  refine z_sipush (v := nI 240) C dX3_init_44 (by decide) ?_
  refine z_calln (z_runI (As := [.int (nI 240)]) (rest := [.ref (ad55 (34)), .ref (ad55 (0))]) C (c_Row_init l D cI cR cL B 35 ad55 cw56 (i := 34) (lim := 240) (by omega) hw_64 (by omega)) (cwI 1 C.2.2.2.2.1 gX3_init_X2_init rfl rfl rfl (C.2.2.2.2.1 _ qX3_init_13) (C.2.2.2.2.1 _ qX3_init_14) (C.2.2.2.2.1 _ qX3_init_15) rfl (by decide +kernel) ⟨Nat.le_of_ble_eq_true rfl, Nat.le_of_ble_eq_true rfl⟩) rfl rfl (Nat.le_of_ble_eq_true rfl) dX3_init_47 ⟨Nat.le_of_ble_eq_true rfl, Nat.le_of_ble_eq_true rfl⟩) (fun ad65 cw66 had65 hp67 => ?_)
  rw [← had65 (0) (by omega)]
  rw [← had65 (34) (by omega)]
  refine z_N (N' := 36) rfl ?_
  have hw_68 : cw66 (0) = .inr (3, [.ref (ad65 (1)), .ref (ad65 (29)), .ref (ad65 (31)), .null, .null]) := by rw [hp67.2.2 _ (by omega)]; rw [had65 (1) (by omega)]; rw [had65 (29) (by omega)]; rw [had65 (31) (by omega)]; exact hw_57
  have hw_69 : cw66 (1) = .inr (0, [.ref (ad65 (2)), .int (nI 0), .int (nI 0), .int (nI 0)]) := by rw [hp67.2.2 _ (by omega)]; rw [had65 (2) (by omega)]; exact hw_58
  have hw_70 : cw66 (29) = .inr (2, [.ref (ad65 (30)), .int (nI 0)]) := by rw [hp67.2.2 _ (by omega)]; rw [had65 (30) (by omega)]; exact hw_59
  have hw_71 : cw66 (30) = .inl (cI, 16, .inl (fun _ => 0)) := by rw [hp67.2.2 _ (by omega)]; exact hw_60
  have hw_72 : cw66 (31) = .inr (1, [.ref (ad65 (32)), .ref (ad65 (33)), .int (nI 0)]) := by rw [hp67.2.2 _ (by omega)]; rw [had65 (32) (by omega)]; rw [had65 (33) (by omega)]; exact hw_61
  have hw_73 : cw66 (32) = .inl (cI, 240, .inl (fun _ => 0)) := by rw [hp67.2.2 _ (by omega)]; exact hw_62
  have hw_74 : cw66 (33) = .inl (cI, 241, .inl (fun _ => 0)) := by rw [hp67.2.2 _ (by omega)]; exact hw_63
  have hw_75 : cw66 (34) = .inr (2, [.ref (ad65 (35)), .int (nI 0)]) := hp67.1
  have hw_76 : cw66 (35) = .inl (cI, 240, .inl (fun _ => 0)) := hp67.2.1
  obtain ⟨cw77, ecw77⟩ : ∃ z : Nat → va_E, z = va_up (cw66) (0) (.inr (3, [.ref (ad65 (1)), .ref (ad65 (29)), .ref (ad65 (31)), .ref (ad65 (34)), .null])) := ⟨_, rfl⟩
  refine z_putF (Cn := RX3) (T := TX3) (NF := 5) (ci := 3) (ty := .object "PieceText$Row") (v := .ref (ad65 (34))) C qX3_init_8 tyX3_ok nmX3 rfl 3 (by decide) (C.2.2.2.2.1 _ qX3_init_24) (fun _ h9 => h9) rfl hnm rfl (by decide +kernel) dX3_init_50 (0) (by omega) hw_68 rfl rfl (Nat.le_of_ble_eq_true rfl) ?_
  refine z_cw ecw77.symm ?_
  have hw_78 : cw77 (0) = .inr (3, [.ref (ad65 (1)), .ref (ad65 (29)), .ref (ad65 (31)), .ref (ad65 (34)), .null]) := by rw [ecw77, va_up_self]
  have hw_79 : cw77 (1) = .inr (0, [.ref (ad65 (2)), .int (nI 0), .int (nI 0), .int (nI 0)]) := by rw [ecw77, va_up_ne _ _ (by decide)]; exact hw_69
  have hw_80 : cw77 (29) = .inr (2, [.ref (ad65 (30)), .int (nI 0)]) := by rw [ecw77, va_up_ne _ _ (by decide)]; exact hw_70
  have hw_81 : cw77 (30) = .inl (cI, 16, .inl (fun _ => 0)) := by rw [ecw77, va_up_ne _ _ (by decide)]; exact hw_71
  have hw_82 : cw77 (31) = .inr (1, [.ref (ad65 (32)), .ref (ad65 (33)), .int (nI 0)]) := by rw [ecw77, va_up_ne _ _ (by decide)]; exact hw_72
  have hw_83 : cw77 (32) = .inl (cI, 240, .inl (fun _ => 0)) := by rw [ecw77, va_up_ne _ _ (by decide)]; exact hw_73
  have hw_84 : cw77 (33) = .inl (cI, 241, .inl (fun _ => 0)) := by rw [ecw77, va_up_ne _ _ (by decide)]; exact hw_74
  have hw_85 : cw77 (34) = .inr (2, [.ref (ad65 (35)), .int (nI 0)]) := by rw [ecw77, va_up_ne _ _ (by decide)]; exact hw_75
  have hw_86 : cw77 (35) = .inl (cI, 240, .inl (fun _ => 0)) := by rw [ecw77, va_up_ne _ _ (by decide)]; exact hw_76
  refine z_aload_n C dX3_init_53 0 rfl ?_
  refine z_sipush (v := nI 256) C dX3_init_54 (by decide) ?_
  refine z_newa (N := 36) (N' := 256) C 0 rfl (C.2.2.2.2.1 _ qX3_init_25) (rfl) (by omega) (Nat.le_of_ble_eq_true rfl) (Nat.le_of_ble_eq_true rfl) dX3_init_57 (fun ad87 had87 => ?_)
  rw [← had87 (0) (by omega)]
  obtain ⟨cw88, ecw88⟩ : ∃ z : Nat → va_E, z = va_up cw77 (36) (.inl (cI, 256, .inl (fun _ => 0))) := ⟨_, rfl⟩
  refine z_cw ecw88.symm ?_
  refine z_N (N' := 37) (by omega) ?_
  have hw_89 : cw88 (0) = .inr (3, [.ref (ad87 (1)), .ref (ad87 (29)), .ref (ad87 (31)), .ref (ad87 (34)), .null]) := by rw [ecw88, va_up_ne _ _ (by omega)]; rw [had87 (1) (by omega)]; rw [had87 (29) (by omega)]; rw [had87 (31) (by omega)]; rw [had87 (34) (by omega)]; exact hw_78
  have hw_90 : cw88 (1) = .inr (0, [.ref (ad87 (2)), .int (nI 0), .int (nI 0), .int (nI 0)]) := by rw [ecw88, va_up_ne _ _ (by omega)]; rw [had87 (2) (by omega)]; exact hw_79
  have hw_91 : cw88 (29) = .inr (2, [.ref (ad87 (30)), .int (nI 0)]) := by rw [ecw88, va_up_ne _ _ (by omega)]; rw [had87 (30) (by omega)]; exact hw_80
  have hw_92 : cw88 (30) = .inl (cI, 16, .inl (fun _ => 0)) := by rw [ecw88, va_up_ne _ _ (by omega)]; exact hw_81
  have hw_93 : cw88 (31) = .inr (1, [.ref (ad87 (32)), .ref (ad87 (33)), .int (nI 0)]) := by rw [ecw88, va_up_ne _ _ (by omega)]; rw [had87 (32) (by omega)]; rw [had87 (33) (by omega)]; exact hw_82
  have hw_94 : cw88 (32) = .inl (cI, 240, .inl (fun _ => 0)) := by rw [ecw88, va_up_ne _ _ (by omega)]; exact hw_83
  have hw_95 : cw88 (33) = .inl (cI, 241, .inl (fun _ => 0)) := by rw [ecw88, va_up_ne _ _ (by omega)]; exact hw_84
  have hw_96 : cw88 (34) = .inr (2, [.ref (ad87 (35)), .int (nI 0)]) := by rw [ecw88, va_up_ne _ _ (by omega)]; rw [had87 (35) (by omega)]; exact hw_85
  have hw_97 : cw88 (35) = .inl (cI, 240, .inl (fun _ => 0)) := by rw [ecw88, va_up_ne _ _ (by omega)]; exact hw_86
  have hw_98 : cw88 (36) = .inl (cI, 256, .inl (fun _ => 0)) := by rw [ecw88]; exact va_up_self _ _ _
  obtain ⟨cw99, ecw99⟩ : ∃ z : Nat → va_E, z = va_up (cw88) (0) (.inr (3, [.ref (ad87 (1)), .ref (ad87 (29)), .ref (ad87 (31)), .ref (ad87 (34)), .ref (ad87 (36))])) := ⟨_, rfl⟩
  refine z_putF (Cn := RX3) (T := TX3) (NF := 5) (ci := 3) (ty := .array .int) (v := .ref (ad87 (36))) C qX3_init_8 tyX3_ok nmX3 rfl 4 (by decide) (C.2.2.2.2.1 _ qX3_init_26) (fun _ h9 => h9) rfl hnm rfl (by decide +kernel) dX3_init_59 (0) (by omega) hw_89 rfl rfl (Nat.le_of_ble_eq_true rfl) ?_
  refine z_cw ecw99.symm ?_
  have hw_100 : cw99 (0) = .inr (3, [.ref (ad87 (1)), .ref (ad87 (29)), .ref (ad87 (31)), .ref (ad87 (34)), .ref (ad87 (36))]) := by rw [ecw99, va_up_self]
  have hw_101 : cw99 (1) = .inr (0, [.ref (ad87 (2)), .int (nI 0), .int (nI 0), .int (nI 0)]) := by rw [ecw99, va_up_ne _ _ (by decide)]; exact hw_90
  have hw_102 : cw99 (29) = .inr (2, [.ref (ad87 (30)), .int (nI 0)]) := by rw [ecw99, va_up_ne _ _ (by decide)]; exact hw_91
  have hw_103 : cw99 (30) = .inl (cI, 16, .inl (fun _ => 0)) := by rw [ecw99, va_up_ne _ _ (by decide)]; exact hw_92
  have hw_104 : cw99 (31) = .inr (1, [.ref (ad87 (32)), .ref (ad87 (33)), .int (nI 0)]) := by rw [ecw99, va_up_ne _ _ (by decide)]; exact hw_93
  have hw_105 : cw99 (32) = .inl (cI, 240, .inl (fun _ => 0)) := by rw [ecw99, va_up_ne _ _ (by decide)]; exact hw_94
  have hw_106 : cw99 (33) = .inl (cI, 241, .inl (fun _ => 0)) := by rw [ecw99, va_up_ne _ _ (by decide)]; exact hw_95
  have hw_107 : cw99 (34) = .inr (2, [.ref (ad87 (35)), .int (nI 0)]) := by rw [ecw99, va_up_ne _ _ (by decide)]; exact hw_96
  have hw_108 : cw99 (35) = .inl (cI, 240, .inl (fun _ => 0)) := by rw [ecw99, va_up_ne _ _ (by decide)]; exact hw_97
  have hw_109 : cw99 (36) = .inl (cI, 256, .inl (fun _ => 0)) := by rw [ecw99, va_up_ne _ _ (by decide)]; exact hw_98
  have hfr9 : ∀ j, (1 ≤ j ∧ j ≤ 28) → cw99 j = cw6 j := fun j hj => by rw [ecw99, va_up_ne _ _ (by omega)]; rw [ecw88, va_up_ne _ _ (by omega)]; rw [ecw77, va_up_ne _ _ (by omega)]; rw [hp67.2.2 j (by omega)]; rw [ecw56, va_up_ne _ _ (by omega)]; rw [ecw47, va_up_ne _ _ (by omega)]; rw [hp39.2.2.2 j (by omega)]; rw [ecw31, va_up_ne _ _ (by omega)]; rw [ecw25, va_up_ne _ _ (by omega)]; rw [hp20.2.2 j (by omega)]; rw [ecw14, va_up_ne _ _ (by omega)]; rw [ecw10, va_up_ne _ _ (by omega)]
  have had9 : ∀ k, k < 29 → ad87 k = ad5 k := fun k hk => (had87 k (by omega)).trans ((had65 k (by omega)).trans ((had55 k (by omega)).trans ((had37 k (by omega)).trans ((had30 k (by omega)).trans ((had18 k (by omega)).trans (had13 k (by omega)))))))
  have hrow : ∀ i, i < 13 → zRow cI ad87 cw99 (3 + 2 * i) (4 + 2 * i) 240 [] := fun i hi => ⟨by rw [hfr9 _ (by omega), (hp7.2.2.1 i hi).1, had9 _ (by omega)]; rfl, Nat.zero_le _, _, by rw [hfr9 _ (by omega), (hp7.2.2.1 i hi).2], zIs_nil _⟩
  have htx : zTexts cR ad87 cw99 := by obtain ⟨fr, h1, h2⟩ := hp7.2.1; exact ⟨fr, by rw [hfr9 _ (by omega), h1], fun i hi => by rw [h2 i hi, had9 _ (by omega)]⟩
  exact z_nret C hr dX3_init_62 (⟨fun k hk => (had87 k (by omega)).trans ((had65 k (by omega)).trans ((had55 k (by omega)).trans ((had37 k (by omega)).trans ((had30 k (by omega)).trans ((had18 k (by omega)).trans ((had13 k (by omega)).trans ((had5 k (by omega)).trans (had1 k (by omega))))))))), hw_100, ⟨0, by omega, by omega, hw_101, fun j hj => by rw [show j = 0 by omega]; exact hrow 0 (by omega), fun i hi => ⟨[], hrow i hi⟩, fun j hj => zCh_nil⟩, htx, ⟨hw_102, Nat.zero_le _, _, hw_103, zIs_nil _⟩, ⟨hw_104, Nat.zero_le _, ⟨_, hw_105, zIs_nil _⟩, _, hw_106⟩, ⟨hw_107, Nat.zero_le _, _, hw_108, zIs_nil _⟩, _, hw_109⟩) (Nat.le_of_ble_eq_true rfl) (Nat.le_of_ble_eq_true rfl)

theorem qX4_init_0 : Cond.methodLink RX4 1 objectInit ∈ wsX4_init := by decide +kernel
theorem qX4_init_1 : Cond.instanceMethod objectInit ∈ wsX4_init := by decide +kernel
theorem qX4_init_2 : Cond.arrayClass .int ∈ wsX4_init := by decide +kernel
theorem qX4_init_3 : ∀ w ∈ wsX40, w ∈ wsX4_init := by decide +kernel
theorem qX4_init_4 : Cond.fieldLink RX4 7 "PieceTextModel" "texts" "[I" ∈ wsX4_init := by decide +kernel
theorem qX4_init_5 : Cond.fieldLink RX4 13 "PieceTextModel" "lengths" "[I" ∈ wsX4_init := by decide +kernel
theorem qX4_init_6 : Cond.fieldLink RX4 16 "PieceTextModel" "draft" "[I" ∈ wsX4_init := by decide +kernel
theorem qX4_init_7 : Cond.fieldLink RX4 19 "PieceTextModel" "pattern" "[I" ∈ wsX4_init := by decide +kernel
theorem qX4_init_8 : Cond.fieldLink RX4 22 "PieceTextModel" "words" "[I" ∈ wsX4_init := by decide +kernel
theorem qX4_init_9 : Cond.fieldLink RX4 25 "PieceTextModel" "begins" "[I" ∈ wsX4_init := by decide +kernel
theorem qX4_init_10 : Cond.fieldLink RX4 28 "PieceTextModel" "sizes" "[I" ∈ wsX4_init := by decide +kernel
set_option maxHeartbeats 4000000 in
set_option maxRecDepth 100000 in
theorem c_M_init (l : Launch) (D : va_G) (cI cR cL : ClassId) (B N : Nat) (ad : Nat → Nat) (cw : Nat → va_E) (hN2 : N = 38) (e1 : cw (37) = .inr (4, [.int (nI 0), .null, .null, .int (nI 0), .int (nI 0), .null, .int (nI 0), .null, .int (nI 0), .null, .int (nI 0), .null, .null])) : Met l yX4_init wsX4_init ({ frames := 1, cells := 7, slots := 4111, locals := 20 } : Room) (va_Pc [.ref (ad (37))] (zI D vwCl (zTy cI cR cL) B N ad cw)) (zQn D vwCl B N (45) ad (fun (ad' : Nat → Nat) (cw' : Nat → va_E) => zRM cI ad' cw' 0 0 (fun _ => []) [] [] (nI 0) (nI 0) ∧ ∀ j, j < 37 → cw' j = cw j)) 7 4111 (zA B) := by
  subst hN2
  refine z_ofW (cc := cX4_init) (maxL := 1) (ret := none) (by decide) rfl (Nat.le_of_ble_eq_true rfl) ?_
  intro p e s m args below meth c C hr hnm
  refine z_lv (lv' := [(0, .ref (ad (37)))]) [0] rfl ?_
  refine z_aload_n C dX4_init_0 0 rfl ?_
  refine z_objInit C (C.2.2.2.2.1 _ qX4_init_0) (C.2.2.2.2.1 _ qX4_init_1) (C.2.2.2.2.1 _ (List.mem_of_getElem? (i := 3) rfl)) dX4_init_1 (Nat.le_of_ble_eq_true rfl) (Nat.le_of_ble_eq_true rfl) ?_
  refine z_aload_n C dX4_init_4 0 rfl ?_
  refine z_sipush (v := nI 3120) C dX4_init_5 (by decide) ?_
  refine z_newa (N := 38) (N' := 3120) C 0 rfl (C.2.2.2.2.1 _ qX4_init_2) (rfl) (by omega) (Nat.le_of_ble_eq_true rfl) (Nat.le_of_ble_eq_true rfl) dX4_init_8 (fun ad1 had1 => ?_)
  rw [← had1 (37) (by omega)]
  obtain ⟨cw2, ecw2⟩ : ∃ z : Nat → va_E, z = va_up cw (38) (.inl (cI, 3120, .inl (fun _ => 0))) := ⟨_, rfl⟩
  refine z_cw ecw2.symm ?_
  refine z_N (N' := 39) (by omega) ?_
  have hw_3 : cw2 (37) = .inr (4, [.int (nI 0), .null, .null, .int (nI 0), .int (nI 0), .null, .int (nI 0), .null, .int (nI 0), .null, .int (nI 0), .null, .null]) := by rw [ecw2, va_up_ne _ _ (by omega)]; exact e1
  have hw_4 : cw2 (38) = .inl (cI, 3120, .inl (fun _ => 0)) := by rw [ecw2]; exact va_up_self _ _ _
  obtain ⟨cw5, ecw5⟩ : ∃ z : Nat → va_E, z = va_up (cw2) (37) (.inr (4, [.int (nI 0), .ref (ad1 (38)), .null, .int (nI 0), .int (nI 0), .null, .int (nI 0), .null, .int (nI 0), .null, .int (nI 0), .null, .null])) := ⟨_, rfl⟩
  refine z_putF (Cn := RX4) (T := TX4) (NF := 13) (ci := 4) (ty := .array .int) (v := .ref (ad1 (38))) C qX4_init_3 tyX4_ok nmX4 rfl 1 (by decide) (C.2.2.2.2.1 _ qX4_init_4) (fun _ h9 => h9) rfl hnm rfl (by decide +kernel) dX4_init_10 (37) (by omega) hw_3 rfl rfl (Nat.le_of_ble_eq_true rfl) ?_
  refine z_cw ecw5.symm ?_
  have hw_6 : cw5 (37) = .inr (4, [.int (nI 0), .ref (ad1 (38)), .null, .int (nI 0), .int (nI 0), .null, .int (nI 0), .null, .int (nI 0), .null, .int (nI 0), .null, .null]) := by rw [ecw5, va_up_self]
  have hw_7 : cw5 (38) = .inl (cI, 3120, .inl (fun _ => 0)) := by rw [ecw5, va_up_ne _ _ (by decide)]; exact hw_4
  refine z_aload_n C dX4_init_13 0 rfl ?_
  refine z_bipush (v := nI 13) C dX4_init_14 (by decide) ?_
  refine z_newa (N := 39) (N' := 13) C 0 rfl (C.2.2.2.2.1 _ qX4_init_2) (rfl) (by omega) (Nat.le_of_ble_eq_true rfl) (Nat.le_of_ble_eq_true rfl) dX4_init_16 (fun ad8 had8 => ?_)
  rw [← had8 (37) (by omega)]
  obtain ⟨cw9, ecw9⟩ : ∃ z : Nat → va_E, z = va_up cw5 (39) (.inl (cI, 13, .inl (fun _ => 0))) := ⟨_, rfl⟩
  refine z_cw ecw9.symm ?_
  refine z_N (N' := 40) (by omega) ?_
  have hw_10 : cw9 (37) = .inr (4, [.int (nI 0), .ref (ad8 (38)), .null, .int (nI 0), .int (nI 0), .null, .int (nI 0), .null, .int (nI 0), .null, .int (nI 0), .null, .null]) := by rw [ecw9, va_up_ne _ _ (by omega)]; rw [had8 (38) (by omega)]; exact hw_6
  have hw_11 : cw9 (38) = .inl (cI, 3120, .inl (fun _ => 0)) := by rw [ecw9, va_up_ne _ _ (by omega)]; exact hw_7
  have hw_12 : cw9 (39) = .inl (cI, 13, .inl (fun _ => 0)) := by rw [ecw9]; exact va_up_self _ _ _
  obtain ⟨cw13, ecw13⟩ : ∃ z : Nat → va_E, z = va_up (cw9) (37) (.inr (4, [.int (nI 0), .ref (ad8 (38)), .ref (ad8 (39)), .int (nI 0), .int (nI 0), .null, .int (nI 0), .null, .int (nI 0), .null, .int (nI 0), .null, .null])) := ⟨_, rfl⟩
  refine z_putF (Cn := RX4) (T := TX4) (NF := 13) (ci := 4) (ty := .array .int) (v := .ref (ad8 (39))) C qX4_init_3 tyX4_ok nmX4 rfl 2 (by decide) (C.2.2.2.2.1 _ qX4_init_5) (fun _ h9 => h9) rfl hnm rfl (by decide +kernel) dX4_init_18 (37) (by omega) hw_10 rfl rfl (Nat.le_of_ble_eq_true rfl) ?_
  refine z_cw ecw13.symm ?_
  have hw_14 : cw13 (37) = .inr (4, [.int (nI 0), .ref (ad8 (38)), .ref (ad8 (39)), .int (nI 0), .int (nI 0), .null, .int (nI 0), .null, .int (nI 0), .null, .int (nI 0), .null, .null]) := by rw [ecw13, va_up_self]
  have hw_15 : cw13 (38) = .inl (cI, 3120, .inl (fun _ => 0)) := by rw [ecw13, va_up_ne _ _ (by decide)]; exact hw_11
  have hw_16 : cw13 (39) = .inl (cI, 13, .inl (fun _ => 0)) := by rw [ecw13, va_up_ne _ _ (by decide)]; exact hw_12
  refine z_aload_n C dX4_init_21 0 rfl ?_
  refine z_sipush (v := nI 240) C dX4_init_22 (by decide) ?_
  refine z_newa (N := 40) (N' := 240) C 0 rfl (C.2.2.2.2.1 _ qX4_init_2) (rfl) (by omega) (Nat.le_of_ble_eq_true rfl) (Nat.le_of_ble_eq_true rfl) dX4_init_25 (fun ad17 had17 => ?_)
  rw [← had17 (37) (by omega)]
  obtain ⟨cw18, ecw18⟩ : ∃ z : Nat → va_E, z = va_up cw13 (40) (.inl (cI, 240, .inl (fun _ => 0))) := ⟨_, rfl⟩
  refine z_cw ecw18.symm ?_
  refine z_N (N' := 41) (by omega) ?_
  have hw_19 : cw18 (37) = .inr (4, [.int (nI 0), .ref (ad17 (38)), .ref (ad17 (39)), .int (nI 0), .int (nI 0), .null, .int (nI 0), .null, .int (nI 0), .null, .int (nI 0), .null, .null]) := by rw [ecw18, va_up_ne _ _ (by omega)]; rw [had17 (38) (by omega)]; rw [had17 (39) (by omega)]; exact hw_14
  have hw_20 : cw18 (38) = .inl (cI, 3120, .inl (fun _ => 0)) := by rw [ecw18, va_up_ne _ _ (by omega)]; exact hw_15
  have hw_21 : cw18 (39) = .inl (cI, 13, .inl (fun _ => 0)) := by rw [ecw18, va_up_ne _ _ (by omega)]; exact hw_16
  have hw_22 : cw18 (40) = .inl (cI, 240, .inl (fun _ => 0)) := by rw [ecw18]; exact va_up_self _ _ _
  obtain ⟨cw23, ecw23⟩ : ∃ z : Nat → va_E, z = va_up (cw18) (37) (.inr (4, [.int (nI 0), .ref (ad17 (38)), .ref (ad17 (39)), .int (nI 0), .int (nI 0), .ref (ad17 (40)), .int (nI 0), .null, .int (nI 0), .null, .int (nI 0), .null, .null])) := ⟨_, rfl⟩
  refine z_putF (Cn := RX4) (T := TX4) (NF := 13) (ci := 4) (ty := .array .int) (v := .ref (ad17 (40))) C qX4_init_3 tyX4_ok nmX4 rfl 5 (by decide) (C.2.2.2.2.1 _ qX4_init_6) (fun _ h9 => h9) rfl hnm rfl (by decide +kernel) dX4_init_27 (37) (by omega) hw_19 rfl rfl (Nat.le_of_ble_eq_true rfl) ?_
  refine z_cw ecw23.symm ?_
  have hw_24 : cw23 (37) = .inr (4, [.int (nI 0), .ref (ad17 (38)), .ref (ad17 (39)), .int (nI 0), .int (nI 0), .ref (ad17 (40)), .int (nI 0), .null, .int (nI 0), .null, .int (nI 0), .null, .null]) := by rw [ecw23, va_up_self]
  have hw_25 : cw23 (38) = .inl (cI, 3120, .inl (fun _ => 0)) := by rw [ecw23, va_up_ne _ _ (by decide)]; exact hw_20
  have hw_26 : cw23 (39) = .inl (cI, 13, .inl (fun _ => 0)) := by rw [ecw23, va_up_ne _ _ (by decide)]; exact hw_21
  have hw_27 : cw23 (40) = .inl (cI, 240, .inl (fun _ => 0)) := by rw [ecw23, va_up_ne _ _ (by decide)]; exact hw_22
  refine z_aload_n C dX4_init_30 0 rfl ?_
  refine z_bipush (v := nI 16) C dX4_init_31 (by decide) ?_
  refine z_newa (N := 41) (N' := 16) C 0 rfl (C.2.2.2.2.1 _ qX4_init_2) (rfl) (by omega) (Nat.le_of_ble_eq_true rfl) (Nat.le_of_ble_eq_true rfl) dX4_init_33 (fun ad28 had28 => ?_)
  rw [← had28 (37) (by omega)]
  obtain ⟨cw29, ecw29⟩ : ∃ z : Nat → va_E, z = va_up cw23 (41) (.inl (cI, 16, .inl (fun _ => 0))) := ⟨_, rfl⟩
  refine z_cw ecw29.symm ?_
  refine z_N (N' := 42) (by omega) ?_
  have hw_30 : cw29 (37) = .inr (4, [.int (nI 0), .ref (ad28 (38)), .ref (ad28 (39)), .int (nI 0), .int (nI 0), .ref (ad28 (40)), .int (nI 0), .null, .int (nI 0), .null, .int (nI 0), .null, .null]) := by rw [ecw29, va_up_ne _ _ (by omega)]; rw [had28 (38) (by omega)]; rw [had28 (39) (by omega)]; rw [had28 (40) (by omega)]; exact hw_24
  have hw_31 : cw29 (38) = .inl (cI, 3120, .inl (fun _ => 0)) := by rw [ecw29, va_up_ne _ _ (by omega)]; exact hw_25
  have hw_32 : cw29 (39) = .inl (cI, 13, .inl (fun _ => 0)) := by rw [ecw29, va_up_ne _ _ (by omega)]; exact hw_26
  have hw_33 : cw29 (40) = .inl (cI, 240, .inl (fun _ => 0)) := by rw [ecw29, va_up_ne _ _ (by omega)]; exact hw_27
  have hw_34 : cw29 (41) = .inl (cI, 16, .inl (fun _ => 0)) := by rw [ecw29]; exact va_up_self _ _ _
  obtain ⟨cw35, ecw35⟩ : ∃ z : Nat → va_E, z = va_up (cw29) (37) (.inr (4, [.int (nI 0), .ref (ad28 (38)), .ref (ad28 (39)), .int (nI 0), .int (nI 0), .ref (ad28 (40)), .int (nI 0), .ref (ad28 (41)), .int (nI 0), .null, .int (nI 0), .null, .null])) := ⟨_, rfl⟩
  refine z_putF (Cn := RX4) (T := TX4) (NF := 13) (ci := 4) (ty := .array .int) (v := .ref (ad28 (41))) C qX4_init_3 tyX4_ok nmX4 rfl 7 (by decide) (C.2.2.2.2.1 _ qX4_init_7) (fun _ h9 => h9) rfl hnm rfl (by decide +kernel) dX4_init_35 (37) (by omega) hw_30 rfl rfl (Nat.le_of_ble_eq_true rfl) ?_
  refine z_cw ecw35.symm ?_
  have hw_36 : cw35 (37) = .inr (4, [.int (nI 0), .ref (ad28 (38)), .ref (ad28 (39)), .int (nI 0), .int (nI 0), .ref (ad28 (40)), .int (nI 0), .ref (ad28 (41)), .int (nI 0), .null, .int (nI 0), .null, .null]) := by rw [ecw35, va_up_self]
  have hw_37 : cw35 (38) = .inl (cI, 3120, .inl (fun _ => 0)) := by rw [ecw35, va_up_ne _ _ (by decide)]; exact hw_31
  have hw_38 : cw35 (39) = .inl (cI, 13, .inl (fun _ => 0)) := by rw [ecw35, va_up_ne _ _ (by decide)]; exact hw_32
  have hw_39 : cw35 (40) = .inl (cI, 240, .inl (fun _ => 0)) := by rw [ecw35, va_up_ne _ _ (by decide)]; exact hw_33
  have hw_40 : cw35 (41) = .inl (cI, 16, .inl (fun _ => 0)) := by rw [ecw35, va_up_ne _ _ (by decide)]; exact hw_34
  refine z_aload_n C dX4_init_38 0 rfl ?_
  refine z_sipush (v := nI 240) C dX4_init_39 (by decide) ?_
  refine z_newa (N := 42) (N' := 240) C 0 rfl (C.2.2.2.2.1 _ qX4_init_2) (rfl) (by omega) (Nat.le_of_ble_eq_true rfl) (Nat.le_of_ble_eq_true rfl) dX4_init_42 (fun ad41 had41 => ?_)
  rw [← had41 (37) (by omega)]
  obtain ⟨cw42, ecw42⟩ : ∃ z : Nat → va_E, z = va_up cw35 (42) (.inl (cI, 240, .inl (fun _ => 0))) := ⟨_, rfl⟩
  refine z_cw ecw42.symm ?_
  refine z_N (N' := 43) (by omega) ?_
  have hw_43 : cw42 (37) = .inr (4, [.int (nI 0), .ref (ad41 (38)), .ref (ad41 (39)), .int (nI 0), .int (nI 0), .ref (ad41 (40)), .int (nI 0), .ref (ad41 (41)), .int (nI 0), .null, .int (nI 0), .null, .null]) := by rw [ecw42, va_up_ne _ _ (by omega)]; rw [had41 (38) (by omega)]; rw [had41 (39) (by omega)]; rw [had41 (40) (by omega)]; rw [had41 (41) (by omega)]; exact hw_36
  have hw_44 : cw42 (38) = .inl (cI, 3120, .inl (fun _ => 0)) := by rw [ecw42, va_up_ne _ _ (by omega)]; exact hw_37
  have hw_45 : cw42 (39) = .inl (cI, 13, .inl (fun _ => 0)) := by rw [ecw42, va_up_ne _ _ (by omega)]; exact hw_38
  have hw_46 : cw42 (40) = .inl (cI, 240, .inl (fun _ => 0)) := by rw [ecw42, va_up_ne _ _ (by omega)]; exact hw_39
  have hw_47 : cw42 (41) = .inl (cI, 16, .inl (fun _ => 0)) := by rw [ecw42, va_up_ne _ _ (by omega)]; exact hw_40
  have hw_48 : cw42 (42) = .inl (cI, 240, .inl (fun _ => 0)) := by rw [ecw42]; exact va_up_self _ _ _
  obtain ⟨cw49, ecw49⟩ : ∃ z : Nat → va_E, z = va_up (cw42) (37) (.inr (4, [.int (nI 0), .ref (ad41 (38)), .ref (ad41 (39)), .int (nI 0), .int (nI 0), .ref (ad41 (40)), .int (nI 0), .ref (ad41 (41)), .int (nI 0), .ref (ad41 (42)), .int (nI 0), .null, .null])) := ⟨_, rfl⟩
  refine z_putF (Cn := RX4) (T := TX4) (NF := 13) (ci := 4) (ty := .array .int) (v := .ref (ad41 (42))) C qX4_init_3 tyX4_ok nmX4 rfl 9 (by decide) (C.2.2.2.2.1 _ qX4_init_8) (fun _ h9 => h9) rfl hnm rfl (by decide +kernel) dX4_init_44 (37) (by omega) hw_43 rfl rfl (Nat.le_of_ble_eq_true rfl) ?_
  refine z_cw ecw49.symm ?_
  have hw_50 : cw49 (37) = .inr (4, [.int (nI 0), .ref (ad41 (38)), .ref (ad41 (39)), .int (nI 0), .int (nI 0), .ref (ad41 (40)), .int (nI 0), .ref (ad41 (41)), .int (nI 0), .ref (ad41 (42)), .int (nI 0), .null, .null]) := by rw [ecw49, va_up_self]
  have hw_51 : cw49 (38) = .inl (cI, 3120, .inl (fun _ => 0)) := by rw [ecw49, va_up_ne _ _ (by decide)]; exact hw_44
  have hw_52 : cw49 (39) = .inl (cI, 13, .inl (fun _ => 0)) := by rw [ecw49, va_up_ne _ _ (by decide)]; exact hw_45
  have hw_53 : cw49 (40) = .inl (cI, 240, .inl (fun _ => 0)) := by rw [ecw49, va_up_ne _ _ (by decide)]; exact hw_46
  have hw_54 : cw49 (41) = .inl (cI, 16, .inl (fun _ => 0)) := by rw [ecw49, va_up_ne _ _ (by decide)]; exact hw_47
  have hw_55 : cw49 (42) = .inl (cI, 240, .inl (fun _ => 0)) := by rw [ecw49, va_up_ne _ _ (by decide)]; exact hw_48
  refine z_aload_n C dX4_init_47 0 rfl ?_
  refine z_sipush (v := nI 241) C dX4_init_48 (by decide) ?_
  refine z_newa (N := 43) (N' := 241) C 0 rfl (C.2.2.2.2.1 _ qX4_init_2) (rfl) (by omega) (Nat.le_of_ble_eq_true rfl) (Nat.le_of_ble_eq_true rfl) dX4_init_51 (fun ad56 had56 => ?_)
  rw [← had56 (37) (by omega)]
  obtain ⟨cw57, ecw57⟩ : ∃ z : Nat → va_E, z = va_up cw49 (43) (.inl (cI, 241, .inl (fun _ => 0))) := ⟨_, rfl⟩
  refine z_cw ecw57.symm ?_
  refine z_N (N' := 44) (by omega) ?_
  have hw_58 : cw57 (37) = .inr (4, [.int (nI 0), .ref (ad56 (38)), .ref (ad56 (39)), .int (nI 0), .int (nI 0), .ref (ad56 (40)), .int (nI 0), .ref (ad56 (41)), .int (nI 0), .ref (ad56 (42)), .int (nI 0), .null, .null]) := by rw [ecw57, va_up_ne _ _ (by omega)]; rw [had56 (38) (by omega)]; rw [had56 (39) (by omega)]; rw [had56 (40) (by omega)]; rw [had56 (41) (by omega)]; rw [had56 (42) (by omega)]; exact hw_50
  have hw_59 : cw57 (38) = .inl (cI, 3120, .inl (fun _ => 0)) := by rw [ecw57, va_up_ne _ _ (by omega)]; exact hw_51
  have hw_60 : cw57 (39) = .inl (cI, 13, .inl (fun _ => 0)) := by rw [ecw57, va_up_ne _ _ (by omega)]; exact hw_52
  have hw_61 : cw57 (40) = .inl (cI, 240, .inl (fun _ => 0)) := by rw [ecw57, va_up_ne _ _ (by omega)]; exact hw_53
  have hw_62 : cw57 (41) = .inl (cI, 16, .inl (fun _ => 0)) := by rw [ecw57, va_up_ne _ _ (by omega)]; exact hw_54
  have hw_63 : cw57 (42) = .inl (cI, 240, .inl (fun _ => 0)) := by rw [ecw57, va_up_ne _ _ (by omega)]; exact hw_55
  have hw_64 : cw57 (43) = .inl (cI, 241, .inl (fun _ => 0)) := by rw [ecw57]; exact va_up_self _ _ _
  obtain ⟨cw65, ecw65⟩ : ∃ z : Nat → va_E, z = va_up (cw57) (37) (.inr (4, [.int (nI 0), .ref (ad56 (38)), .ref (ad56 (39)), .int (nI 0), .int (nI 0), .ref (ad56 (40)), .int (nI 0), .ref (ad56 (41)), .int (nI 0), .ref (ad56 (42)), .int (nI 0), .ref (ad56 (43)), .null])) := ⟨_, rfl⟩
  refine z_putF (Cn := RX4) (T := TX4) (NF := 13) (ci := 4) (ty := .array .int) (v := .ref (ad56 (43))) C qX4_init_3 tyX4_ok nmX4 rfl 11 (by decide) (C.2.2.2.2.1 _ qX4_init_9) (fun _ h9 => h9) rfl hnm rfl (by decide +kernel) dX4_init_53 (37) (by omega) hw_58 rfl rfl (Nat.le_of_ble_eq_true rfl) ?_
  refine z_cw ecw65.symm ?_
  have hw_66 : cw65 (37) = .inr (4, [.int (nI 0), .ref (ad56 (38)), .ref (ad56 (39)), .int (nI 0), .int (nI 0), .ref (ad56 (40)), .int (nI 0), .ref (ad56 (41)), .int (nI 0), .ref (ad56 (42)), .int (nI 0), .ref (ad56 (43)), .null]) := by rw [ecw65, va_up_self]
  have hw_67 : cw65 (38) = .inl (cI, 3120, .inl (fun _ => 0)) := by rw [ecw65, va_up_ne _ _ (by decide)]; exact hw_59
  have hw_68 : cw65 (39) = .inl (cI, 13, .inl (fun _ => 0)) := by rw [ecw65, va_up_ne _ _ (by decide)]; exact hw_60
  have hw_69 : cw65 (40) = .inl (cI, 240, .inl (fun _ => 0)) := by rw [ecw65, va_up_ne _ _ (by decide)]; exact hw_61
  have hw_70 : cw65 (41) = .inl (cI, 16, .inl (fun _ => 0)) := by rw [ecw65, va_up_ne _ _ (by decide)]; exact hw_62
  have hw_71 : cw65 (42) = .inl (cI, 240, .inl (fun _ => 0)) := by rw [ecw65, va_up_ne _ _ (by decide)]; exact hw_63
  have hw_72 : cw65 (43) = .inl (cI, 241, .inl (fun _ => 0)) := by rw [ecw65, va_up_ne _ _ (by decide)]; exact hw_64
  refine z_aload_n C dX4_init_56 0 rfl ?_
  refine z_sipush (v := nI 241) C dX4_init_57 (by decide) ?_
  refine z_newa (N := 44) (N' := 241) C 0 rfl (C.2.2.2.2.1 _ qX4_init_2) (rfl) (by omega) (Nat.le_of_ble_eq_true rfl) (Nat.le_of_ble_eq_true rfl) dX4_init_60 (fun ad73 had73 => ?_)
  rw [← had73 (37) (by omega)]
  obtain ⟨cw74, ecw74⟩ : ∃ z : Nat → va_E, z = va_up cw65 (44) (.inl (cI, 241, .inl (fun _ => 0))) := ⟨_, rfl⟩
  refine z_cw ecw74.symm ?_
  refine z_N (N' := 45) (by omega) ?_
  have hw_75 : cw74 (37) = .inr (4, [.int (nI 0), .ref (ad73 (38)), .ref (ad73 (39)), .int (nI 0), .int (nI 0), .ref (ad73 (40)), .int (nI 0), .ref (ad73 (41)), .int (nI 0), .ref (ad73 (42)), .int (nI 0), .ref (ad73 (43)), .null]) := by rw [ecw74, va_up_ne _ _ (by omega)]; rw [had73 (38) (by omega)]; rw [had73 (39) (by omega)]; rw [had73 (40) (by omega)]; rw [had73 (41) (by omega)]; rw [had73 (42) (by omega)]; rw [had73 (43) (by omega)]; exact hw_66
  have hw_76 : cw74 (38) = .inl (cI, 3120, .inl (fun _ => 0)) := by rw [ecw74, va_up_ne _ _ (by omega)]; exact hw_67
  have hw_77 : cw74 (39) = .inl (cI, 13, .inl (fun _ => 0)) := by rw [ecw74, va_up_ne _ _ (by omega)]; exact hw_68
  have hw_78 : cw74 (40) = .inl (cI, 240, .inl (fun _ => 0)) := by rw [ecw74, va_up_ne _ _ (by omega)]; exact hw_69
  have hw_79 : cw74 (41) = .inl (cI, 16, .inl (fun _ => 0)) := by rw [ecw74, va_up_ne _ _ (by omega)]; exact hw_70
  have hw_80 : cw74 (42) = .inl (cI, 240, .inl (fun _ => 0)) := by rw [ecw74, va_up_ne _ _ (by omega)]; exact hw_71
  have hw_81 : cw74 (43) = .inl (cI, 241, .inl (fun _ => 0)) := by rw [ecw74, va_up_ne _ _ (by omega)]; exact hw_72
  have hw_82 : cw74 (44) = .inl (cI, 241, .inl (fun _ => 0)) := by rw [ecw74]; exact va_up_self _ _ _
  obtain ⟨cw83, ecw83⟩ : ∃ z : Nat → va_E, z = va_up (cw74) (37) (.inr (4, [.int (nI 0), .ref (ad73 (38)), .ref (ad73 (39)), .int (nI 0), .int (nI 0), .ref (ad73 (40)), .int (nI 0), .ref (ad73 (41)), .int (nI 0), .ref (ad73 (42)), .int (nI 0), .ref (ad73 (43)), .ref (ad73 (44))])) := ⟨_, rfl⟩
  refine z_putF (Cn := RX4) (T := TX4) (NF := 13) (ci := 4) (ty := .array .int) (v := .ref (ad73 (44))) C qX4_init_3 tyX4_ok nmX4 rfl 12 (by decide) (C.2.2.2.2.1 _ qX4_init_10) (fun _ h9 => h9) rfl hnm rfl (by decide +kernel) dX4_init_62 (37) (by omega) hw_75 rfl rfl (Nat.le_of_ble_eq_true rfl) ?_
  refine z_cw ecw83.symm ?_
  have hw_84 : cw83 (37) = .inr (4, [.int (nI 0), .ref (ad73 (38)), .ref (ad73 (39)), .int (nI 0), .int (nI 0), .ref (ad73 (40)), .int (nI 0), .ref (ad73 (41)), .int (nI 0), .ref (ad73 (42)), .int (nI 0), .ref (ad73 (43)), .ref (ad73 (44))]) := by rw [ecw83, va_up_self]
  have hw_85 : cw83 (38) = .inl (cI, 3120, .inl (fun _ => 0)) := by rw [ecw83, va_up_ne _ _ (by decide)]; exact hw_76
  have hw_86 : cw83 (39) = .inl (cI, 13, .inl (fun _ => 0)) := by rw [ecw83, va_up_ne _ _ (by decide)]; exact hw_77
  have hw_87 : cw83 (40) = .inl (cI, 240, .inl (fun _ => 0)) := by rw [ecw83, va_up_ne _ _ (by decide)]; exact hw_78
  have hw_88 : cw83 (41) = .inl (cI, 16, .inl (fun _ => 0)) := by rw [ecw83, va_up_ne _ _ (by decide)]; exact hw_79
  have hw_89 : cw83 (42) = .inl (cI, 240, .inl (fun _ => 0)) := by rw [ecw83, va_up_ne _ _ (by decide)]; exact hw_80
  have hw_90 : cw83 (43) = .inl (cI, 241, .inl (fun _ => 0)) := by rw [ecw83, va_up_ne _ _ (by decide)]; exact hw_81
  have hw_91 : cw83 (44) = .inl (cI, 241, .inl (fun _ => 0)) := by rw [ecw83, va_up_ne _ _ (by decide)]; exact hw_82
  exact z_nret C hr dX4_init_65 (⟨fun k hk => (had73 k (by omega)).trans ((had56 k (by omega)).trans ((had41 k (by omega)).trans ((had28 k (by omega)).trans ((had17 k (by omega)).trans ((had8 k (by omega)).trans (had1 k (by omega))))))), ⟨hw_84, ⟨by omega, _, _, hw_85, hw_86, fun j hj => ⟨Nat.zero_le _, rfl, zIs_nil _⟩⟩, ⟨_, hw_87⟩, ⟨Nat.zero_le _, _, hw_88, zIs_nil _⟩, ⟨Nat.zero_le _, _, hw_89, zIs_nil _⟩, ⟨_, hw_90⟩, _, hw_91⟩, fun j hj => (fun j hj => by rw [ecw83, va_up_ne _ _ (by omega)]; rw [ecw74, va_up_ne _ _ (by omega)]; rw [ecw65, va_up_ne _ _ (by omega)]; rw [ecw57, va_up_ne _ _ (by omega)]; rw [ecw49, va_up_ne _ _ (by omega)]; rw [ecw42, va_up_ne _ _ (by omega)]; rw [ecw35, va_up_ne _ _ (by omega)]; rw [ecw29, va_up_ne _ _ (by omega)]; rw [ecw23, va_up_ne _ _ (by omega)]; rw [ecw18, va_up_ne _ _ (by omega)]; rw [ecw13, va_up_ne _ _ (by omega)]; rw [ecw9, va_up_ne _ _ (by omega)]; rw [ecw5, va_up_ne _ _ (by omega)]; rw [ecw2, va_up_ne _ _ (by omega)]) j hj⟩) (Nat.le_of_ble_eq_true rfl) (Nat.le_of_ble_eq_true rfl)

