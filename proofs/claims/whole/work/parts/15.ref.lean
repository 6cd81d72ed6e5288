theorem zng_IO : ∀ w ∈ (vx_atS RX3 78 xIO xNames).filter (fun w => !goodWord w), w ∈ zNgs := by decide +kernel
theorem zgd_IO : ∀ w ∈ Cond.classLink RX3 74 xIO :: Cond.initialized xIO :: vx_atS RX3 78 xIO xNames, vx_ot w = true := by decide +kernel
theorem zng_IA : ∀ w ∈ (vx_atS RX3 157 xIA xNames).filter (fun w => !goodWord w), w ∈ zNgs := by decide +kernel
theorem zgd_IA : ∀ w ∈ Cond.classLink RX3 153 xIA :: Cond.initialized xIA :: vx_atS RX3 157 xIA xNames, vx_ot w = true := by decide +kernel
theorem zng_UO : ∀ w ∈ (vx_atS RX3 108 xUO xNames).filter (fun w => !goodWord w), w ∈ zNgs := by decide +kernel
theorem zgd_UO : ∀ w ∈ Cond.classLink RX3 104 xUO :: Cond.initialized xUO :: vx_atS RX3 108 xUO xNames, vx_ot w = true := by decide +kernel
theorem zng_IS : ∀ w ∈ (vx_atS RX3 92 xIS xNames).filter (fun w => !goodWord w), w ∈ zNgs := by decide +kernel
theorem zgd_IS : ∀ w ∈ Cond.classLink RX3 88 xIS :: Cond.initialized xIS :: vx_atS RX3 92 xIS xNames, vx_ot w = true := by decide +kernel
theorem qX3_refuseNoPlace_0 : Cond.classLink RX3 74 "java/lang/IndexOutOfBoundsException" ∈ wsX3_refuseNoPlace := by decide +kernel
theorem qX3_refuseNoPlace_1 : Cond.initialized "java/lang/IndexOutOfBoundsException" ∈ wsX3_refuseNoPlace := by decide +kernel
set_option maxHeartbeats 4000000 in
set_option maxRecDepth 100000 in
theorem c_PT_noPlace (l : Launch) (D : va_G) (cI cR cL : ClassId) (B N : Nat) (ad : Nat → Nat) (cw : Nat → va_E) (hl8 : l.stackTraces = false) {r a n : Nat} (hr9 : r < N) (er : cw r = .inr (2, [.ref (ad (a)), .int (nI n)])) (hn9 : n ≤ 240) (x : Int32) : vx_Met l yX3_refuseNoPlace wsX3_refuseNoPlace ({ frames := 6, cells := 1, slots := 6, locals := 95 } : Room) (va_Pc [.int (x), .ref (ad (r))] (zI D vwCl (zTy cI cR cL) B N ad cw)) (zQv D vwCl B N ad (fun (cw' : Nat → va_E) => (∃ q, q ≤ n ∧ x = nI q) ∧ cw' = cw)) (zXC D vwCl B N ad cw (fun E : String => E = xIO ∧ ¬ (∃ q, q ≤ n ∧ x = nI q))) 1 6 (zA B) := by
  refine z_ofX (cc := cX3_refuseNoPlace) (maxL := 2) (ret := none) (by decide) rfl (Nat.le_of_ble_eq_true rfl) ?_
  intro p e s m args below meth c C hr h0
  refine z_lv (lv' := [(0, .int (x)), (1, .ref (ad (r)))]) [0, 1] rfl ?_
  refine z_iload_n C dX3_refuseNoPlace_0 0 rfl ?_
  refine z_if_lt (tgt := 12) C dX3_refuseNoPlace_1 (by decide) (fun c1 => ?_) (fun c1 => ?_)
  · skip
    exact z_throw (cls := xIO) (names := xNames) C hl8 h0 rfl (by decide) (by decide) (C.2.2.2.2.1 _ qX3_refuseNoPlace_0) (C.2.2.2.2.1 _ qX3_refuseNoPlace_1) (show (151, "no such place") ∈ zStrs by decide +kernel) (fun w h => List.mem_cons_of_mem _ (List.mem_append_right _ h)) zng_IO zgd_IO dX3_refuseNoPlace_12 dX3_refuseNoPlace_15 dX3_refuseNoPlace_16 dX3_refuseNoPlace_18 dX3_refuseNoPlace_21 (Nat.le_of_ble_eq_true rfl) (Nat.le_of_ble_eq_true rfl) (Nat.le_of_ble_eq_true rfl) (Nat.le_of_ble_eq_true rfl) (⟨rfl, fun ⟨q, h1, h2⟩ => by rw [h2] at c1; exact nI_pos (by omega) c1⟩) (Nat.le_of_ble_eq_true rfl) (Nat.le_of_ble_eq_true rfl)
  · skip
    obtain ⟨u, hu, hxu⟩ := nI_of c1
    refine z_iload_n C dX3_refuseNoPlace_4 0 rfl ?_
    refine z_aload_n C dX3_refuseNoPlace_5 1 rfl ?_
    refine z_calli (z_runV (As := []) (rest := [.int (x)]) C (c_Row_size l D cI cR cL B N ad cw hr9 er) (cwV 0 C.2.2.2.2.1 gX3_refuseNoPlace_X2_size rfl rfl rfl (by decide +kernel) ⟨Nat.le_of_ble_eq_true rfl, Nat.le_of_ble_eq_true rfl⟩) hr9 er rfl rfl rfl rfl (Nat.le_of_ble_eq_true rfl) dX3_refuseNoPlace_6 ⟨Nat.le_of_ble_eq_true rfl, Nat.le_of_ble_eq_true rfl⟩) (fun r2 cw3 hp4 => ?_)
    refine z_cw hp4.2 ?_
    refine z_top hp4.1 ?_
    refine z_icmp_le (tgt := 22) C dX3_refuseNoPlace_9 (by decide) (fun c5 => ?_) (fun c5 => ?_)
    · skip
      exact z_xvret C hr dX3_refuseNoPlace_22 (⟨⟨u, (nI_leI hu (by omega)).mp (by rw [← hxu]; exact c5), hxu⟩, rfl⟩) (Nat.le_of_ble_eq_true rfl) (Nat.le_of_ble_eq_true rfl)
    · skip
      exact z_throw (cls := xIO) (names := xNames) C hl8 h0 rfl (by decide) (by decide) (C.2.2.2.2.1 _ qX3_refuseNoPlace_0) (C.2.2.2.2.1 _ qX3_refuseNoPlace_1) (show (151, "no such place") ∈ zStrs by decide +kernel) (fun w h => List.mem_cons_of_mem _ (List.mem_append_right _ h)) zng_IO zgd_IO dX3_refuseNoPlace_12 dX3_refuseNoPlace_15 dX3_refuseNoPlace_16 dX3_refuseNoPlace_18 dX3_refuseNoPlace_21 (Nat.le_of_ble_eq_true rfl) (Nat.le_of_ble_eq_true rfl) (Nat.le_of_ble_eq_true rfl) (Nat.le_of_ble_eq_true rfl) (⟨rfl, fun ⟨q, h1, h2⟩ => c5 (by rw [h2]; exact nI_le h1 (by omega))⟩) (Nat.le_of_ble_eq_true rfl) (Nat.le_of_ble_eq_true rfl)

theorem qX3_refuseNoCharacter_0 : Cond.classLink RX3 153 "java/lang/IllegalArgumentException" ∈ wsX3_refuseNoCharacter := by decide +kernel
theorem qX3_refuseNoCharacter_1 : Cond.initialized "java/lang/IllegalArgumentException" ∈ wsX3_refuseNoCharacter := by decide +kernel
set_option maxHeartbeats 4000000 in
set_option maxRecDepth 100000 in
theorem c_PT_noChar (l : Launch) (D : va_G) (cI cR cL : ClassId) (B N : Nat) (ad : Nat → Nat) (cw : Nat → va_E) (hl8 : l.stackTraces = false) (x : Int32) : vx_Met l yX3_refuseNoCharacter wsX3_refuseNoCharacter ({ frames := 6, cells := 1, slots := 6, locals := 95 } : Room) (va_Pc [.int (x)] (zI D vwCl (zTy cI cR cL) B N ad cw)) (zQv D vwCl B N ad (fun (cw' : Nat → va_E) => (∃ q, q < 256 ∧ x = nI q) ∧ cw' = cw)) (zXC D vwCl B N ad cw (fun E : String => E = xIA ∧ ¬ (∃ q, q < 256 ∧ x = nI q))) 1 6 (zA B) := by
  refine z_ofX (cc := cX3_refuseNoCharacter) (maxL := 1) (ret := none) (by decide) rfl (Nat.le_of_ble_eq_true rfl) ?_
  intro p e s m args below meth c C hr h0
  refine z_lv (lv' := [(0, .int (x))]) [0] rfl ?_
  refine z_iload_n C dX3_refuseNoCharacter_0 0 rfl ?_
  refine z_if_lt (tgt := 11) C dX3_refuseNoCharacter_1 (by decide) (fun c1 => ?_) (fun c1 => ?_)
  · skip
    exact z_throw (cls := xIA) (names := xNames) C hl8 h0 rfl (by decide) (by decide) (C.2.2.2.2.1 _ qX3_refuseNoCharacter_0) (C.2.2.2.2.1 _ qX3_refuseNoCharacter_1) (show (155, "no character") ∈ zStrs by decide +kernel) (fun w h => List.mem_cons_of_mem _ (List.mem_append_right _ h)) zng_IA zgd_IA dX3_refuseNoCharacter_11 dX3_refuseNoCharacter_14 dX3_refuseNoCharacter_15 dX3_refuseNoCharacter_17 dX3_refuseNoCharacter_20 (Nat.le_of_ble_eq_true rfl) (Nat.le_of_ble_eq_true rfl) (Nat.le_of_ble_eq_true rfl) (Nat.le_of_ble_eq_true rfl) (⟨rfl, fun ⟨q, h1, h2⟩ => by rw [h2] at c1; exact nI_pos (by omega) c1⟩) (Nat.le_of_ble_eq_true rfl) (Nat.le_of_ble_eq_true rfl)
  · skip
    obtain ⟨u, hu, hxu⟩ := nI_of c1
    refine z_iload_n C dX3_refuseNoCharacter_4 0 rfl ?_
    refine z_sipush (v := nI 256) C dX3_refuseNoCharacter_5 (by decide) ?_
    refine z_icmp_lt (tgt := 21) C dX3_refuseNoCharacter_8 (by decide) (fun c2 => ?_) (fun c2 => ?_)
    · skip
      exact z_xvret C hr dX3_refuseNoCharacter_21 (⟨⟨u, (nI_ltI hu (by omega)).mp (by rw [← hxu]; exact c2), hxu⟩, rfl⟩) (Nat.le_of_ble_eq_true rfl) (Nat.le_of_ble_eq_true rfl)
    · skip
      exact z_throw (cls := xIA) (names := xNames) C hl8 h0 rfl (by decide) (by decide) (C.2.2.2.2.1 _ qX3_refuseNoCharacter_0) (C.2.2.2.2.1 _ qX3_refuseNoCharacter_1) (show (155, "no character") ∈ zStrs by decide +kernel) (fun w h => List.mem_cons_of_mem _ (List.mem_append_right _ h)) zng_IA zgd_IA dX3_refuseNoCharacter_11 dX3_refuseNoCharacter_14 dX3_refuseNoCharacter_15 dX3_refuseNoCharacter_17 dX3_refuseNoCharacter_20 (Nat.le_of_ble_eq_true rfl) (Nat.le_of_ble_eq_true rfl) (Nat.le_of_ble_eq_true rfl) (Nat.le_of_ble_eq_true rfl) (⟨rfl, fun ⟨q, h1, h2⟩ => c2 (by rw [h2]; exact nI_lt h1 (by omega))⟩) (Nat.le_of_ble_eq_true rfl) (Nat.le_of_ble_eq_true rfl)

theorem qX3_refuseNoPart_0 : Cond.classLink RX3 153 "java/lang/IllegalArgumentException" ∈ wsX3_refuseNoPart := by decide +kernel
theorem qX3_refuseNoPart_1 : Cond.initialized "java/lang/IllegalArgumentException" ∈ wsX3_refuseNoPart := by decide +kernel
set_option maxHeartbeats 4000000 in
set_option maxRecDepth 100000 in
theorem c_PT_noPart (l : Launch) (D : va_G) (cI cR cL : ClassId) (B N : Nat) (ad : Nat → Nat) (cw : Nat → va_E) (hl8 : l.stackTraces = false) {r a n : Nat} (hr9 : r < N) (er : cw r = .inr (2, [.ref (ad (a)), .int (nI n)])) (hn9 : n ≤ 240) {pl : Nat} (hpl : pl ≤ n) (x : Int32) : vx_Met l yX3_refuseNoPart wsX3_refuseNoPart ({ frames := 6, cells := 1, slots := 6, locals := 95 } : Room) (va_Pc [.int (nI pl), .int (x), .ref (ad (r))] (zI D vwCl (zTy cI cR cL) B N ad cw)) (zQv D vwCl B N ad (fun (cw' : Nat → va_E) => (∃ q, q ≤ n - pl ∧ x = nI q) ∧ cw' = cw)) (zXC D vwCl B N ad cw (fun E : String => E = xIA ∧ ¬ (∃ q, q ≤ n - pl ∧ x = nI q))) 1 6 (zA B) := by
  refine z_ofX (cc := cX3_refuseNoPart) (maxL := 3) (ret := none) (by decide) rfl (Nat.le_of_ble_eq_true rfl) ?_
  intro p e s m args below meth c C hr h0
  refine z_lv (lv' := [(0, .int (nI pl)), (1, .int (x)), (2, .ref (ad (r)))]) [0, 1, 2] rfl ?_
  refine z_iload_n C dX3_refuseNoPart_0 1 rfl ?_
  refine z_if_lt (tgt := 14) C dX3_refuseNoPart_1 (by decide) (fun c1 => ?_) (fun c1 => ?_)
  · skip
    exact z_throw (cls := xIA) (names := xNames) C hl8 h0 rfl (by decide) (by decide) (C.2.2.2.2.1 _ qX3_refuseNoPart_0) (C.2.2.2.2.1 _ qX3_refuseNoPart_1) (show (158, "not so many characters") ∈ zStrs by decide +kernel) (fun w h => List.mem_cons_of_mem _ (List.mem_append_right _ h)) zng_IA zgd_IA dX3_refuseNoPart_14 dX3_refuseNoPart_17 dX3_refuseNoPart_18 dX3_refuseNoPart_20 dX3_refuseNoPart_23 (Nat.le_of_ble_eq_true rfl) (Nat.le_of_ble_eq_true rfl) (Nat.le_of_ble_eq_true rfl) (Nat.le_of_ble_eq_true rfl) (⟨rfl, fun ⟨q, h1, h2⟩ => by rw [h2] at c1; exact nI_pos (by omega) c1⟩) (Nat.le_of_ble_eq_true rfl) (Nat.le_of_ble_eq_true rfl)
  · skip
    obtain ⟨u, hu, hxu⟩ := nI_of c1
    refine z_iload_n C dX3_refuseNoPart_4 1 rfl ?_
    refine z_aload_n C dX3_refuseNoPart_5 2 rfl ?_
    refine z_calli (z_runV (As := []) (rest := [.int (x)]) C (c_Row_size l D cI cR cL B N ad cw hr9 er) (cwV 0 C.2.2.2.2.1 gX3_refuseNoPart_X2_size rfl rfl rfl (by decide +kernel) ⟨Nat.le_of_ble_eq_true rfl, Nat.le_of_ble_eq_true rfl⟩) hr9 er rfl rfl rfl rfl (Nat.le_of_ble_eq_true rfl) dX3_refuseNoPart_6 ⟨Nat.le_of_ble_eq_true rfl, Nat.le_of_ble_eq_true rfl⟩) (fun r2 cw3 hp4 => ?_)
    refine z_cw hp4.2 ?_
    refine z_top hp4.1 ?_
    refine z_iload_n C dX3_refuseNoPart_9 0 rfl ?_
    refine z_isub C dX3_refuseNoPart_10 ?_
    refine z_top (y := nI (n - pl)) (pk_sub hpl) ?_
    refine z_icmp_le (tgt := 24) C dX3_refuseNoPart_11 (by decide) (fun c5 => ?_) (fun c5 => ?_)
    · skip
      exact z_xvret C hr dX3_refuseNoPart_24 (⟨⟨u, (nI_leI hu (by omega)).mp (by rw [← hxu]; exact c5), hxu⟩, rfl⟩) (Nat.le_of_ble_eq_true rfl) (Nat.le_of_ble_eq_true rfl)
    · skip
      exact z_throw (cls := xIA) (names := xNames) C hl8 h0 rfl (by decide) (by decide) (C.2.2.2.2.1 _ qX3_refuseNoPart_0) (C.2.2.2.2.1 _ qX3_refuseNoPart_1) (show (158, "not so many characters") ∈ zStrs by decide +kernel) (fun w h => List.mem_cons_of_mem _ (List.mem_append_right _ h)) zng_IA zgd_IA dX3_refuseNoPart_14 dX3_refuseNoPart_17 dX3_refuseNoPart_18 dX3_refuseNoPart_20 dX3_refuseNoPart_23 (Nat.le_of_ble_eq_true rfl) (Nat.le_of_ble_eq_true rfl) (Nat.le_of_ble_eq_true rfl) (Nat.le_of_ble_eq_true rfl) (⟨rfl, fun ⟨q, h1, h2⟩ => c5 (by rw [h2]; exact nI_le h1 (by omega))⟩) (Nat.le_of_ble_eq_true rfl) (Nat.le_of_ble_eq_true rfl)

theorem qX3_refuseTooLong_0 : Cond.classLink RX3 104 "java/lang/UnsupportedOperationException" ∈ wsX3_refuseTooLong := by decide +kernel
theorem qX3_refuseTooLong_1 : Cond.initialized "java/lang/UnsupportedOperationException" ∈ wsX3_refuseTooLong := by decide +kernel
set_option maxHeartbeats 4000000 in
set_option maxRecDepth 100000 in
theorem c_PT_tooLong (l : Launch) (D : va_G) (cI cR cL : ClassId) (B N : Nat) (ad : Nat → Nat) (cw : Nat → va_E) (hl8 : l.stackTraces = false) {r a n : Nat} (hr9 : r < N) (er : cw r = .inr (2, [.ref (ad (a)), .int (nI n)])) (hn9 : n ≤ 240) {k : Nat} (hk : k ≤ 240) : vx_Met l yX3_refuseTooLong wsX3_refuseTooLong ({ frames := 6, cells := 1, slots := 6, locals := 95 } : Room) (va_Pc [.int (nI k), .ref (ad (r))] (zI D vwCl (zTy cI cR cL) B N ad cw)) (zQv D vwCl B N ad (fun (cw' : Nat → va_E) => n + k ≤ 240 ∧ cw' = cw)) (zXC D vwCl B N ad cw (fun E : String => E = xUO ∧ ¬ (n + k ≤ 240))) 1 6 (zA B) := by
  refine z_ofX (cc := cX3_refuseTooLong) (maxL := 2) (ret := none) (by decide) rfl (Nat.le_of_ble_eq_true rfl) ?_
  intro p e s m args below meth c C hr h0
  refine z_lv (lv' := [(0, .int (nI k)), (1, .ref (ad (r)))]) [0, 1] rfl ?_
  refine z_iload_n C dX3_refuseTooLong_0 0 rfl ?_
  refine z_sipush (v := nI 240) C dX3_refuseTooLong_1 (by decide) ?_
  refine z_aload_n C dX3_refuseTooLong_4 1 rfl ?_
  refine z_calli (z_runV (As := []) (rest := [.int (nI 240), .int (nI k)]) C (c_Row_size l D cI cR cL B N ad cw hr9 er) (cwV 0 C.2.2.2.2.1 gX3_refuseTooLong_X2_size rfl rfl rfl (by decide +kernel) ⟨Nat.le_of_ble_eq_true rfl, Nat.le_of_ble_eq_true rfl⟩) hr9 er rfl rfl rfl rfl (Nat.le_of_ble_eq_true rfl) dX3_refuseTooLong_5 ⟨Nat.le_of_ble_eq_true rfl, Nat.le_of_ble_eq_true rfl⟩) (fun r1 cw2 hp3 => ?_)
  refine z_cw hp3.2 ?_
  refine z_top hp3.1 ?_
  refine z_isub C dX3_refuseTooLong_8 ?_
  refine z_top (y := nI (240 - n)) (pk_sub hn9) ?_
  refine z_icmp_le (tgt := 22) C dX3_refuseTooLong_9 (by decide) (fun c4 => ?_) (fun c4 => ?_)
  · skip
    exact z_xvret C hr dX3_refuseTooLong_22 (⟨by have := (nI_leI (by omega) (by omega)).mp c4; omega, rfl⟩) (Nat.le_of_ble_eq_true rfl) (Nat.le_of_ble_eq_true rfl)
  · skip
    exact z_throw (cls := xUO) (names := xNames) C hl8 h0 rfl (by decide) (by decide) (C.2.2.2.2.1 _ qX3_refuseTooLong_0) (C.2.2.2.2.1 _ qX3_refuseTooLong_1) (show (160, "the text would be too long") ∈ zStrs by decide +kernel) (fun w h => List.mem_cons_of_mem _ (List.mem_append_right _ h)) zng_UO zgd_UO dX3_refuseTooLong_12 dX3_refuseTooLong_15 dX3_refuseTooLong_16 dX3_refuseTooLong_18 dX3_refuseTooLong_21 (Nat.le_of_ble_eq_true rfl) (Nat.le_of_ble_eq_true rfl) (Nat.le_of_ble_eq_true rfl) (Nat.le_of_ble_eq_true rfl) (⟨rfl, fun h => c4 (nI_le (by omega) (by omega))⟩) (Nat.le_of_ble_eq_true rfl) (Nat.le_of_ble_eq_true rfl)

theorem qX3_refuseNoWord_0 : Cond.classLink RX3 74 "java/lang/IndexOutOfBoundsException" ∈ wsX3_refuseNoWord := by decide +kernel
theorem qX3_refuseNoWord_1 : Cond.initialized "java/lang/IndexOutOfBoundsException" ∈ wsX3_refuseNoWord := by decide +kernel
theorem qX3_refuseNoWord_2 : ∀ w ∈ wsX30, w ∈ wsX3_refuseNoWord := by decide +kernel
theorem qX3_refuseNoWord_3 : Cond.fieldLink RX3 28 "PieceText" "written" "LPieceText$Phrases;" ∈ wsX3_refuseNoWord := by decide +kernel
set_option maxHeartbeats 4000000 in
set_option maxRecDepth 100000 in
theorem c_PT_noWord (l : Launch) (D : va_G) (cI cR cL : ClassId) (B N : Nat) (ad : Nat → Nat) (cw : Nat → va_E) (hl8 : l.stackTraces = false) {n : Nat} (h33 : 36 < N) (e0 : cw 0 = .inr (3, [.ref (ad (1)), .ref (ad (29)), .ref (ad (31)), .ref (ad (34)), .ref (ad (36))])) (eo : cw 31 = .inr (1, [.ref (ad (32)), .ref (ad (33)), .int (nI n)])) (hn9 : n ≤ 240) (x : Int32) : vx_Met l yX3_refuseNoWord wsX3_refuseNoWord ({ frames := 6, cells := 1, slots := 6, locals := 95 } : Room) (va_Pc [.ref (ad (0)), .int (x)] (zI D vwCl (zTy cI cR cL) B N ad cw)) (zQv D vwCl B N ad (fun (cw' : Nat → va_E) => (∃ q, q < n ∧ x = nI q) ∧ cw' = cw)) (zXC D vwCl B N ad cw (fun E : String => E = xIO ∧ ¬ (∃ q, q < n ∧ x = nI q))) 1 6 (zA B) := by
  refine z_ofX (cc := cX3_refuseNoWord) (maxL := 2) (ret := none) (by decide) rfl (Nat.le_of_ble_eq_true rfl) ?_
  intro p e s m args below meth c C hr h0
  refine z_lv (lv' := [(0, .ref (ad (0))), (1, .int (x))]) [0, 1] rfl ?_
  refine z_iload_n C dX3_refuseNoWord_0 1 rfl ?_
  refine z_if_lt (tgt := 15) C dX3_refuseNoWord_1 (by decide) (fun c1 => ?_) (fun c1 => ?_)
  · skip
    exact z_throw (cls := xIO) (names := xNames) C hl8 h0 rfl (by decide) (by decide) (C.2.2.2.2.1 _ qX3_refuseNoWord_0) (C.2.2.2.2.1 _ qX3_refuseNoWord_1) (show (162, "no such word") ∈ zStrs by decide +kernel) (fun w h => List.mem_cons_of_mem _ (List.mem_append_right _ h)) zng_IO zgd_IO dX3_refuseNoWord_15 dX3_refuseNoWord_18 dX3_refuseNoWord_19 dX3_refuseNoWord_21 dX3_refuseNoWord_24 (Nat.le_of_ble_eq_true rfl) (Nat.le_of_ble_eq_true rfl) (Nat.le_of_ble_eq_true rfl) (Nat.le_of_ble_eq_true rfl) (⟨rfl, fun ⟨q, h1, h2⟩ => by rw [h2] at c1; exact nI_pos (by omega) c1⟩) (Nat.le_of_ble_eq_true rfl) (Nat.le_of_ble_eq_true rfl)
  · skip
    obtain ⟨u, hu, hxu⟩ := nI_of c1
    refine z_iload_n C dX3_refuseNoWord_4 1 rfl ?_
    refine z_aload_n C dX3_refuseNoWord_5 0 rfl ?_
    refine z_get (Cn := RX3) (T := TX3) (NF := 5) (ci := 3) (v := .ref (ad (31))) C qX3_refuseNoWord_2 rfl 2 (by decide) (C.2.2.2.2.1 _ qX3_refuseNoWord_3) (fun _ h9 => h9) dX3_refuseNoWord_6 (0) (by omega) e0 rfl ?_
    refine z_calli (z_runV (As := []) (rest := [.int (x)]) C (c_Phr_size l D cI cR cL B N ad cw (by omega) eo) (cwV 0 C.2.2.2.2.1 gX3_refuseNoWord_X1_size rfl rfl rfl (by decide +kernel) ⟨Nat.le_of_ble_eq_true rfl, Nat.le_of_ble_eq_true rfl⟩) (by omega) eo rfl rfl rfl rfl (Nat.le_of_ble_eq_true rfl) dX3_refuseNoWord_9 ⟨Nat.le_of_ble_eq_true rfl, Nat.le_of_ble_eq_true rfl⟩) (fun r2 cw3 hp4 => ?_)
    refine z_cw hp4.2 ?_
    refine z_top hp4.1 ?_
    refine z_icmp_lt (tgt := 25) C dX3_refuseNoWord_12 (by decide) (fun c5 => ?_) (fun c5 => ?_)
    · skip
      exact z_xvret C hr dX3_refuseNoWord_25 (⟨⟨u, (nI_ltI hu (by omega)).mp (by rw [← hxu]; exact c5), hxu⟩, rfl⟩) (Nat.le_of_ble_eq_true rfl) (Nat.le_of_ble_eq_true rfl)
    · skip
      exact z_throw (cls := xIO) (names := xNames) C hl8 h0 rfl (by decide) (by decide) (C.2.2.2.2.1 _ qX3_refuseNoWord_0) (C.2.2.2.2.1 _ qX3_refuseNoWord_1) (show (162, "no such word") ∈ zStrs by decide +kernel) (fun w h => List.mem_cons_of_mem _ (List.mem_append_right _ h)) zng_IO zgd_IO dX3_refuseNoWord_15 dX3_refuseNoWord_18 dX3_refuseNoWord_19 dX3_refuseNoWord_21 dX3_refuseNoWord_24 (Nat.le_of_ble_eq_true rfl) (Nat.le_of_ble_eq_true rfl) (Nat.le_of_ble_eq_true rfl) (Nat.le_of_ble_eq_true rfl) (⟨rfl, fun ⟨q, h1, h2⟩ => c5 (by rw [h2]; exact nI_lt h1 (by omega))⟩) (Nat.le_of_ble_eq_true rfl) (Nat.le_of_ble_eq_true rfl)

