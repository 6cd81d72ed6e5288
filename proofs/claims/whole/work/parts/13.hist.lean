def aPast (past : Nat) : Nat := if past = 12 then 12 else past + 1
theorem z_min12 {past : Nat} (h : past ≤ 12) : (if nI 12 < nI (past + 1) then nI 12 else nI (past + 1)) = nI (aPast past) := by
  unfold aPast
  rcases Nat.lt_or_eq_of_le h with h | h
  · rw [if_neg (nI_nlt (by omega) (by omega)), if_neg (by omega)]
  · subst h; decide
theorem qX0_present_0 : ∀ w ∈ wsX00, w ∈ wsX0_present := by decide +kernel
theorem qX0_present_1 : Cond.fieldLink RX0 13 "PieceText$History" "texts" "[LPieceText$Row;" ∈ wsX0_present := by decide +kernel
theorem qX0_present_2 : Cond.fieldLink RX0 20 "PieceText$History" "now" "I" ∈ wsX0_present := by decide +kernel
set_option maxHeartbeats 4000000 in
set_option maxRecDepth 100000 in
theorem c_Hist_present (l : Launch) (D : va_G) (cI cR cL : ClassId) (B N : Nat) (ad : Nat → Nat) (cw : Nat → va_E) {now past fut : Nat} (h1N : 1 < N) (eh : cw 1 = .inr (0, [.ref (ad (2)), .int (nI now), .int (nI past), .int (nI fut)])) {fr : Nat → Option Nat} (h2N : 2 < N) (et : cw 2 = .inl (cR, 13, .inr (.inr (.inr (.inr (fr)))))) (hfr : ∀ i, i < 13 → fr i = some (ad (3 + 2 * i))) (hnow : now < 13) : Met l yX0_present wsX0_present ({ frames := 0, cells := 0, slots := 0, locals := 0 } : Room) (va_Pc [.ref (ad (1))] (zI D vwCl (zTy cI cR cL) B N ad cw)) (zQr D vwCl B N ad (fun (v : Nat) (cw' : Nat → va_E) => v = ad (3 + 2 * now) ∧ cw' = cw)) 0 0 (zA B) := by
  refine z_ofW (cc := cX0_present) (maxL := 1) (ret := (some (.object "PieceText$Row"))) (by decide) rfl (Nat.le_of_ble_eq_true rfl) ?_
  intro p e s m args below meth c C hr hnm
  refine z_lv (lv' := [(0, .ref (ad (1)))]) [0] rfl ?_
  refine z_aload_n C dX0_present_0 0 rfl ?_
  refine z_get (Cn := RX0) (T := TX0) (NF := 4) (ci := 0) (v := .ref (ad (2))) C qX0_present_0 rfl 0 (by decide) (C.2.2.2.2.1 _ qX0_present_1) (fun _ h9 => h9) dX0_present_1 (1) h1N eh rfl ?_
  refine z_aload_n C dX0_present_4 0 rfl ?_
  refine z_get (Cn := RX0) (T := TX0) (NF := 4) (ci := 0) (v := .int (nI now)) C qX0_present_0 rfl 1 (by decide) (C.2.2.2.2.1 _ qX0_present_2) (fun _ h9 => h9) dX0_present_5 (1) h1N eh rfl ?_
  refine z_aald (a := ad (3 + 2 * now)) C 1 rfl dX0_present_8 (2) h2N et (now) (rfl) (hnow) (by decide) (hfr now hnow) ?_
  exact z_aret C hr (Or.inl ⟨_, rfl⟩) dX0_present_9 (⟨rfl, rfl⟩) (Nat.le_of_ble_eq_true rfl) (Nat.le_of_ble_eq_true rfl)

theorem qX0_pastSize_0 : ∀ w ∈ wsX00, w ∈ wsX0_pastSize := by decide +kernel
theorem qX0_pastSize_1 : Cond.fieldLink RX0 24 "PieceText$History" "past" "I" ∈ wsX0_pastSize := by decide +kernel
set_option maxHeartbeats 4000000 in
set_option maxRecDepth 100000 in
theorem c_Hist_pastSize (l : Launch) (D : va_G) (cI cR cL : ClassId) (B N : Nat) (ad : Nat → Nat) (cw : Nat → va_E) {now past fut : Nat} (h1N : 1 < N) (eh : cw 1 = .inr (0, [.ref (ad (2)), .int (nI now), .int (nI past), .int (nI fut)])) : Met l yX0_pastSize wsX0_pastSize ({ frames := 0, cells := 0, slots := 0, locals := 0 } : Room) (va_Pc [.ref (ad (1))] (zI D vwCl (zTy cI cR cL) B N ad cw)) (zQi D vwCl B N ad (fun (v : Int32) (cw' : Nat → va_E) => v = nI past ∧ cw' = cw)) 0 0 (zA B) := by
  refine z_ofW (cc := cX0_pastSize) (maxL := 1) (ret := (some .int)) (by decide) rfl (Nat.le_of_ble_eq_true rfl) ?_
  intro p e s m args below meth c C hr hnm
  refine z_lv (lv' := [(0, .ref (ad (1)))]) [0] rfl ?_
  refine z_aload_n C dX0_pastSize_0 0 rfl ?_
  refine z_get (Cn := RX0) (T := TX0) (NF := 4) (ci := 0) (v := .int (nI past)) C qX0_pastSize_0 rfl 2 (by decide) (C.2.2.2.2.1 _ qX0_pastSize_1) (fun _ h9 => h9) dX0_pastSize_1 (1) h1N eh rfl ?_
  exact z_iret C hr dX0_pastSize_4 (⟨rfl, rfl⟩) (Nat.le_of_ble_eq_true rfl) (Nat.le_of_ble_eq_true rfl)

theorem qX0_futureSize_0 : ∀ w ∈ wsX00, w ∈ wsX0_futureSize := by decide +kernel
theorem qX0_futureSize_1 : Cond.fieldLink RX0 27 "PieceText$History" "future" "I" ∈ wsX0_futureSize := by decide +kernel
set_option maxHeartbeats 4000000 in
set_option maxRecDepth 100000 in
theorem c_Hist_futureSize (l : Launch) (D : va_G) (cI cR cL : ClassId) (B N : Nat) (ad : Nat → Nat) (cw : Nat → va_E) {now past fut : Nat} (h1N : 1 < N) (eh : cw 1 = .inr (0, [.ref (ad (2)), .int (nI now), .int (nI past), .int (nI fut)])) : Met l yX0_futureSize wsX0_futureSize ({ frames := 0, cells := 0, slots := 0, locals := 0 } : Room) (va_Pc [.ref (ad (1))] (zI D vwCl (zTy cI cR cL) B N ad cw)) (zQi D vwCl B N ad (fun (v : Int32) (cw' : Nat → va_E) => v = nI fut ∧ cw' = cw)) 0 0 (zA B) := by
  refine z_ofW (cc := cX0_futureSize) (maxL := 1) (ret := (some .int)) (by decide) rfl (Nat.le_of_ble_eq_true rfl) ?_
  intro p e s m args below meth c C hr hnm
  refine z_lv (lv' := [(0, .ref (ad (1)))]) [0] rfl ?_
  refine z_aload_n C dX0_futureSize_0 0 rfl ?_
  refine z_get (Cn := RX0) (T := TX0) (NF := 4) (ci := 0) (v := .int (nI fut)) C qX0_futureSize_0 rfl 3 (by decide) (C.2.2.2.2.1 _ qX0_futureSize_1) (fun _ h9 => h9) dX0_futureSize_1 (1) h1N eh rfl ?_
  exact z_iret C hr dX0_futureSize_4 (⟨rfl, rfl⟩) (Nat.le_of_ble_eq_true rfl) (Nat.le_of_ble_eq_true rfl)

theorem qX0_keep_0 : ∀ w ∈ wsX00, w ∈ wsX0_keep := by decide +kernel
theorem qX0_keep_1 : Cond.fieldLink RX0 20 "PieceText$History" "now" "I" ∈ wsX0_keep := by decide +kernel
theorem qX0_keep_2 : Cond.fieldLink RX0 13 "PieceText$History" "texts" "[LPieceText$Row;" ∈ wsX0_keep := by decide +kernel
theorem qX0_keep_3 : Cond.fieldLink RX0 24 "PieceText$History" "past" "I" ∈ wsX0_keep := by decide +kernel
theorem qX0_keep_4 : Cond.methodLink RX0 41 Lib.Math.min.name ∈ wsX0_keep := by decide +kernel
theorem qX0_keep_5 : Cond.static Lib.Math.min.name ∈ wsX0_keep := by decide +kernel
theorem qX0_keep_6 : Cond.initialized "java/lang/Math" ∈ wsX0_keep := by decide +kernel
theorem qX0_keep_7 : Cond.code Lib.Math.min.name Lib.Math.min.code 2 (some .int) ∈ wsX0_keep := by decide +kernel
theorem qX0_keep_8 : Cond.fieldLink RX0 27 "PieceText$History" "future" "I" ∈ wsX0_keep := by decide +kernel
set_option maxHeartbeats 4000000 in
set_option maxRecDepth 100000 in
theorem c_Hist_keep (l : Launch) (D : va_G) (cI cR cL : ClassId) (B N : Nat) (ad : Nat → Nat) (cw : Nat → va_E) {now past fut : Nat} (h1N : 1 < N) (eh : cw 1 = .inr (0, [.ref (ad (2)), .int (nI now), .int (nI past), .int (nI fut)])) {fr : Nat → Option Nat} (h2N : 2 < N) (et : cw 2 = .inl (cR, 13, .inr (.inr (.inr (.inr (fr)))))) (hfr : ∀ i, i < 13 → fr i = some (ad (3 + 2 * i))) (hnow : now < 13) {k len : Nat} {f : Nat → Int32} (hk13 : k < 13) (hNk : 31 < N) (ek : cw (3 + 2 * k) = .inr (2, [.ref (ad (4 + 2 * k)), .int (nI len)])) (eka : cw (4 + 2 * k) = .inl (cI, 240, .inl (f))) {n : Nat} {g : Nat → Int32} (h35 : 35 < N) (ed : cw 34 = .inr (2, [.ref (ad (35)), .int (nI n)])) (eda : cw 35 = .inl (cI, 240, .inl (g))) (hn : n ≤ 240) (hk : k = (now + 1) % 13) (hp12 : past ≤ 12) : Met l yX0_keep wsX0_keep ({ frames := 2, cells := 0, slots := 0, locals := 83 } : Room) (va_Pc [.ref (ad (1)), .ref (ad (34))] (zI D vwCl (zTy cI cR cL) B N ad cw)) (zQv D vwCl B N ad (fun (cw' : Nat → va_E) => cw' 1 = .inr (0, [.ref (ad (2)), .int (nI k), .int (nI (aPast past)), .int (nI 0)]) ∧ cw' (3 + 2 * k) = .inr (2, [.ref (ad (4 + 2 * k)), .int (nI (0 + (n - 0)))]) ∧ cw' (4 + 2 * k) = .inl (cI, 240, .inl (va_cpy (g) (f) (0) (0) (n - 0))) ∧ ∀ j, (j ≠ 1 ∧ j ≠ 3 + 2 * k ∧ j ≠ 4 + 2 * k) → cw' j = cw j)) 0 0 (zA B) := by
  refine z_ofW (cc := cX0_keep) (maxL := 2) (ret := none) (by decide) rfl (Nat.le_of_ble_eq_true rfl) ?_
  intro p e s m args below meth c C hr hnm
  refine z_lv (lv' := [(0, .ref (ad (1))), (1, .ref (ad (34)))]) [0, 1] rfl ?_
  refine z_aload_n C dX0_keep_0 0 rfl ?_
  refine z_aload_n C dX0_keep_1 0 rfl ?_
  refine z_get (Cn := RX0) (T := TX0) (NF := 4) (ci := 0) (v := .int (nI now)) C qX0_keep_0 rfl 1 (by decide) (C.2.2.2.2.1 _ qX0_keep_1) (fun _ h9 => h9) dX0_keep_2 (1) h1N eh rfl ?_
  refine z_iconst (v := nI 1) C dX0_keep_5 (by decide) ?_
  refine z_iadd C dX0_keep_6 ?_
  refine z_top (y := nI (now + 1)) (nI_1 now) ?_
  refine z_bipush (v := nI 13) C dX0_keep_7 (by decide) ?_
  refine z_irem C dX0_keep_9 (by decide) ?_
  refine z_top (y := nI k) ((pk_rem (by omega) (by omega) (by omega)).trans (by rw [hk])) ?_
  obtain ⟨cw1, ecw1⟩ : ∃ z : Nat → va_E, z = va_up (cw) (1) (.inr (0, [.ref (ad (2)), .int (nI k), .int (nI past), .int (nI fut)])) := ⟨_, rfl⟩
  refine z_put (Cn := RX0) (T := TX0) (NF := 4) (ci := 0) (ty := .int) (v := .int (nI k)) C qX0_keep_0 tyX0_ok nmX0 rfl 1 (by decide) (C.2.2.2.2.1 _ qX0_keep_1) (fun _ h9 => h9) rfl (by decide +kernel) dX0_keep_10 (1) h1N eh rfl rfl (Nat.le_of_ble_eq_true rfl) ?_
  refine z_cw ecw1.symm ?_
  have hw_2 : cw1 (1) = .inr (0, [.ref (ad (2)), .int (nI k), .int (nI past), .int (nI fut)]) := by rw [ecw1, va_up_self]
  have hw_3 : cw1 (2) = .inl (cR, 13, .inr (.inr (.inr (.inr (fr))))) := by rw [ecw1, va_up_ne _ _ (by decide)]; exact et
  have hw_4 : cw1 (3 + 2 * k) = .inr (2, [.ref (ad (4 + 2 * k)), .int (nI len)]) := by rw [ecw1, va_up_ne _ _ (by omega)]; exact ek
  have hw_5 : cw1 (4 + 2 * k) = .inl (cI, 240, .inl (f)) := by rw [ecw1, va_up_ne _ _ (by omega)]; exact eka
  have hw_6 : cw1 (34) = .inr (2, [.ref (ad (35)), .int (nI n)]) := by rw [ecw1, va_up_ne _ _ (by decide)]; exact ed
  have hw_7 : cw1 (35) = .inl (cI, 240, .inl (g)) := by rw [ecw1, va_up_ne _ _ (by decide)]; exact eda
  refine z_aload_n C dX0_keep_13 0 rfl ?_
  refine z_get (Cn := RX0) (T := TX0) (NF := 4) (ci := 0) (v := .ref (ad (2))) C qX0_keep_0 rfl 0 (by decide) (C.2.2.2.2.1 _ qX0_keep_2) (fun _ h9 => h9) dX0_keep_14 (1) h1N hw_2 rfl ?_
  refine z_aload_n C dX0_keep_17 0 rfl ?_
  refine z_get (Cn := RX0) (T := TX0) (NF := 4) (ci := 0) (v := .int (nI k)) C qX0_keep_0 rfl 1 (by decide) (C.2.2.2.2.1 _ qX0_keep_1) (fun _ h9 => h9) dX0_keep_18 (1) h1N hw_2 rfl ?_
  refine z_aald (a := ad (3 + 2 * k)) C 1 rfl dX0_keep_21 (2) h2N hw_3 (k) (rfl) (hk13) (by decide) (hfr k hk13) ?_
  refine z_callv (z_runV (As := []) (rest := []) C (c_Row_empty l D cI cR cL B N ad cw1 (by omega) hw_4) (cwV 0 C.2.2.2.2.1 gX0_keep_X2_empty rfl rfl rfl (by decide +kernel) ⟨Nat.le_of_ble_eq_true rfl, Nat.le_of_ble_eq_true rfl⟩) (by omega) hw_4 rfl rfl rfl rfl (Nat.le_of_ble_eq_true rfl) dX0_keep_22 ⟨Nat.le_of_ble_eq_true rfl, Nat.le_of_ble_eq_true rfl⟩) (fun cw8 hp9 => ?_)
  have hw_10 : cw8 (1) = .inr (0, [.ref (ad (2)), .int (nI k), .int (nI past), .int (nI fut)]) := by rw [hp9, va_up_ne _ _ (by omega)]; exact hw_2
  have hw_11 : cw8 (2) = .inl (cR, 13, .inr (.inr (.inr (.inr (fr))))) := by rw [hp9, va_up_ne _ _ (by omega)]; exact hw_3
  have hw_12 : cw8 (3 + 2 * k) = .inr (2, [.ref (ad (4 + 2 * k)), .int (nI 0)]) := by rw [hp9, va_up_self]
  have hw_13 : cw8 (4 + 2 * k) = .inl (cI, 240, .inl (f)) := by rw [hp9, va_up_ne _ _ (by omega)]; exact hw_5
  have hw_14 : cw8 (34) = .inr (2, [.ref (ad (35)), .int (nI n)]) := by rw [hp9, va_up_ne _ _ (by omega)]; exact hw_6
  have hw_15 : cw8 (35) = .inl (cI, 240, .inl (g)) := by rw [hp9, va_up_ne _ _ (by omega)]; exact hw_7
  refine z_aload_n C dX0_keep_25 0 rfl ?_
  refine z_get (Cn := RX0) (T := TX0) (NF := 4) (ci := 0) (v := .ref (ad (2))) C qX0_keep_0 rfl 0 (by decide) (C.2.2.2.2.1 _ qX0_keep_2) (fun _ h9 => h9) dX0_keep_26 (1) h1N hw_10 rfl ?_
  refine z_aload_n C dX0_keep_29 0 rfl ?_
  refine z_get (Cn := RX0) (T := TX0) (NF := 4) (ci := 0) (v := .int (nI k)) C qX0_keep_0 rfl 1 (by decide) (C.2.2.2.2.1 _ qX0_keep_1) (fun _ h9 => h9) dX0_keep_30 (1) h1N hw_10 rfl ?_
  refine z_aald (a := ad (3 + 2 * k)) C 1 rfl dX0_keep_33 (2) h2N hw_11 (k) (rfl) (hk13) (by decide) (hfr k hk13) ?_
  refine z_aload_n C dX0_keep_34 1 rfl ?_
  refine z_iconst (v := nI 0) C dX0_keep_35 (by decide) ?_
  refine z_aload_n C dX0_keep_36 1 rfl ?_
  refine z_calli (z_runV (As := []) (rest := [.int (nI 0), .ref (ad (34)), .ref (ad (3 + 2 * k))]) C (c_Row_size l D cI cR cL B N ad cw8 (by omega) hw_14) (cwV 0 C.2.2.2.2.1 gX0_keep_X2_size rfl rfl rfl (by decide +kernel) ⟨Nat.le_of_ble_eq_true rfl, Nat.le_of_ble_eq_true rfl⟩) (by omega) hw_14 rfl rfl rfl rfl (Nat.le_of_ble_eq_true rfl) dX0_keep_37 ⟨Nat.le_of_ble_eq_true rfl, Nat.le_of_ble_eq_true rfl⟩) (fun r16 cw17 hp18 => ?_)
  refine z_cw hp18.2 ?_
  refine z_top hp18.1 ?_
  refine z_callv (z_runV (As := [.ref (ad (34)), .int (nI (0)), .int (nI (n))]) (rest := []) C (c_Row_addPart l D cI cR cL B N ad cw8 (by omega) hw_12 (by decide) (by omega) hw_13 (by decide) (by omega) hw_14 h35 hw_15 (by omega) ⟨(by omega), (by omega), (by omega), (by omega)⟩ (b := 0) (k := n) (Nat.zero_le _) (hn) (by omega)) (cwV 3 C.2.2.2.2.1 gX0_keep_X2_addPart rfl rfl rfl (by decide +kernel) ⟨Nat.le_of_ble_eq_true rfl, Nat.le_of_ble_eq_true rfl⟩) (by omega) hw_12 rfl rfl rfl rfl (Nat.le_of_ble_eq_true rfl) dX0_keep_40 ⟨Nat.le_of_ble_eq_true rfl, Nat.le_of_ble_eq_true rfl⟩) (fun cw19 hp20 => ?_)
  have hw_21 : cw19 (1) = .inr (0, [.ref (ad (2)), .int (nI k), .int (nI past), .int (nI fut)]) := by rw [hp20, va_up_ne _ _ (by omega), va_up_ne _ _ (by omega)]; exact hw_10
  have hw_22 : cw19 (2) = .inl (cR, 13, .inr (.inr (.inr (.inr (fr))))) := by rw [hp20, va_up_ne _ _ (by omega), va_up_ne _ _ (by omega)]; exact hw_11
  have hw_23 : cw19 (3 + 2 * k) = .inr (2, [.ref (ad (4 + 2 * k)), .int (nI (0 + (n - 0)))]) := by rw [hp20, va_up_self]
  have hw_24 : cw19 (4 + 2 * k) = .inl (cI, 240, .inl (va_cpy (g) (f) (0) (0) (n - 0))) := by rw [hp20, va_up_ne _ _ (by omega), va_up_self]
  have hw_25 : cw19 (34) = .inr (2, [.ref (ad (35)), .int (nI n)]) := by rw [hp20, va_up_ne _ _ (by omega), va_up_ne _ _ (by omega)]; exact hw_14
  have hw_26 : cw19 (35) = .inl (cI, 240, .inl (g)) := by rw [hp20, va_up_ne _ _ (by omega), va_up_ne _ _ (by omega)]; exact hw_15
  refine z_aload_n C dX0_keep_43 0 rfl ?_
  refine z_aload_n C dX0_keep_44 0 rfl ?_
  refine z_get (Cn := RX0) (T := TX0) (NF := 4) (ci := 0) (v := .int (nI past)) C qX0_keep_0 rfl 2 (by decide) (C.2.2.2.2.1 _ qX0_keep_3) (fun _ h9 => h9) dX0_keep_45 (1) h1N hw_21 rfl ?_
  refine z_iconst (v := nI 1) C dX0_keep_48 (by decide) ?_
  refine z_iadd C dX0_keep_49 ?_
  refine z_top (y := nI (past + 1)) (nI_1 past) ?_
  refine z_bipush (v := nI 12) C dX0_keep_50 (by decide) ?_
  refine z_mmin C (C.2.2.2.2.1 _ qX0_keep_4) (C.2.2.2.2.1 _ qX0_keep_5) (C.2.2.2.2.1 _ qX0_keep_6) (C.2.2.2.2.1 _ qX0_keep_7) (Nat.le_of_ble_eq_true rfl) (Nat.le_of_ble_eq_true rfl) (Nat.le_of_ble_eq_true rfl) (Nat.le_of_ble_eq_true rfl) dX0_keep_52 ?_
  refine z_top (y := nI (aPast past)) (z_min12 hp12) ?_
  obtain ⟨cw27, ecw27⟩ : ∃ z : Nat → va_E, z = va_up (cw19) (1) (.inr (0, [.ref (ad (2)), .int (nI k), .int (nI (aPast past)), .int (nI fut)])) := ⟨_, rfl⟩
  refine z_put (Cn := RX0) (T := TX0) (NF := 4) (ci := 0) (ty := .int) (v := .int (nI (aPast past))) C qX0_keep_0 tyX0_ok nmX0 rfl 2 (by decide) (C.2.2.2.2.1 _ qX0_keep_3) (fun _ h9 => h9) rfl (by decide +kernel) dX0_keep_55 (1) h1N hw_21 rfl rfl (Nat.le_of_ble_eq_true rfl) ?_
  refine z_cw ecw27.symm ?_
  have hw_28 : cw27 (1) = .inr (0, [.ref (ad (2)), .int (nI k), .int (nI (aPast past)), .int (nI fut)]) := by rw [ecw27, va_up_self]
  have hw_29 : cw27 (2) = .inl (cR, 13, .inr (.inr (.inr (.inr (fr))))) := by rw [ecw27, va_up_ne _ _ (by decide)]; exact hw_22
  have hw_30 : cw27 (3 + 2 * k) = .inr (2, [.ref (ad (4 + 2 * k)), .int (nI (0 + (n - 0)))]) := by rw [ecw27, va_up_ne _ _ (by omega)]; exact hw_23
  have hw_31 : cw27 (4 + 2 * k) = .inl (cI, 240, .inl (va_cpy (g) (f) (0) (0) (n - 0))) := by rw [ecw27, va_up_ne _ _ (by omega)]; exact hw_24
  have hw_32 : cw27 (34) = .inr (2, [.ref (ad (35)), .int (nI n)]) := by rw [ecw27, va_up_ne _ _ (by decide)]; exact hw_25
  have hw_33 : cw27 (35) = .inl (cI, 240, .inl (g)) := by rw [ecw27, va_up_ne _ _ (by decide)]; exact hw_26
  refine z_aload_n C dX0_keep_58 0 rfl ?_
  refine z_iconst (v := nI 0) C dX0_keep_59 (by decide) ?_
  obtain ⟨cw34, ecw34⟩ : ∃ z : Nat → va_E, z = va_up (cw27) (1) (.inr (0, [.ref (ad (2)), .int (nI k), .int (nI (aPast past)), .int (nI 0)])) := ⟨_, rfl⟩
  refine z_put (Cn := RX0) (T := TX0) (NF := 4) (ci := 0) (ty := .int) (v := .int (nI 0)) C qX0_keep_0 tyX0_ok nmX0 rfl 3 (by decide) (C.2.2.2.2.1 _ qX0_keep_8) (fun _ h9 => h9) rfl (by decide +kernel) dX0_keep_60 (1) h1N hw_28 rfl rfl (Nat.le_of_ble_eq_true rfl) ?_
  refine z_cw ecw34.symm ?_
  have hw_35 : cw34 (1) = .inr (0, [.ref (ad (2)), .int (nI k), .int (nI (aPast past)), .int (nI 0)]) := by rw [ecw34, va_up_self]
  have hw_36 : cw34 (2) = .inl (cR, 13, .inr (.inr (.inr (.inr (fr))))) := by rw [ecw34, va_up_ne _ _ (by decide)]; exact hw_29
  have hw_37 : cw34 (3 + 2 * k) = .inr (2, [.ref (ad (4 + 2 * k)), .int (nI (0 + (n - 0)))]) := by rw [ecw34, va_up_ne _ _ (by omega)]; exact hw_30
  have hw_38 : cw34 (4 + 2 * k) = .inl (cI, 240, .inl (va_cpy (g) (f) (0) (0) (n - 0))) := by rw [ecw34, va_up_ne _ _ (by omega)]; exact hw_31
  have hw_39 : cw34 (34) = .inr (2, [.ref (ad (35)), .int (nI n)]) := by rw [ecw34, va_up_ne _ _ (by decide)]; exact hw_32
  have hw_40 : cw34 (35) = .inl (cI, 240, .inl (g)) := by rw [ecw34, va_up_ne _ _ (by decide)]; exact hw_33
  exact z_vret C hr dX0_keep_63 (⟨hw_35, hw_37, hw_38, fun j hj => by rw [ecw34, va_up_ne _ _ (by omega)]; rw [ecw27, va_up_ne _ _ (by omega)]; rw [hp20, va_up_ne _ _ (by omega), va_up_ne _ _ (by omega)]; rw [hp9, va_up_ne _ _ (by omega)]; rw [ecw1, va_up_ne _ _ (by omega)]⟩) (Nat.le_of_ble_eq_true rfl) (Nat.le_of_ble_eq_true rfl)

theorem qX0_stepBack_0 : ∀ w ∈ wsX00, w ∈ wsX0_stepBack := by decide +kernel
theorem qX0_stepBack_1 : Cond.fieldLink RX0 20 "PieceText$History" "now" "I" ∈ wsX0_stepBack := by decide +kernel
theorem qX0_stepBack_2 : Cond.fieldLink RX0 24 "PieceText$History" "past" "I" ∈ wsX0_stepBack := by decide +kernel
theorem qX0_stepBack_3 : Cond.fieldLink RX0 27 "PieceText$History" "future" "I" ∈ wsX0_stepBack := by decide +kernel
set_option maxHeartbeats 4000000 in
set_option maxRecDepth 100000 in
theorem c_Hist_stepBack (l : Launch) (D : va_G) (cI cR cL : ClassId) (B N : Nat) (ad : Nat → Nat) (cw : Nat → va_E) {now pv fut : Nat} (h1N : 1 < N) (eh : cw 1 = .inr (0, [.ref (ad (2)), .int (nI now), .int (nI (pv + 1)), .int (nI fut)])) (hnow : now < 13) : Met l yX0_stepBack wsX0_stepBack ({ frames := 0, cells := 0, slots := 0, locals := 0 } : Room) (va_Pc [.ref (ad (1))] (zI D vwCl (zTy cI cR cL) B N ad cw)) (zQv D vwCl B N ad (fun (cw' : Nat → va_E) => cw' 1 = .inr (0, [.ref (ad (2)), .int (nI ((now + 12) % 13)), .int (nI (pv)), .int (nI (fut + 1))]) ∧ ∀ j, (j ≠ 1) → cw' j = cw j)) 0 0 (zA B) := by
  refine z_ofW (cc := cX0_stepBack) (maxL := 1) (ret := none) (by decide) rfl (Nat.le_of_ble_eq_true rfl) ?_
  intro p e s m args below meth c C hr hnm
  refine z_lv (lv' := [(0, .ref (ad (1)))]) [0] rfl ?_
  refine z_aload_n C dX0_stepBack_0 0 rfl ?_
  refine z_aload_n C dX0_stepBack_1 0 rfl ?_
  refine z_get (Cn := RX0) (T := TX0) (NF := 4) (ci := 0) (v := .int (nI now)) C qX0_stepBack_0 rfl 1 (by decide) (C.2.2.2.2.1 _ qX0_stepBack_1) (fun _ h9 => h9) dX0_stepBack_2 (1) h1N eh rfl ?_
  refine z_bipush (v := nI 13) C dX0_stepBack_5 (by decide) ?_
  refine z_iadd C dX0_stepBack_7 ?_
  refine z_top (y := nI (now + 13)) (nI_add _ _) ?_
  refine z_iconst (v := nI 1) C dX0_stepBack_8 (by decide) ?_
  refine z_isub C dX0_stepBack_9 ?_
  refine z_top (y := nI (now + 12)) (pk_sub (b := 1) (a := now + 13) (by omega)) ?_
  refine z_bipush (v := nI 13) C dX0_stepBack_10 (by decide) ?_
  refine z_irem C dX0_stepBack_12 (by decide) ?_
  refine z_top (y := nI ((now + 12) % 13)) (pk_rem (by omega) (by omega) (by omega)) ?_
  obtain ⟨cw1, ecw1⟩ : ∃ z : Nat → va_E, z = va_up (cw) (1) (.inr (0, [.ref (ad (2)), .int (nI ((now + 12) % 13)), .int (nI (pv + 1)), .int (nI fut)])) := ⟨_, rfl⟩
  refine z_put (Cn := RX0) (T := TX0) (NF := 4) (ci := 0) (ty := .int) (v := .int (nI ((now + 12) % 13))) C qX0_stepBack_0 tyX0_ok nmX0 rfl 1 (by decide) (C.2.2.2.2.1 _ qX0_stepBack_1) (fun _ h9 => h9) rfl (by decide +kernel) dX0_stepBack_13 (1) h1N eh rfl rfl (Nat.le_of_ble_eq_true rfl) ?_
  refine z_cw ecw1.symm ?_
  have hw_2 : cw1 (1) = .inr (0, [.ref (ad (2)), .int (nI ((now + 12) % 13)), .int (nI (pv + 1)), .int (nI fut)]) := by rw [ecw1, va_up_self]
  refine z_aload_n C dX0_stepBack_16 0 rfl ?_
  refine z_dup C dX0_stepBack_17 rfl ?_
  refine z_get (Cn := RX0) (T := TX0) (NF := 4) (ci := 0) (v := .int (nI (pv + 1))) C qX0_stepBack_0 rfl 2 (by decide) (C.2.2.2.2.1 _ qX0_stepBack_2) (fun _ h9 => h9) dX0_stepBack_18 (1) h1N hw_2 rfl ?_
  refine z_iconst (v := nI 1) C dX0_stepBack_21 (by decide) ?_
  refine z_isub C dX0_stepBack_22 ?_
  refine z_top (y := nI pv) (pk_sub (b := 1) (a := pv + 1) (by omega)) ?_
  obtain ⟨cw3, ecw3⟩ : ∃ z : Nat → va_E, z = va_up (cw1) (1) (.inr (0, [.ref (ad (2)), .int (nI ((now + 12) % 13)), .int (nI pv), .int (nI fut)])) := ⟨_, rfl⟩
  refine z_put (Cn := RX0) (T := TX0) (NF := 4) (ci := 0) (ty := .int) (v := .int (nI pv)) C qX0_stepBack_0 tyX0_ok nmX0 rfl 2 (by decide) (C.2.2.2.2.1 _ qX0_stepBack_2) (fun _ h9 => h9) rfl (by decide +kernel) dX0_stepBack_23 (1) h1N hw_2 rfl rfl (Nat.le_of_ble_eq_true rfl) ?_
  refine z_cw ecw3.symm ?_
  have hw_4 : cw3 (1) = .inr (0, [.ref (ad (2)), .int (nI ((now + 12) % 13)), .int (nI pv), .int (nI fut)]) := by rw [ecw3, va_up_self]
  refine z_aload_n C dX0_stepBack_26 0 rfl ?_
  refine z_dup C dX0_stepBack_27 rfl ?_
  refine z_get (Cn := RX0) (T := TX0) (NF := 4) (ci := 0) (v := .int (nI fut)) C qX0_stepBack_0 rfl 3 (by decide) (C.2.2.2.2.1 _ qX0_stepBack_3) (fun _ h9 => h9) dX0_stepBack_28 (1) h1N hw_4 rfl ?_
  refine z_iconst (v := nI 1) C dX0_stepBack_31 (by decide) ?_
  refine z_iadd C dX0_stepBack_32 ?_
  refine z_top (y := nI (fut + 1)) (nI_1 fut) ?_
  obtain ⟨cw5, ecw5⟩ : ∃ z : Nat → va_E, z = va_up (cw3) (1) (.inr (0, [.ref (ad (2)), .int (nI ((now + 12) % 13)), .int (nI pv), .int (nI (fut + 1))])) := ⟨_, rfl⟩
  refine z_put (Cn := RX0) (T := TX0) (NF := 4) (ci := 0) (ty := .int) (v := .int (nI (fut + 1))) C qX0_stepBack_0 tyX0_ok nmX0 rfl 3 (by decide) (C.2.2.2.2.1 _ qX0_stepBack_3) (fun _ h9 => h9) rfl (by decide +kernel) dX0_stepBack_33 (1) h1N hw_4 rfl rfl (Nat.le_of_ble_eq_true rfl) ?_
  refine z_cw ecw5.symm ?_
  have hw_6 : cw5 (1) = .inr (0, [.ref (ad (2)), .int (nI ((now + 12) % 13)), .int (nI pv), .int (nI (fut + 1))]) := by rw [ecw5, va_up_self]
  exact z_vret C hr dX0_stepBack_36 (⟨hw_6, fun j hj => by rw [ecw5, va_up_ne _ _ (by omega)]; rw [ecw3, va_up_ne _ _ (by omega)]; rw [ecw1, va_up_ne _ _ (by omega)]⟩) (Nat.le_of_ble_eq_true rfl) (Nat.le_of_ble_eq_true rfl)

theorem qX0_stepOn_0 : ∀ w ∈ wsX00, w ∈ wsX0_stepOn := by decide +kernel
theorem qX0_stepOn_1 : Cond.fieldLink RX0 20 "PieceText$History" "now" "I" ∈ wsX0_stepOn := by decide +kernel
theorem qX0_stepOn_2 : Cond.fieldLink RX0 24 "PieceText$History" "past" "I" ∈ wsX0_stepOn := by decide +kernel
theorem qX0_stepOn_3 : Cond.fieldLink RX0 27 "PieceText$History" "future" "I" ∈ wsX0_stepOn := by decide +kernel
set_option maxHeartbeats 4000000 in
set_option maxRecDepth 100000 in
theorem c_Hist_stepOn (l : Launch) (D : va_G) (cI cR cL : ClassId) (B N : Nat) (ad : Nat → Nat) (cw : Nat → va_E) {now past q : Nat} (h1N : 1 < N) (eh : cw 1 = .inr (0, [.ref (ad (2)), .int (nI now), .int (nI past), .int (nI (q + 1))])) (hnow : now < 13) : Met l yX0_stepOn wsX0_stepOn ({ frames := 0, cells := 0, slots := 0, locals := 0 } : Room) (va_Pc [.ref (ad (1))] (zI D vwCl (zTy cI cR cL) B N ad cw)) (zQv D vwCl B N ad (fun (cw' : Nat → va_E) => cw' 1 = .inr (0, [.ref (ad (2)), .int (nI ((now + 1) % 13)), .int (nI (past + 1)), .int (nI (q))]) ∧ ∀ j, (j ≠ 1) → cw' j = cw j)) 0 0 (zA B) := by
  refine z_ofW (cc := cX0_stepOn) (maxL := 1) (ret := none) (by decide) rfl (Nat.le_of_ble_eq_true rfl) ?_
  intro p e s m args below meth c C hr hnm
  refine z_lv (lv' := [(0, .ref (ad (1)))]) [0] rfl ?_
  refine z_aload_n C dX0_stepOn_0 0 rfl ?_
  refine z_aload_n C dX0_stepOn_1 0 rfl ?_
  refine z_get (Cn := RX0) (T := TX0) (NF := 4) (ci := 0) (v := .int (nI now)) C qX0_stepOn_0 rfl 1 (by decide) (C.2.2.2.2.1 _ qX0_stepOn_1) (fun _ h9 => h9) dX0_stepOn_2 (1) h1N eh rfl ?_
  refine z_iconst (v := nI 1) C dX0_stepOn_5 (by decide) ?_
  refine z_iadd C dX0_stepOn_6 ?_
  refine z_top (y := nI (now + 1)) (nI_1 now) ?_
  refine z_bipush (v := nI 13) C dX0_stepOn_7 (by decide) ?_
  refine z_irem C dX0_stepOn_9 (by decide) ?_
  refine z_top (y := nI ((now + 1) % 13)) (pk_rem (by omega) (by omega) (by omega)) ?_
  obtain ⟨cw1, ecw1⟩ : ∃ z : Nat → va_E, z = va_up (cw) (1) (.inr (0, [.ref (ad (2)), .int (nI ((now + 1) % 13)), .int (nI past), .int (nI (q + 1))])) := ⟨_, rfl⟩
  refine z_put (Cn := RX0) (T := TX0) (NF := 4) (ci := 0) (ty := .int) (v := .int (nI ((now + 1) % 13))) C qX0_stepOn_0 tyX0_ok nmX0 rfl 1 (by decide) (C.2.2.2.2.1 _ qX0_stepOn_1) (fun _ h9 => h9) rfl (by decide +kernel) dX0_stepOn_10 (1) h1N eh rfl rfl (Nat.le_of_ble_eq_true rfl) ?_
  refine z_cw ecw1.symm ?_
  have hw_2 : cw1 (1) = .inr (0, [.ref (ad (2)), .int (nI ((now + 1) % 13)), .int (nI past), .int (nI (q + 1))]) := by rw [ecw1, va_up_self]
  refine z_aload_n C dX0_stepOn_13 0 rfl ?_
  refine z_dup C dX0_stepOn_14 rfl ?_
  refine z_get (Cn := RX0) (T := TX0) (NF := 4) (ci := 0) (v := .int (nI past)) C qX0_stepOn_0 rfl 2 (by decide) (C.2.2.2.2.1 _ qX0_stepOn_2) (fun _ h9 => h9) dX0_stepOn_15 (1) h1N hw_2 rfl ?_
  refine z_iconst (v := nI 1) C dX0_stepOn_18 (by decide) ?_
  refine z_iadd C dX0_stepOn_19 ?_
  refine z_top (y := nI (past + 1)) (nI_1 past) ?_
  obtain ⟨cw3, ecw3⟩ : ∃ z : Nat → va_E, z = va_up (cw1) (1) (.inr (0, [.ref (ad (2)), .int (nI ((now + 1) % 13)), .int (nI (past + 1)), .int (nI (q + 1))])) := ⟨_, rfl⟩
  refine z_put (Cn := RX0) (T := TX0) (NF := 4) (ci := 0) (ty := .int) (v := .int (nI (past + 1))) C qX0_stepOn_0 tyX0_ok nmX0 rfl 2 (by decide) (C.2.2.2.2.1 _ qX0_stepOn_2) (fun _ h9 => h9) rfl (by decide +kernel) dX0_stepOn_20 (1) h1N hw_2 rfl rfl (Nat.le_of_ble_eq_true rfl) ?_
  refine z_cw ecw3.symm ?_
  have hw_4 : cw3 (1) = .inr (0, [.ref (ad (2)), .int (nI ((now + 1) % 13)), .int (nI (past + 1)), .int (nI (q + 1))]) := by rw [ecw3, va_up_self]
  refine z_aload_n C dX0_stepOn_23 0 rfl ?_
  refine z_dup C dX0_stepOn_24 rfl ?_
  refine z_get (Cn := RX0) (T := TX0) (NF := 4) (ci := 0) (v := .int (nI (q + 1))) C qX0_stepOn_0 rfl 3 (by decide) (C.2.2.2.2.1 _ qX0_stepOn_3) (fun _ h9 => h9) dX0_stepOn_25 (1) h1N hw_4 rfl ?_
  refine z_iconst (v := nI 1) C dX0_stepOn_28 (by decide) ?_
  refine z_isub C dX0_stepOn_29 ?_
  refine z_top (y := nI q) (pk_sub (b := 1) (a := q + 1) (by omega)) ?_
  obtain ⟨cw5, ecw5⟩ : ∃ z : Nat → va_E, z = va_up (cw3) (1) (.inr (0, [.ref (ad (2)), .int (nI ((now + 1) % 13)), .int (nI (past + 1)), .int (nI q)])) := ⟨_, rfl⟩
  refine z_put (Cn := RX0) (T := TX0) (NF := 4) (ci := 0) (ty := .int) (v := .int (nI q)) C qX0_stepOn_0 tyX0_ok nmX0 rfl 3 (by decide) (C.2.2.2.2.1 _ qX0_stepOn_3) (fun _ h9 => h9) rfl (by decide +kernel) dX0_stepOn_30 (1) h1N hw_4 rfl rfl (Nat.le_of_ble_eq_true rfl) ?_
  refine z_cw ecw5.symm ?_
  have hw_6 : cw5 (1) = .inr (0, [.ref (ad (2)), .int (nI ((now + 1) % 13)), .int (nI (past + 1)), .int (nI q)]) := by rw [ecw5, va_up_self]
  exact z_vret C hr dX0_stepOn_33 (⟨hw_6, fun j hj => by rw [ecw5, va_up_ne _ _ (by omega)]; rw [ecw3, va_up_ne _ _ (by omega)]; rw [ecw1, va_up_ne _ _ (by omega)]⟩) (Nat.le_of_ble_eq_true rfl) (Nat.le_of_ble_eq_true rfl)

theorem qX0_forget_0 : ∀ w ∈ wsX00, w ∈ wsX0_forget := by decide +kernel
theorem qX0_forget_1 : Cond.fieldLink RX0 13 "PieceText$History" "texts" "[LPieceText$Row;" ∈ wsX0_forget := by decide +kernel
theorem qX0_forget_2 : Cond.fieldLink RX0 20 "PieceText$History" "now" "I" ∈ wsX0_forget := by decide +kernel
theorem qX0_forget_3 : Cond.fieldLink RX0 24 "PieceText$History" "past" "I" ∈ wsX0_forget := by decide +kernel
theorem qX0_forget_4 : Cond.fieldLink RX0 27 "PieceText$History" "future" "I" ∈ wsX0_forget := by decide +kernel
set_option maxHeartbeats 4000000 in
set_option maxRecDepth 100000 in
theorem c_Hist_forget (l : Launch) (D : va_G) (cI cR cL : ClassId) (B N : Nat) (ad : Nat → Nat) (cw : Nat → va_E) {now past fut : Nat} (h1N : 1 < N) (eh : cw 1 = .inr (0, [.ref (ad (2)), .int (nI now), .int (nI past), .int (nI fut)])) {fr : Nat → Option Nat} (h2N : 2 < N) (et : cw 2 = .inl (cR, 13, .inr (.inr (.inr (.inr (fr)))))) (hfr : ∀ i, i < 13 → fr i = some (ad (3 + 2 * i))) (hnow : now < 13) {len : Nat} {f : Nat → Int32} (hNk : 31 < N) (ek : cw (3 + 2 * now) = .inr (2, [.ref (ad (4 + 2 * now)), .int (nI len)])) (eka : cw (4 + 2 * now) = .inl (cI, 240, .inl (f))) : Met l yX0_forget wsX0_forget ({ frames := 1, cells := 0, slots := 0, locals := 20 } : Room) (va_Pc [.ref (ad (1))] (zI D vwCl (zTy cI cR cL) B N ad cw)) (zQv D vwCl B N ad (fun (cw' : Nat → va_E) => cw' 1 = .inr (0, [.ref (ad (2)), .int (nI now), .int (nI 0), .int (nI 0)]) ∧ cw' (3 + 2 * now) = .inr (2, [.ref (ad (4 + 2 * now)), .int (nI 0)]) ∧ ∀ j, (j ≠ 1 ∧ j ≠ 3 + 2 * now) → cw' j = cw j)) 0 0 (zA B) := by
  refine z_ofW (cc := cX0_forget) (maxL := 1) (ret := none) (by decide) rfl (Nat.le_of_ble_eq_true rfl) ?_
  intro p e s m args below meth c C hr hnm
  refine z_lv (lv' := [(0, .ref (ad (1)))]) [0] rfl ?_
  refine z_aload_n C dX0_forget_0 0 rfl ?_
  refine z_get (Cn := RX0) (T := TX0) (NF := 4) (ci := 0) (v := .ref (ad (2))) C qX0_forget_0 rfl 0 (by decide) (C.2.2.2.2.1 _ qX0_forget_1) (fun _ h9 => h9) dX0_forget_1 (1) h1N eh rfl ?_
  refine z_aload_n C dX0_forget_4 0 rfl ?_
  refine z_get (Cn := RX0) (T := TX0) (NF := 4) (ci := 0) (v := .int (nI now)) C qX0_forget_0 rfl 1 (by decide) (C.2.2.2.2.1 _ qX0_forget_2) (fun _ h9 => h9) dX0_forget_5 (1) h1N eh rfl ?_
  refine z_aald (a := ad (3 + 2 * now)) C 1 rfl dX0_forget_8 (2) h2N et (now) (rfl) (hnow) (by decide) (hfr now hnow) ?_
  refine z_callv (z_runV (As := []) (rest := []) C (c_Row_empty l D cI cR cL B N ad cw (by omega) ek) (cwV 0 C.2.2.2.2.1 gX0_forget_X2_empty rfl rfl rfl (by decide +kernel) ⟨Nat.le_of_ble_eq_true rfl, Nat.le_of_ble_eq_true rfl⟩) (by omega) ek rfl rfl rfl rfl (Nat.le_of_ble_eq_true rfl) dX0_forget_9 ⟨Nat.le_of_ble_eq_true rfl, Nat.le_of_ble_eq_true rfl⟩) (fun cw1 hp2 => ?_)
  have hw_3 : cw1 (1) = .inr (0, [.ref (ad (2)), .int (nI now), .int (nI past), .int (nI fut)]) := by rw [hp2, va_up_ne _ _ (by omega)]; exact eh
  have hw_4 : cw1 (2) = .inl (cR, 13, .inr (.inr (.inr (.inr (fr))))) := by rw [hp2, va_up_ne _ _ (by omega)]; exact et
  have hw_5 : cw1 (3 + 2 * now) = .inr (2, [.ref (ad (4 + 2 * now)), .int (nI 0)]) := by rw [hp2, va_up_self]
  refine z_aload_n C dX0_forget_12 0 rfl ?_
  refine z_iconst (v := nI 0) C dX0_forget_13 (by decide) ?_
  obtain ⟨cw6, ecw6⟩ : ∃ z : Nat → va_E, z = va_up (cw1) (1) (.inr (0, [.ref (ad (2)), .int (nI now), .int (nI 0), .int (nI fut)])) := ⟨_, rfl⟩
  refine z_put (Cn := RX0) (T := TX0) (NF := 4) (ci := 0) (ty := .int) (v := .int (nI 0)) C qX0_forget_0 tyX0_ok nmX0 rfl 2 (by decide) (C.2.2.2.2.1 _ qX0_forget_3) (fun _ h9 => h9) rfl (by decide +kernel) dX0_forget_14 (1) h1N hw_3 rfl rfl (Nat.le_of_ble_eq_true rfl) ?_
  refine z_cw ecw6.symm ?_
  have hw_7 : cw6 (1) = .inr (0, [.ref (ad (2)), .int (nI now), .int (nI 0), .int (nI fut)]) := by rw [ecw6, va_up_self]
  have hw_8 : cw6 (2) = .inl (cR, 13, .inr (.inr (.inr (.inr (fr))))) := by rw [ecw6, va_up_ne _ _ (by decide)]; exact hw_4
  have hw_9 : cw6 (3 + 2 * now) = .inr (2, [.ref (ad (4 + 2 * now)), .int (nI 0)]) := by rw [ecw6, va_up_ne _ _ (by omega)]; exact hw_5
  refine z_aload_n C dX0_forget_17 0 rfl ?_
  refine z_iconst (v := nI 0) C dX0_forget_18 (by decide) ?_
  obtain ⟨cw10, ecw10⟩ : ∃ z : Nat → va_E, z = va_up (cw6) (1) (.inr (0, [.ref (ad (2)), .int (nI now), .int (nI 0), .int (nI 0)])) := ⟨_, rfl⟩
  refine z_put (Cn := RX0) (T := TX0) (NF := 4) (ci := 0) (ty := .int) (v := .int (nI 0)) C qX0_forget_0 tyX0_ok nmX0 rfl 3 (by decide) (C.2.2.2.2.1 _ qX0_forget_4) (fun _ h9 => h9) rfl (by decide +kernel) dX0_forget_19 (1) h1N hw_7 rfl rfl (Nat.le_of_ble_eq_true rfl) ?_
  refine z_cw ecw10.symm ?_
  have hw_11 : cw10 (1) = .inr (0, [.ref (ad (2)), .int (nI now), .int (nI 0), .int (nI 0)]) := by rw [ecw10, va_up_self]
  have hw_12 : cw10 (2) = .inl (cR, 13, .inr (.inr (.inr (.inr (fr))))) := by rw [ecw10, va_up_ne _ _ (by decide)]; exact hw_8
  have hw_13 : cw10 (3 + 2 * now) = .inr (2, [.ref (ad (4 + 2 * now)), .int (nI 0)]) := by rw [ecw10, va_up_ne _ _ (by omega)]; exact hw_9
  exact z_vret C hr dX0_forget_22 (⟨hw_11, hw_13, fun j hj => by rw [ecw10, va_up_ne _ _ (by omega)]; rw [ecw6, va_up_ne _ _ (by omega)]; rw [hp2, va_up_ne _ _ (by omega)]⟩) (Nat.le_of_ble_eq_true rfl) (Nat.le_of_ble_eq_true rfl)

