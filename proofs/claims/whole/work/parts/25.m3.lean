theorem zRM_dr {cI : ClassId} {ad : Nat → Nat} {cw cw' : Nat → va_E} {past fut : Nat} {hs : Nat → List Int32} {pat ws : List Int32} {th dn th' dn' : Int32} (h : zRM cI ad cw past fut hs pat ws th dn) (h1 : cw' 37 = .inr (4, [.int (th'), .ref (ad (38)), .ref (ad (39)), .int (nI (past)), .int (nI (fut)), .ref (ad (40)), .int (dn'), .ref (ad (41)), .int (nI (pat.length)), .ref (ad (42)), .int (nI (ws.length)), .ref (ad (43)), .ref (ad (44))])) (h2 : ∃ df, cw' 40 = .inl (cI, 240, .inl (df))) (hk : ∀ j, (j ≠ 37 ∧ j ≠ 40) → cw' j = cw j) : zRM cI ad cw' past fut hs pat ws th' dn' := by
  obtain ⟨m1, ⟨m2, tf, lf, m3, m4, m5⟩, ⟨df, m6⟩, ⟨m7, pf, m8, m9⟩, ⟨m10, wf, m11, m12⟩, ⟨bf, m13⟩, zf, m14⟩ := h
  exact ⟨h1, ⟨m2, tf, lf, (hk _ (by omega)).trans m3, (hk _ (by omega)).trans m4, m5⟩, h2, ⟨m7, pf, (hk _ (by omega)).trans m8, m9⟩, ⟨m10, wf, (hk _ (by omega)).trans m11, m12⟩, ⟨bf, (hk _ (by omega)).trans m13⟩, zf, (hk _ (by omega)).trans m14⟩
theorem zRM_obj {cI : ClassId} {ad : Nat → Nat} {cw cw' : Nat → va_E} {past fut : Nat} {hs : Nat → List Int32} {pat ws : List Int32} {th dn th' dn' : Int32} (h : zRM cI ad cw past fut hs pat ws th dn) (h1 : cw' 37 = .inr (4, [.int (th'), .ref (ad (38)), .ref (ad (39)), .int (nI (past)), .int (nI (fut)), .ref (ad (40)), .int (dn'), .ref (ad (41)), .int (nI (pat.length)), .ref (ad (42)), .int (nI (ws.length)), .ref (ad (43)), .ref (ad (44))])) (hk : ∀ j, (j ≠ 37) → cw' j = cw j) : zRM cI ad cw' past fut hs pat ws th' dn' := by
  obtain ⟨df, m6⟩ := h.2.2.1
  exact zRM_dr h h1 ⟨df, (hk 40 (by omega)).trans m6⟩ (fun j hj => hk j hj.1)
theorem qX4_insert_0 : Cond.constantLong RX4 56 (255) ∈ wsX4_insert := by decide +kernel
theorem qX4_insert_1 : ∀ w ∈ wsX40, w ∈ wsX4_insert := by decide +kernel
theorem qX4_insert_2 : Cond.fieldLink RX4 31 "PieceTextModel" "thrown" "I" ∈ wsX4_insert := by decide +kernel
theorem qX4_insert_3 : Cond.fieldLink RX4 38 "PieceTextModel" "drafted" "I" ∈ wsX4_insert := by decide +kernel
set_option maxHeartbeats 4000000 in
set_option maxRecDepth 100000 in
theorem c_M_insert (l : Launch) (D : va_G) (cI cR cL : ClassId) (B N : Nat) (ad : Nat → Nat) (cw : Nat → va_E) (hN : 45 < N) {past fut : Nat} {hs : Nat → List Int32} {pat ws : List Int32} {th dn : Int32} (hM : zRM cI ad cw past fut hs pat ws th dn) (x ch : Int32) : Met l yX4_insert wsX4_insert ({ frames := 2, cells := 0, slots := 0, locals := 44 } : Room) (va_Pc [.ref (ad (37)), .int (x), .int (ch)] (zI D vwCl (zTy cI cR cL) B N ad cw)) (zQi D vwCl B N ad (fun (v : Int32) (cw' : Nat → va_E) => ((zRM cI ad cw' past fut hs pat ws (nI 1) dn ∧ ¬ (∃ q, q ≤ (hs past).length ∧ x = nI q)) ∨ (zRM cI ad cw' past fut hs pat ws (nI 2) dn ∧ (∃ q, q ≤ (hs past).length ∧ x = nI q) ∧ ¬ (∃ q, q < 256 ∧ ch = nI q)) ∨ (zRM cI ad cw' past fut hs pat ws (nI 3) dn ∧ (∃ q, q ≤ (hs past).length ∧ x = nI q) ∧ (∃ q, q < 256 ∧ ch = nI q) ∧ ¬ ((hs past).length + 1 ≤ 240)) ∨ (∃ q, q ≤ (hs past).length ∧ x = nI q ∧ (∃ q, q < 256 ∧ ch = nI q) ∧ (hs past).length + 1 ≤ 240 ∧ v = nI (sIns (hs past) q ch).length ∧ zRM cI ad cw' (aPast past) 0 (aHs past hs (sIns (hs past) q ch)) pat ws (nI 0) (nI (sIns (hs past) q ch).length))) ∧ ∀ j, (j < 37 ∨ 45 ≤ j) → cw' j = cw j)) 0 0 (zA B) := by
  obtain ⟨m1, ⟨m2, tf, lf, m3, m4, m5⟩, ⟨df, m6⟩, ⟨m7, pf, m8, m9⟩, ⟨m10, wf, m11, m12⟩, ⟨bf, m13⟩, zf, m14⟩ := id hM
  obtain ⟨k1, k2, k3⟩ := m5 past (by omega)
  refine z_ofW (cc := cX4_insert) (maxL := 3) (ret := (some .int)) (by decide) rfl (Nat.le_of_ble_eq_true rfl) ?_
  intro p e s m args below meth c C hr hnm
  refine z_lv (lv' := [(0, .ref (ad (37))), (1, .int (x)), (2, .int (ch))]) [0, 1, 2] rfl ?_
  refine z_aload_n C dX4_insert_0 0 rfl ?_
  refine z_iload_n C dX4_insert_1 1 rfl ?_
  refine z_i2l C dX4_insert_2 rfl ?_
  refine z_lconst (v := 0) C dX4_insert_3 rfl ?_
  refine z_aload_n C dX4_insert_4 0 rfl ?_
  refine z_calli (z_runV (As := []) (rest := [.long (0), .long (x).toInt64, .ref (ad (37))]) C (c_M_length l D cI cR cL B N ad cw hN m1 m4 (by omega) (k2)) (cwV 0 C.2.2.2.2.1 gX4_insert_X4_length rfl rfl rfl (by decide +kernel) ⟨Nat.le_of_ble_eq_true rfl, Nat.le_of_ble_eq_true rfl⟩) (by omega) m1 rfl rfl rfl rfl (Nat.le_of_ble_eq_true rfl) dX4_insert_5 ⟨Nat.le_of_ble_eq_true rfl, Nat.le_of_ble_eq_true rfl⟩) (fun r1 cw2 hp3 => ?_)
  refine z_cw hp3.2 ?_
  refine z_top hp3.1 ?_
  refine z_i2l C dX4_insert_8 rfl ?_
  refine z_calli (z_runS (As := [.long (x.toInt64), .long (0), .long ((nI (hs past).length).toInt64)]) (rest := [.ref (ad (37))]) C (c_M_isIn l D cI cR cL B N ad cw (x.toInt64) (0) ((nI (hs past).length).toInt64)) (va_cwS 3 C.2.2.2.2.1 gX4_insert_X4_isIn rfl rfl rfl (by decide +kernel) ⟨Nat.le_of_ble_eq_true rfl, Nat.le_of_ble_eq_true rfl⟩) rfl rfl (Nat.le_of_ble_eq_true rfl) dX4_insert_9 ⟨Nat.le_of_ble_eq_true rfl, Nat.le_of_ble_eq_true rfl⟩) (fun r4 cw5 hp6 => ?_)
  refine z_cw hp6.2 ?_
  refine z_if_ne (tgt := 19) C dX4_insert_12 (by decide) (fun c7 => ?_) (fun c7 => ?_)
  · skip
    have hin := (z_in0 (x := x) (n := (hs past).length) (by omega)).mp (by rcases hp6.1 with h9 | h9; exact h9.2; exact absurd h9.1 c7)
    refine z_iload_n C dX4_insert_19 2 rfl ?_
    refine z_i2l C dX4_insert_20 rfl ?_
    refine z_lconst (v := 0) C dX4_insert_21 rfl ?_
    refine z_ldc2 (v := 255) C (C.2.2.2.2.1 _ qX4_insert_0) dX4_insert_22 ?_
    refine z_calli (z_runS (As := [.long (ch.toInt64), .long (0), .long (255)]) (rest := [.ref (ad (37))]) C (c_M_isIn l D cI cR cL B N ad cw (ch.toInt64) (0) (255)) (va_cwS 3 C.2.2.2.2.1 gX4_insert_X4_isIn rfl rfl rfl (by decide +kernel) ⟨Nat.le_of_ble_eq_true rfl, Nat.le_of_ble_eq_true rfl⟩) rfl rfl (Nat.le_of_ble_eq_true rfl) dX4_insert_25 ⟨Nat.le_of_ble_eq_true rfl, Nat.le_of_ble_eq_true rfl⟩) (fun r8 cw9 hp10 => ?_)
    refine z_cw hp10.2 ?_
    refine z_if_ne (tgt := 35) C dX4_insert_28 (by decide) (fun c11 => ?_) (fun c11 => ?_)
    · skip
      have hch := (z_in255 (x := ch)).mp (by rcases hp10.1 with h9 | h9; exact h9.2; exact absurd h9.1 c11)
      refine z_aload_n C dX4_insert_35 0 rfl ?_
      refine z_calli (z_runV (As := []) (rest := [.ref (ad (37))]) C (c_M_length l D cI cR cL B N ad cw hN m1 m4 (by omega) (k2)) (cwV 0 C.2.2.2.2.1 gX4_insert_X4_length rfl rfl rfl (by decide +kernel) ⟨Nat.le_of_ble_eq_true rfl, Nat.le_of_ble_eq_true rfl⟩) (by omega) m1 rfl rfl rfl rfl (Nat.le_of_ble_eq_true rfl) dX4_insert_36 ⟨Nat.le_of_ble_eq_true rfl, Nat.le_of_ble_eq_true rfl⟩) (fun r12 cw13 hp14 => ?_)
      refine z_cw hp14.2 ?_
      refine z_top hp14.1 ?_
      refine z_sipush (v := nI 240) C dX4_insert_39 (by decide) ?_
      refine z_icmp_ne (tgt := 49) C dX4_insert_42 (by decide) (fun c15 => ?_) (fun c15 => ?_)
      · skip
        have h240 : (hs past).length + 1 ≤ 240 := by have h9 : ¬ (hs past).length = 240 := fun h8 => c15 (by rw [h8]); omega
        refine z_iconst (v := nI 0) C dX4_insert_49 (by decide) ?_
        obtain ⟨cw16, ecw16⟩ : ∃ z : Nat → va_E, z = va_up (cw) (37) (.inr (4, [.int (nI 0), .ref (ad (38)), .ref (ad (39)), .int (nI (past)), .int (nI (fut)), .ref (ad (40)), .int (dn), .ref (ad (41)), .int (nI (pat.length)), .ref (ad (42)), .int (nI (ws.length)), .ref (ad (43)), .ref (ad (44))])) := ⟨_, rfl⟩
        refine z_put (Cn := RX4) (T := TX4) (NF := 13) (ci := 4) (ty := .int) (v := .int (nI 0)) C qX4_insert_1 tyX4_ok nmX4 rfl 0 (by decide) (C.2.2.2.2.1 _ qX4_insert_2) (fun _ h9 => h9) rfl (by decide +kernel) dX4_insert_50 (37) (by omega) m1 rfl rfl (Nat.le_of_ble_eq_true rfl) ?_
        refine z_cw ecw16.symm ?_
        have hw_17 : cw16 (37) = .inr (4, [.int (nI 0), .ref (ad (38)), .ref (ad (39)), .int (nI (past)), .int (nI (fut)), .ref (ad (40)), .int (dn), .ref (ad (41)), .int (nI (pat.length)), .ref (ad (42)), .int (nI (ws.length)), .ref (ad (43)), .ref (ad (44))]) := by rw [ecw16, va_up_self]
        have hw_18 : cw16 (38) = .inl (cI, 3120, .inl (tf)) := by rw [ecw16, va_up_ne _ _ (by decide)]; exact m3
        have hw_19 : cw16 (39) = .inl (cI, 13, .inl (lf)) := by rw [ecw16, va_up_ne _ _ (by decide)]; exact m4
        have hw_20 : cw16 (40) = .inl (cI, 240, .inl (df)) := by rw [ecw16, va_up_ne _ _ (by decide)]; exact m6
        refine z_aload_n C dX4_insert_53 0 rfl ?_
        refine z_get (Cn := RX4) (T := TX4) (NF := 13) (ci := 4) (v := .int (nI 0)) C qX4_insert_1 rfl 0 (by decide) (C.2.2.2.2.1 _ qX4_insert_2) (fun _ h9 => h9) dX4_insert_54 (37) (by omega) hw_17 rfl ?_
        refine z_if_le (tgt := 62) C dX4_insert_57 (by decide) (fun c21 => ?_) (fun c21 => absurd (show nI 0 ≤ 0 by decide) c21)
        obtain ⟨q, hq, rfl⟩ := hin
        obtain ⟨u, hu, rfl⟩ := hch
        refine z_aload_n C dX4_insert_62 0 rfl ?_
        refine z_iconst (v := nI 0) C dX4_insert_63 (by decide) ?_
        obtain ⟨cw22, ecw22⟩ : ∃ z : Nat → va_E, z = va_up (cw16) (37) (.inr (4, [.int (nI 0), .ref (ad (38)), .ref (ad (39)), .int (nI (past)), .int (nI (fut)), .ref (ad (40)), .int (nI 0), .ref (ad (41)), .int (nI (pat.length)), .ref (ad (42)), .int (nI (ws.length)), .ref (ad (43)), .ref (ad (44))])) := ⟨_, rfl⟩
        refine z_put (Cn := RX4) (T := TX4) (NF := 13) (ci := 4) (ty := .int) (v := .int (nI 0)) C qX4_insert_1 tyX4_ok nmX4 rfl 6 (by decide) (C.2.2.2.2.1 _ qX4_insert_3) (fun _ h9 => h9) rfl (by decide +kernel) dX4_insert_64 (37) (by omega) hw_17 rfl rfl (Nat.le_of_ble_eq_true rfl) ?_
        refine z_cw ecw22.symm ?_
        have hw_23 : cw22 (37) = .inr (4, [.int (nI 0), .ref (ad (38)), .ref (ad (39)), .int (nI (past)), .int (nI (fut)), .ref (ad (40)), .int (nI 0), .ref (ad (41)), .int (nI (pat.length)), .ref (ad (42)), .int (nI (ws.length)), .ref (ad (43)), .ref (ad (44))]) := by rw [ecw22, va_up_self]
        have hw_24 : cw22 (38) = .inl (cI, 3120, .inl (tf)) := by rw [ecw22, va_up_ne _ _ (by decide)]; exact hw_18
        have hw_25 : cw22 (39) = .inl (cI, 13, .inl (lf)) := by rw [ecw22, va_up_ne _ _ (by decide)]; exact hw_19
        have hw_26 : cw22 (40) = .inl (cI, 240, .inl (df)) := by rw [ecw22, va_up_ne _ _ (by decide)]; exact hw_20
        refine z_aload_n C dX4_insert_67 0 rfl ?_
        refine z_iconst (v := nI 0) C dX4_insert_68 (by decide) ?_
        refine z_iload_n C dX4_insert_69 1 rfl ?_
        refine z_callv (z_runV (As := [.int (nI (0)), .int (nI (q))]) (rest := []) C (c_M_draftFrom l D cI cR cL B N ad cw22 hN (dr := ([] : List Int32)) hw_23 hw_24 hw_26 (zIs_nil _) k3 (by omega) (b := 0) (k := q) (Nat.zero_le _) (hq) k1 (by simp only [List.length_nil]; omega)) (cwV 2 C.2.2.2.2.1 gX4_insert_X4_draftFrom rfl rfl rfl (by decide +kernel) ⟨Nat.le_of_ble_eq_true rfl, Nat.le_of_ble_eq_true rfl⟩) (by omega) hw_23 rfl rfl rfl rfl (Nat.le_of_ble_eq_true rfl) dX4_insert_70 ⟨Nat.le_of_ble_eq_true rfl, Nat.le_of_ble_eq_true rfl⟩) (fun cw27 hp28 => ?_)
        obtain ⟨q29a, ⟨df30, q29b, q29c⟩, q29d⟩ := hp28
        have hw_31 : cw27 (37) = .inr (4, [.int (nI 0), .ref (ad (38)), .ref (ad (39)), .int (nI (past)), .int (nI (fut)), .ref (ad (40)), .int (nI (((([] : List Int32) ++ zPart (hs past) 0 q)).length)), .ref (ad (41)), .int (nI (pat.length)), .ref (ad (42)), .int (nI (ws.length)), .ref (ad (43)), .ref (ad (44))]) := q29a
        have hw_32 : cw27 (38) = .inl (cI, 3120, .inl (tf)) := by rw [q29d (38) (by omega)]; exact hw_24
        have hw_33 : cw27 (39) = .inl (cI, 13, .inl (lf)) := by rw [q29d (39) (by omega)]; exact hw_25
        have hw_34 : cw27 (40) = .inl (cI, 240, .inl (df30)) := q29b
        refine z_aload_n C dX4_insert_73 0 rfl ?_
        refine z_iload_n C dX4_insert_74 2 rfl ?_
        have hl1 : (([] : List Int32) ++ zPart (hs past) 0 q).length = q := by rw [List.nil_append, zPart_len hq]; rfl
        refine z_callv (z_runV (As := [.int (nI u)]) (rest := []) C (c_M_draftOne l D cI cR cL B N ad cw27 hN (n := ((([] : List Int32) ++ zPart (hs past) 0 q)).length) hw_31 hw_34 (by omega) (nI u)) (cwV 1 C.2.2.2.2.1 gX4_insert_X4_draftOne rfl rfl rfl (by decide +kernel) ⟨Nat.le_of_ble_eq_true rfl, Nat.le_of_ble_eq_true rfl⟩) (by omega) hw_31 rfl rfl rfl rfl (Nat.le_of_ble_eq_true rfl) dX4_insert_75 ⟨Nat.le_of_ble_eq_true rfl, Nat.le_of_ble_eq_true rfl⟩) (fun cw35 hp36 => ?_)
        have hw_37 : cw35 (37) = .inr (4, [.int (nI 0), .ref (ad (38)), .ref (ad (39)), .int (nI (past)), .int (nI (fut)), .ref (ad (40)), .int (nI (((([] : List Int32) ++ zPart (hs past) 0 q)).length + 1)), .ref (ad (41)), .int (nI (pat.length)), .ref (ad (42)), .int (nI (ws.length)), .ref (ad (43)), .ref (ad (44))]) := by rw [hp36, va_up_self]
        have hw_38 : cw35 (38) = .inl (cI, 3120, .inl (tf)) := by rw [hp36, va_up_ne _ _ (by decide), va_up_ne _ _ (by decide)]; exact hw_32
        have hw_39 : cw35 (39) = .inl (cI, 13, .inl (lf)) := by rw [hp36, va_up_ne _ _ (by decide), va_up_ne _ _ (by decide)]; exact hw_33
        have hw_40 : cw35 (40) = .inl (cI, 240, .inl (upd (df30) (((([] : List Int32) ++ zPart (hs past) 0 q)).length) (nI u))) := by rw [hp36, va_up_ne _ _ (by decide), va_up_self]
        have hv_41 : cw35 37 = .inr (4, [.int (nI 0), .ref (ad (38)), .ref (ad (39)), .int (nI (past)), .int (nI (fut)), .ref (ad (40)), .int (nI (((([] : List Int32) ++ zPart (hs past) 0 q) ++ [nI u]).length)), .ref (ad (41)), .int (nI (pat.length)), .ref (ad (42)), .int (nI (ws.length)), .ref (ad (43)), .ref (ad (44))]) := by rw [hw_37, len_snoc]
        have hz_42 := zIs_add q29c (nI u)
        refine z_aload_n C dX4_insert_78 0 rfl ?_
        refine z_iload_n C dX4_insert_79 1 rfl ?_
        refine z_aload_n C dX4_insert_80 0 rfl ?_
        refine z_calli (z_runV (As := []) (rest := [.int (nI q), .ref (ad (37))]) C (c_M_length l D cI cR cL B N ad cw35 hN hv_41 hw_39 (by omega) (k2)) (cwV 0 C.2.2.2.2.1 gX4_insert_X4_length rfl rfl rfl (by decide +kernel) ⟨Nat.le_of_ble_eq_true rfl, Nat.le_of_ble_eq_true rfl⟩) (by omega) hv_41 rfl rfl rfl rfl (Nat.le_of_ble_eq_true rfl) dX4_insert_81 ⟨Nat.le_of_ble_eq_true rfl, Nat.le_of_ble_eq_true rfl⟩) (fun r43 cw44 hp45 => ?_)
        refine z_cw hp45.2 ?_
        refine z_top hp45.1 ?_
        have hl2 : (([] : List Int32) ++ zPart (hs past) 0 q ++ [nI u]).length = q + 1 := by rw [len_snoc, hl1]
        refine z_callv (z_runV (As := [.int (nI (q)), .int (nI ((hs past).length))]) (rest := []) C (c_M_draftFrom l D cI cR cL B N ad cw35 hN (dr := ((([] : List Int32) ++ zPart (hs past) 0 q) ++ [nI u])) hv_41 hw_38 hw_40 hz_42 k3 (by omega) (b := q) (k := (hs past).length) (hq) (Nat.le_refl _) k1 (by rw [hl2]; omega)) (cwV 2 C.2.2.2.2.1 gX4_insert_X4_draftFrom rfl rfl rfl (by decide +kernel) ⟨Nat.le_of_ble_eq_true rfl, Nat.le_of_ble_eq_true rfl⟩) (by omega) hv_41 rfl rfl rfl rfl (Nat.le_of_ble_eq_true rfl) dX4_insert_84 ⟨Nat.le_of_ble_eq_true rfl, Nat.le_of_ble_eq_true rfl⟩) (fun cw46 hp47 => ?_)
        obtain ⟨q48a, ⟨df49, q48b, q48c⟩, q48d⟩ := hp47
        have hw_50 : cw46 (37) = .inr (4, [.int (nI 0), .ref (ad (38)), .ref (ad (39)), .int (nI (past)), .int (nI (fut)), .ref (ad (40)), .int (nI (((((([] : List Int32) ++ zPart (hs past) 0 q) ++ [nI u]) ++ zPart (hs past) q ((hs past).length))).length)), .ref (ad (41)), .int (nI (pat.length)), .ref (ad (42)), .int (nI (ws.length)), .ref (ad (43)), .ref (ad (44))]) := q48a
        have hw_51 : cw46 (38) = .inl (cI, 3120, .inl (tf)) := by rw [q48d (38) (by omega)]; exact hw_38
        have hw_52 : cw46 (39) = .inl (cI, 13, .inl (lf)) := by rw [q48d (39) (by omega)]; exact hw_39
        have hw_53 : cw46 (40) = .inl (cI, 240, .inl (df49)) := q48b
        refine z_aload_n C dX4_insert_87 0 rfl ?_
        have hM54 : zRM cI ad cw46 past fut hs pat ws (nI 0) (nI (((((([] : List Int32) ++ zPart (hs past) 0 q) ++ [nI u]) ++ zPart (hs past) q ((hs past).length))).length)) := zRM_dr hM hw_50 ⟨_, hw_53⟩ (fun j hj => by rw [q48d j (by omega)]; rw [hp36, va_up_ne _ _ (by omega), va_up_ne _ _ (by omega)]; rw [q29d j (by omega)]; rw [ecw22, va_up_ne _ _ (by omega)]; rw [ecw16, va_up_ne _ _ (by omega)])
        refine z_calli (z_runV (As := []) (rest := []) C (c_M_act l D cI cR cL B N ad cw46 hN hM54 hw_53 q48c (by show (sIns (hs past) q (nI u)).length ≤ 240; rw [sIns_len hq]; omega)) (cwV 0 C.2.2.2.2.1 gX4_insert_X4_act rfl rfl rfl (by decide +kernel) ⟨Nat.le_of_ble_eq_true rfl, Nat.le_of_ble_eq_true rfl⟩) (by omega) hw_50 rfl rfl rfl rfl (Nat.le_of_ble_eq_true rfl) dX4_insert_88 ⟨Nat.le_of_ble_eq_true rfl, Nat.le_of_ble_eq_true rfl⟩) (fun r55 cw56 hp57 => ?_)
        exact z_iret C hr dX4_insert_91 (⟨Or.inr (Or.inr (Or.inr ⟨q, hq, rfl, ⟨u, hu, rfl⟩, h240, hp57.1, hp57.2.1⟩)), fun j hj => (hp57.2.2 j (by omega)).trans (((fun j hj => by rw [q48d j (by omega)]; rw [hp36, va_up_ne _ _ (by omega), va_up_ne _ _ (by omega)]; rw [q29d j (by omega)]; rw [ecw22, va_up_ne _ _ (by omega)]; rw [ecw16, va_up_ne _ _ (by omega)]) : ∀ j, (j ≠ 37 ∧ j ≠ 40) → _ = cw j) j (by omega))⟩) (Nat.le_of_ble_eq_true rfl) (Nat.le_of_ble_eq_true rfl)
      · skip
        have h240 : (hs past).length = 240 := (nI_eq (by omega) (by omega)).mp c15
        refine z_iconst (v := nI 3) C dX4_insert_45 (by decide) ?_
        refine z_goto (tgt := 50) C dX4_insert_46 (by decide) ?_
        obtain ⟨cw58, ecw58⟩ : ∃ z : Nat → va_E, z = va_up (cw) (37) (.inr (4, [.int (nI 3), .ref (ad (38)), .ref (ad (39)), .int (nI (past)), .int (nI (fut)), .ref (ad (40)), .int (dn), .ref (ad (41)), .int (nI (pat.length)), .ref (ad (42)), .int (nI (ws.length)), .ref (ad (43)), .ref (ad (44))])) := ⟨_, rfl⟩
        refine z_put (Cn := RX4) (T := TX4) (NF := 13) (ci := 4) (ty := .int) (v := .int (nI 3)) C qX4_insert_1 tyX4_ok nmX4 rfl 0 (by decide) (C.2.2.2.2.1 _ qX4_insert_2) (fun _ h9 => h9) rfl (by decide +kernel) dX4_insert_50 (37) (by omega) m1 rfl rfl (Nat.le_of_ble_eq_true rfl) ?_
        refine z_cw ecw58.symm ?_
        have hw_59 : cw58 (37) = .inr (4, [.int (nI 3), .ref (ad (38)), .ref (ad (39)), .int (nI (past)), .int (nI (fut)), .ref (ad (40)), .int (dn), .ref (ad (41)), .int (nI (pat.length)), .ref (ad (42)), .int (nI (ws.length)), .ref (ad (43)), .ref (ad (44))]) := by rw [ecw58, va_up_self]
        have hw_60 : cw58 (38) = .inl (cI, 3120, .inl (tf)) := by rw [ecw58, va_up_ne _ _ (by decide)]; exact m3
        have hw_61 : cw58 (39) = .inl (cI, 13, .inl (lf)) := by rw [ecw58, va_up_ne _ _ (by decide)]; exact m4
        have hw_62 : cw58 (40) = .inl (cI, 240, .inl (df)) := by rw [ecw58, va_up_ne _ _ (by decide)]; exact m6
        refine z_aload_n C dX4_insert_53 0 rfl ?_
        refine z_get (Cn := RX4) (T := TX4) (NF := 13) (ci := 4) (v := .int (nI 3)) C qX4_insert_1 rfl 0 (by decide) (C.2.2.2.2.1 _ qX4_insert_2) (fun _ h9 => h9) dX4_insert_54 (37) (by omega) hw_59 rfl ?_
        refine z_if_le (tgt := 62) C dX4_insert_57 (by decide) (fun c63 => ?_) (fun c63 => ?_)
        · skip
          exact absurd c63 (by decide)
        · skip
          refine z_iconst (v := nI 0) C dX4_insert_60 (by decide) ?_
          exact z_iret C hr dX4_insert_61 (⟨Or.inr (Or.inr (Or.inl ⟨zRM_obj hM hw_59 (fun j hj => by rw [ecw58, va_up_ne _ _ (by omega)]), hin, hch, by omega⟩)), fun j hj => ((fun j hj => by rw [ecw58, va_up_ne _ _ (by omega)]) : ∀ j, (j ≠ 37) → _ = cw j) j (by omega)⟩) (Nat.le_of_ble_eq_true rfl) (Nat.le_of_ble_eq_true rfl)
    · skip
      have nhch : ¬ _ := fun h8 => (by rcases hp10.1 with h9 | h9; exact absurd (h9.1.symm.trans c11) (by decide); exact h9.2 ((z_in255 (x := ch)).mpr h8))
      refine z_iconst (v := nI 2) C dX4_insert_31 (by decide) ?_
      refine z_goto (tgt := 50) C dX4_insert_32 (by decide) ?_
      obtain ⟨cw64, ecw64⟩ : ∃ z : Nat → va_E, z = va_up (cw) (37) (.inr (4, [.int (nI 2), .ref (ad (38)), .ref (ad (39)), .int (nI (past)), .int (nI (fut)), .ref (ad (40)), .int (dn), .ref (ad (41)), .int (nI (pat.length)), .ref (ad (42)), .int (nI (ws.length)), .ref (ad (43)), .ref (ad (44))])) := ⟨_, rfl⟩
      refine z_put (Cn := RX4) (T := TX4) (NF := 13) (ci := 4) (ty := .int) (v := .int (nI 2)) C qX4_insert_1 tyX4_ok nmX4 rfl 0 (by decide) (C.2.2.2.2.1 _ qX4_insert_2) (fun _ h9 => h9) rfl (by decide +kernel) dX4_insert_50 (37) (by omega) m1 rfl rfl (Nat.le_of_ble_eq_true rfl) ?_
      refine z_cw ecw64.symm ?_
      have hw_65 : cw64 (37) = .inr (4, [.int (nI 2), .ref (ad (38)), .ref (ad (39)), .int (nI (past)), .int (nI (fut)), .ref (ad (40)), .int (dn), .ref (ad (41)), .int (nI (pat.length)), .ref (ad (42)), .int (nI (ws.length)), .ref (ad (43)), .ref (ad (44))]) := by rw [ecw64, va_up_self]
      have hw_66 : cw64 (38) = .inl (cI, 3120, .inl (tf)) := by rw [ecw64, va_up_ne _ _ (by decide)]; exact m3
      have hw_67 : cw64 (39) = .inl (cI, 13, .inl (lf)) := by rw [ecw64, va_up_ne _ _ (by decide)]; exact m4
      have hw_68 : cw64 (40) = .inl (cI, 240, .inl (df)) := by rw [ecw64, va_up_ne _ _ (by decide)]; exact m6
      refine z_aload_n C dX4_insert_53 0 rfl ?_
      refine z_get (Cn := RX4) (T := TX4) (NF := 13) (ci := 4) (v := .int (nI 2)) C qX4_insert_1 rfl 0 (by decide) (C.2.2.2.2.1 _ qX4_insert_2) (fun _ h9 => h9) dX4_insert_54 (37) (by omega) hw_65 rfl ?_
      refine z_if_le (tgt := 62) C dX4_insert_57 (by decide) (fun c69 => ?_) (fun c69 => ?_)
      · skip
        exact absurd c69 (by decide)
      · skip
        refine z_iconst (v := nI 0) C dX4_insert_60 (by decide) ?_
        exact z_iret C hr dX4_insert_61 (⟨Or.inr (Or.inl ⟨zRM_obj hM hw_65 (fun j hj => by rw [ecw64, va_up_ne _ _ (by omega)]), hin, nhch⟩), fun j hj => ((fun j hj => by rw [ecw64, va_up_ne _ _ (by omega)]) : ∀ j, (j ≠ 37) → _ = cw j) j (by omega)⟩) (Nat.le_of_ble_eq_true rfl) (Nat.le_of_ble_eq_true rfl)
  · skip
    have nhin : ¬ _ := fun h8 => (by rcases hp6.1 with h9 | h9; exact absurd (h9.1.symm.trans c7) (by decide); exact h9.2 ((z_in0 (x := x) (n := (hs past).length) (by omega)).mpr h8))
    refine z_iconst (v := nI 1) C dX4_insert_15 (by decide) ?_
    refine z_goto (tgt := 50) C dX4_insert_16 (by decide) ?_
    obtain ⟨cw70, ecw70⟩ : ∃ z : Nat → va_E, z = va_up (cw) (37) (.inr (4, [.int (nI 1), .ref (ad (38)), .ref (ad (39)), .int (nI (past)), .int (nI (fut)), .ref (ad (40)), .int (dn), .ref (ad (41)), .int (nI (pat.length)), .ref (ad (42)), .int (nI (ws.length)), .ref (ad (43)), .ref (ad (44))])) := ⟨_, rfl⟩
    refine z_put (Cn := RX4) (T := TX4) (NF := 13) (ci := 4) (ty := .int) (v := .int (nI 1)) C qX4_insert_1 tyX4_ok nmX4 rfl 0 (by decide) (C.2.2.2.2.1 _ qX4_insert_2) (fun _ h9 => h9) rfl (by decide +kernel) dX4_insert_50 (37) (by omega) m1 rfl rfl (Nat.le_of_ble_eq_true rfl) ?_
    refine z_cw ecw70.symm ?_
    have hw_71 : cw70 (37) = .inr (4, [.int (nI 1), .ref (ad (38)), .ref (ad (39)), .int (nI (past)), .int (nI (fut)), .ref (ad (40)), .int (dn), .ref (ad (41)), .int (nI (pat.length)), .ref (ad (42)), .int (nI (ws.length)), .ref (ad (43)), .ref (ad (44))]) := by rw [ecw70, va_up_self]
    have hw_72 : cw70 (38) = .inl (cI, 3120, .inl (tf)) := by rw [ecw70, va_up_ne _ _ (by decide)]; exact m3
    have hw_73 : cw70 (39) = .inl (cI, 13, .inl (lf)) := by rw [ecw70, va_up_ne _ _ (by decide)]; exact m4
    have hw_74 : cw70 (40) = .inl (cI, 240, .inl (df)) := by rw [ecw70, va_up_ne _ _ (by decide)]; exact m6
    refine z_aload_n C dX4_insert_53 0 rfl ?_
    refine z_get (Cn := RX4) (T := TX4) (NF := 13) (ci := 4) (v := .int (nI 1)) C qX4_insert_1 rfl 0 (by decide) (C.2.2.2.2.1 _ qX4_insert_2) (fun _ h9 => h9) dX4_insert_54 (37) (by omega) hw_71 rfl ?_
    refine z_if_le (tgt := 62) C dX4_insert_57 (by decide) (fun c75 => ?_) (fun c75 => ?_)
    · skip
      exact absurd c75 (by decide)
    · skip
      refine z_iconst (v := nI 0) C dX4_insert_60 (by decide) ?_
      exact z_iret C hr dX4_insert_61 (⟨Or.inl ⟨zRM_obj hM hw_71 (fun j hj => by rw [ecw70, va_up_ne _ _ (by omega)]), nhin⟩, fun j hj => ((fun j hj => by rw [ecw70, va_up_ne _ _ (by omega)]) : ∀ j, (j ≠ 37) → _ = cw j) j (by omega)⟩) (Nat.le_of_ble_eq_true rfl) (Nat.le_of_ble_eq_true rfl)

