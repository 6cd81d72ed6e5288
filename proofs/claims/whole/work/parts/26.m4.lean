theorem z_addle {q k n : Nat} (hq : q < 2 ^ 31) (hk : k < 2 ^ 31) (hn : n < 2 ^ 31) : ((nI q).toInt64 + (nI k).toInt64 ≤ (nI n).toInt64) ↔ q + k ≤ n := by
  rw [nI_l hq, nI_l hk, nI_l hn, lN_add, pk_lLE (by omega) (by omega)]
theorem zRM_move {cI : ClassId} {ad : Nat → Nat} {cw cw' : Nat → va_E} {past fut past' fut' : Nat} {hs : Nat → List Int32} {pat ws : List Int32} {th dn th' dn' : Int32} (h : zRM cI ad cw past fut hs pat ws th dn) (h1 : cw' 37 = .inr (4, [.int (th'), .ref (ad (38)), .ref (ad (39)), .int (nI (past')), .int (nI (fut')), .ref (ad (40)), .int (dn'), .ref (ad (41)), .int (nI (pat.length)), .ref (ad (42)), .int (nI (ws.length)), .ref (ad (43)), .ref (ad (44))])) (hp : past' + fut' = past + fut) (hk : ∀ j, (j ≠ 37) → cw' j = cw j) : zRM cI ad cw' past' fut' hs pat ws th' dn' := by
  obtain ⟨m1, ⟨m2, tf, lf, m3, m4, m5⟩, ⟨df, m6⟩, ⟨m7, pf, m8, m9⟩, ⟨m10, wf, m11, m12⟩, ⟨bf, m13⟩, zf, m14⟩ := h
  exact ⟨h1, ⟨by omega, tf, lf, (hk _ (by omega)).trans m3, (hk _ (by omega)).trans m4, fun j hj => m5 j (by omega)⟩, ⟨df, (hk _ (by omega)).trans m6⟩, ⟨m7, pf, (hk _ (by omega)).trans m8, m9⟩, ⟨m10, wf, (hk _ (by omega)).trans m11, m12⟩, ⟨bf, (hk _ (by omega)).trans m13⟩, zf, (hk _ (by omega)).trans m14⟩
theorem zRM_pw {cI : ClassId} {ad : Nat → Nat} {cw cw' : Nat → va_E} {past fut : Nat} {hs : Nat → List Int32} {pat ws pat' ws' : List Int32} {th dn th' dn' : Int32} (h : zRM cI ad cw past fut hs pat ws th dn) (h1 : cw' 37 = .inr (4, [.int (th'), .ref (ad (38)), .ref (ad (39)), .int (nI (past)), .int (nI (fut)), .ref (ad (40)), .int (dn'), .ref (ad (41)), .int (nI (pat'.length)), .ref (ad (42)), .int (nI (ws'.length)), .ref (ad (43)), .ref (ad (44))])) (hp : pat'.length ≤ 16 ∧ ∃ pf, cw' 41 = .inl (cI, 16, .inl (pf)) ∧ zIs pf pat') (hw : ws'.length ≤ 240 ∧ ∃ wf, cw' 42 = .inl (cI, 240, .inl (wf)) ∧ zIs wf ws') (hk : ∀ j, (j ≠ 37 ∧ j ≠ 41 ∧ j ≠ 42) → cw' j = cw j) : zRM cI ad cw' past fut hs pat' ws' th' dn' := by
  obtain ⟨m1, ⟨m2, tf, lf, m3, m4, m5⟩, ⟨df, m6⟩, ⟨m7, pf, m8, m9⟩, ⟨m10, wf, m11, m12⟩, ⟨bf, m13⟩, zf, m14⟩ := h
  exact ⟨h1, ⟨by omega, tf, lf, (hk _ (by omega)).trans m3, (hk _ (by omega)).trans m4, m5⟩, ⟨df, (hk _ (by omega)).trans m6⟩, hp, hw, ⟨bf, (hk _ (by omega)).trans m13⟩, zf, (hk _ (by omega)).trans m14⟩
theorem qX4_delete_0 : ∀ w ∈ wsX40, w ∈ wsX4_delete := by decide +kernel
theorem qX4_delete_1 : Cond.fieldLink RX4 31 "PieceTextModel" "thrown" "I" ∈ wsX4_delete := by decide +kernel
theorem qX4_delete_2 : Cond.fieldLink RX4 38 "PieceTextModel" "drafted" "I" ∈ wsX4_delete := by decide +kernel
set_option maxHeartbeats 4000000 in
set_option maxRecDepth 100000 in
theorem c_M_delete (l : Launch) (D : va_G) (cI cR cL : ClassId) (B N : Nat) (ad : Nat → Nat) (cw : Nat → va_E) (hN : 45 < N) {past fut : Nat} {hs : Nat → List Int32} {pat ws : List Int32} {th dn : Int32} (hM : zRM cI ad cw past fut hs pat ws th dn) (x y : Int32) : Met l yX4_delete wsX4_delete ({ frames := 2, cells := 0, slots := 0, locals := 44 } : Room) (va_Pc [.ref (ad (37)), .int (x), .int (y)] (zI D vwCl (zTy cI cR cL) B N ad cw)) (zQi D vwCl B N ad (fun (v : Int32) (cw' : Nat → va_E) => ((zRM cI ad cw' past fut hs pat ws (nI 1) dn ∧ ¬ (∃ q, q ≤ (hs past).length ∧ x = nI q)) ∨ (zRM cI ad cw' past fut hs pat ws (nI 2) dn ∧ ∃ q, q ≤ (hs past).length ∧ x = nI q ∧ ¬ (∃ k, k ≤ (hs past).length - q ∧ y = nI k)) ∨ (∃ q k, q + k ≤ (hs past).length ∧ x = nI q ∧ y = nI k ∧ v = nI (sDel (hs past) q k).length ∧ zRM cI ad cw' (aPast past) 0 (aHs past hs (sDel (hs past) q k)) pat ws (nI 0) (nI (sDel (hs past) q k).length))) ∧ ∀ j, (j < 37 ∨ 45 ≤ j) → cw' j = cw j)) 0 0 (zA B) := by
  obtain ⟨m1, ⟨m2, tf, lf, m3, m4, m5⟩, ⟨df, m6⟩, ⟨m7, pf, m8, m9⟩, ⟨m10, wf, m11, m12⟩, ⟨bf, m13⟩, zf, m14⟩ := id hM
  obtain ⟨k1, k2, k3⟩ := m5 past (by omega)
  refine z_ofW (cc := cX4_delete) (maxL := 3) (ret := (some .int)) (by decide) rfl (Nat.le_of_ble_eq_true rfl) ?_
  intro p e s m args below meth c C hr hnm
  refine z_lv (lv' := [(0, .ref (ad (37))), (1, .int (x)), (2, .int (y))]) [0, 1, 2] rfl ?_
  refine z_aload_n C dX4_delete_0 0 rfl ?_
  refine z_iload_n C dX4_delete_1 1 rfl ?_
  refine z_i2l C dX4_delete_2 rfl ?_
  refine z_lconst (v := 0) C dX4_delete_3 rfl ?_
  refine z_aload_n C dX4_delete_4 0 rfl ?_
  refine z_calli (z_runV (As := []) (rest := [.long (0), .long (x).toInt64, .ref (ad (37))]) C (c_M_length l D cI cR cL B N ad cw hN m1 m4 (by omega) (k2)) (cwV 0 C.2.2.2.2.1 gX4_delete_X4_length rfl rfl rfl (by decide +kernel) ⟨Nat.le_of_ble_eq_true rfl, Nat.le_of_ble_eq_true rfl⟩) (by omega) m1 rfl rfl rfl rfl (Nat.le_of_ble_eq_true rfl) dX4_delete_5 ⟨Nat.le_of_ble_eq_true rfl, Nat.le_of_ble_eq_true rfl⟩) (fun r1 cw2 hp3 => ?_)
  refine z_cw hp3.2 ?_
  refine z_top hp3.1 ?_
  refine z_i2l C dX4_delete_8 rfl ?_
  refine z_calli (z_runS (As := [.long (x.toInt64), .long (0), .long ((nI (hs past).length).toInt64)]) (rest := [.ref (ad (37))]) C (c_M_isIn l D cI cR cL B N ad cw (x.toInt64) (0) ((nI (hs past).length).toInt64)) (va_cwS 3 C.2.2.2.2.1 gX4_delete_X4_isIn rfl rfl rfl (by decide +kernel) ⟨Nat.le_of_ble_eq_true rfl, Nat.le_of_ble_eq_true rfl⟩) rfl rfl (Nat.le_of_ble_eq_true rfl) dX4_delete_9 ⟨Nat.le_of_ble_eq_true rfl, Nat.le_of_ble_eq_true rfl⟩) (fun r4 cw5 hp6 => ?_)
  refine z_cw hp6.2 ?_
  refine z_if_ne (tgt := 19) C dX4_delete_12 (by decide) (fun c7 => ?_) (fun c7 => ?_)
  · skip
    have hin := (z_in0 (x := x) (n := (hs past).length) (by omega)).mp (by rcases hp6.1 with h9 | h9; exact h9.2; exact absurd h9.1 c7)
    obtain ⟨q, hq, rfl⟩ := hin
    refine z_iload_n C dX4_delete_19 2 rfl ?_
    refine z_if_lt (tgt := 37) C dX4_delete_20 (by decide) (fun c8 => ?_) (fun c8 => ?_)
    · skip
      have npt : ¬ (∃ k, k ≤ (hs past).length - q ∧ y = nI k) := fun ⟨k, h1, h2⟩ => by rw [h2] at c8; exact nI_pos (by omega) c8
      refine z_iconst (v := nI 2) C dX4_delete_37 (by decide) ?_
      refine z_goto (tgt := 42) C dX4_delete_38 (by decide) ?_
      obtain ⟨cw9, ecw9⟩ : ∃ z : Nat → va_E, z = va_up (cw) (37) (.inr (4, [.int (nI 2), .ref (ad (38)), .ref (ad (39)), .int (nI (past)), .int (nI (fut)), .ref (ad (40)), .int (dn), .ref (ad (41)), .int (nI (pat.length)), .ref (ad (42)), .int (nI (ws.length)), .ref (ad (43)), .ref (ad (44))])) := ⟨_, rfl⟩
      refine z_put (Cn := RX4) (T := TX4) (NF := 13) (ci := 4) (ty := .int) (v := .int (nI 2)) C qX4_delete_0 tyX4_ok nmX4 rfl 0 (by decide) (C.2.2.2.2.1 _ qX4_delete_1) (fun _ h9 => h9) rfl (by decide +kernel) dX4_delete_42 (37) (by omega) m1 rfl rfl (Nat.le_of_ble_eq_true rfl) ?_
      refine z_cw ecw9.symm ?_
      have hw_10 : cw9 (37) = .inr (4, [.int (nI 2), .ref (ad (38)), .ref (ad (39)), .int (nI (past)), .int (nI (fut)), .ref (ad (40)), .int (dn), .ref (ad (41)), .int (nI (pat.length)), .ref (ad (42)), .int (nI (ws.length)), .ref (ad (43)), .ref (ad (44))]) := by rw [ecw9, va_up_self]
      have hw_11 : cw9 (38) = .inl (cI, 3120, .inl (tf)) := by rw [ecw9, va_up_ne _ _ (by decide)]; exact m3
      have hw_12 : cw9 (39) = .inl (cI, 13, .inl (lf)) := by rw [ecw9, va_up_ne _ _ (by decide)]; exact m4
      have hw_13 : cw9 (40) = .inl (cI, 240, .inl (df)) := by rw [ecw9, va_up_ne _ _ (by decide)]; exact m6
      refine z_aload_n C dX4_delete_45 0 rfl ?_
      refine z_get (Cn := RX4) (T := TX4) (NF := 13) (ci := 4) (v := .int (nI 2)) C qX4_delete_0 rfl 0 (by decide) (C.2.2.2.2.1 _ qX4_delete_1) (fun _ h9 => h9) dX4_delete_46 (37) (by omega) hw_10 rfl ?_
      refine z_if_le (tgt := 54) C dX4_delete_49 (by decide) (fun c14 => ?_) (fun c14 => ?_)
      · skip
        exact absurd c14 (by decide)
      · skip
        refine z_iconst (v := nI 0) C dX4_delete_52 (by decide) ?_
        exact z_iret C hr dX4_delete_53 (⟨Or.inr (Or.inl ⟨zRM_obj hM hw_10 (fun j hj => by rw [ecw9, va_up_ne _ _ (by omega)]), q, hq, rfl, npt⟩), fun j hj => ((fun j hj => by rw [ecw9, va_up_ne _ _ (by omega)]) : ∀ j, (j ≠ 37) → _ = cw j) j (by omega)⟩) (Nat.le_of_ble_eq_true rfl) (Nat.le_of_ble_eq_true rfl)
    · skip
      obtain ⟨k, hk, rfl⟩ := nI_of c8
      refine z_iload_n C dX4_delete_23 1 rfl ?_
      refine z_i2l C dX4_delete_24 rfl ?_
      refine z_iload_n C dX4_delete_25 2 rfl ?_
      refine z_i2l C dX4_delete_26 rfl ?_
      refine z_ladd C dX4_delete_27 ?_
      refine z_aload_n C dX4_delete_28 0 rfl ?_
      refine z_calli (z_runV (As := []) (rest := [.long ((nI q).toInt64 + (nI k).toInt64), .ref (ad (37))]) C (c_M_length l D cI cR cL B N ad cw hN m1 m4 (by omega) (k2)) (cwV 0 C.2.2.2.2.1 gX4_delete_X4_length rfl rfl rfl (by decide +kernel) ⟨Nat.le_of_ble_eq_true rfl, Nat.le_of_ble_eq_true rfl⟩) (by omega) m1 rfl rfl rfl rfl (Nat.le_of_ble_eq_true rfl) dX4_delete_29 ⟨Nat.le_of_ble_eq_true rfl, Nat.le_of_ble_eq_true rfl⟩) (fun r15 cw16 hp17 => ?_)
      refine z_cw hp17.2 ?_
      refine z_top hp17.1 ?_
      refine z_i2l C dX4_delete_32 rfl ?_
      refine z_lcmp C dX4_delete_33 ?_
      refine z_if_le (tgt := 41) C dX4_delete_34 (by decide) (fun c18 => ?_) (fun c18 => ?_)
      · skip
        have hqk : q + k ≤ (hs past).length := (z_addle (by omega) hk (by omega)).mp ((lg_cmp_le _ _).mp c18)
        refine z_iconst (v := nI 0) C dX4_delete_41 (by decide) ?_
        obtain ⟨cw19, ecw19⟩ : ∃ z : Nat → va_E, z = va_up (cw) (37) (.inr (4, [.int (nI 0), .ref (ad (38)), .ref (ad (39)), .int (nI (past)), .int (nI (fut)), .ref (ad (40)), .int (dn), .ref (ad (41)), .int (nI (pat.length)), .ref (ad (42)), .int (nI (ws.length)), .ref (ad (43)), .ref (ad (44))])) := ⟨_, rfl⟩
        refine z_put (Cn := RX4) (T := TX4) (NF := 13) (ci := 4) (ty := .int) (v := .int (nI 0)) C qX4_delete_0 tyX4_ok nmX4 rfl 0 (by decide) (C.2.2.2.2.1 _ qX4_delete_1) (fun _ h9 => h9) rfl (by decide +kernel) dX4_delete_42 (37) (by omega) m1 rfl rfl (Nat.le_of_ble_eq_true rfl) ?_
        refine z_cw ecw19.symm ?_
        have hw_20 : cw19 (37) = .inr (4, [.int (nI 0), .ref (ad (38)), .ref (ad (39)), .int (nI (past)), .int (nI (fut)), .ref (ad (40)), .int (dn), .ref (ad (41)), .int (nI (pat.length)), .ref (ad (42)), .int (nI (ws.length)), .ref (ad (43)), .ref (ad (44))]) := by rw [ecw19, va_up_self]
        have hw_21 : cw19 (38) = .inl (cI, 3120, .inl (tf)) := by rw [ecw19, va_up_ne _ _ (by decide)]; exact m3
        have hw_22 : cw19 (39) = .inl (cI, 13, .inl (lf)) := by rw [ecw19, va_up_ne _ _ (by decide)]; exact m4
        have hw_23 : cw19 (40) = .inl (cI, 240, .inl (df)) := by rw [ecw19, va_up_ne _ _ (by decide)]; exact m6
        refine z_aload_n C dX4_delete_45 0 rfl ?_
        refine z_get (Cn := RX4) (T := TX4) (NF := 13) (ci := 4) (v := .int (nI 0)) C qX4_delete_0 rfl 0 (by decide) (C.2.2.2.2.1 _ qX4_delete_1) (fun _ h9 => h9) dX4_delete_46 (37) (by omega) hw_20 rfl ?_
        refine z_if_le (tgt := 54) C dX4_delete_49 (by decide) (fun c24 => ?_) (fun c24 => absurd (show nI 0 ≤ 0 by decide) c24)
        refine z_aload_n C dX4_delete_54 0 rfl ?_
        refine z_iconst (v := nI 0) C dX4_delete_55 (by decide) ?_
        obtain ⟨cw25, ecw25⟩ : ∃ z : Nat → va_E, z = va_up (cw19) (37) (.inr (4, [.int (nI 0), .ref (ad (38)), .ref (ad (39)), .int (nI (past)), .int (nI (fut)), .ref (ad (40)), .int (nI 0), .ref (ad (41)), .int (nI (pat.length)), .ref (ad (42)), .int (nI (ws.length)), .ref (ad (43)), .ref (ad (44))])) := ⟨_, rfl⟩
        refine z_put (Cn := RX4) (T := TX4) (NF := 13) (ci := 4) (ty := .int) (v := .int (nI 0)) C qX4_delete_0 tyX4_ok nmX4 rfl 6 (by decide) (C.2.2.2.2.1 _ qX4_delete_2) (fun _ h9 => h9) rfl (by decide +kernel) dX4_delete_56 (37) (by omega) hw_20 rfl rfl (Nat.le_of_ble_eq_true rfl) ?_
        refine z_cw ecw25.symm ?_
        have hw_26 : cw25 (37) = .inr (4, [.int (nI 0), .ref (ad (38)), .ref (ad (39)), .int (nI (past)), .int (nI (fut)), .ref (ad (40)), .int (nI 0), .ref (ad (41)), .int (nI (pat.length)), .ref (ad (42)), .int (nI (ws.length)), .ref (ad (43)), .ref (ad (44))]) := by rw [ecw25, va_up_self]
        have hw_27 : cw25 (38) = .inl (cI, 3120, .inl (tf)) := by rw [ecw25, va_up_ne _ _ (by decide)]; exact hw_21
        have hw_28 : cw25 (39) = .inl (cI, 13, .inl (lf)) := by rw [ecw25, va_up_ne _ _ (by decide)]; exact hw_22
        have hw_29 : cw25 (40) = .inl (cI, 240, .inl (df)) := by rw [ecw25, va_up_ne _ _ (by decide)]; exact hw_23
        refine z_aload_n C dX4_delete_59 0 rfl ?_
        refine z_iconst (v := nI 0) C dX4_delete_60 (by decide) ?_
        refine z_iload_n C dX4_delete_61 1 rfl ?_
        refine z_callv (z_runV (As := [.int (nI (0)), .int (nI (q))]) (rest := []) C (c_M_draftFrom l D cI cR cL B N ad cw25 hN (dr := ([] : List Int32)) hw_26 hw_27 hw_29 (zIs_nil _) k3 (by omega) (b := 0) (k := q) (Nat.zero_le _) (hq) k1 (by simp only [List.length_nil]; omega)) (cwV 2 C.2.2.2.2.1 gX4_delete_X4_draftFrom rfl rfl rfl (by decide +kernel) ⟨Nat.le_of_ble_eq_true rfl, Nat.le_of_ble_eq_true rfl⟩) (by omega) hw_26 rfl rfl rfl rfl (Nat.le_of_ble_eq_true rfl) dX4_delete_62 ⟨Nat.le_of_ble_eq_true rfl, Nat.le_of_ble_eq_true rfl⟩) (fun cw30 hp31 => ?_)
        obtain ⟨q32a, ⟨df33, q32b, q32c⟩, q32d⟩ := hp31
        have hw_34 : cw30 (37) = .inr (4, [.int (nI 0), .ref (ad (38)), .ref (ad (39)), .int (nI (past)), .int (nI (fut)), .ref (ad (40)), .int (nI (((([] : List Int32) ++ zPart (hs past) 0 q)).length)), .ref (ad (41)), .int (nI (pat.length)), .ref (ad (42)), .int (nI (ws.length)), .ref (ad (43)), .ref (ad (44))]) := q32a
        have hw_35 : cw30 (38) = .inl (cI, 3120, .inl (tf)) := by rw [q32d (38) (by omega)]; exact hw_27
        have hw_36 : cw30 (39) = .inl (cI, 13, .inl (lf)) := by rw [q32d (39) (by omega)]; exact hw_28
        have hw_37 : cw30 (40) = .inl (cI, 240, .inl (df33)) := q32b
        refine z_aload_n C dX4_delete_65 0 rfl ?_
        refine z_iload_n C dX4_delete_66 1 rfl ?_
        refine z_iload_n C dX4_delete_67 2 rfl ?_
        refine z_iadd C dX4_delete_68 ?_
        refine z_top (y := nI (q + k)) (nI_add _ _) ?_
        refine z_aload_n C dX4_delete_69 0 rfl ?_
        refine z_calli (z_runV (As := []) (rest := [.int (nI (q + k)), .ref (ad (37))]) C (c_M_length l D cI cR cL B N ad cw30 hN hw_34 hw_36 (by omega) (k2)) (cwV 0 C.2.2.2.2.1 gX4_delete_X4_length rfl rfl rfl (by decide +kernel) ⟨Nat.le_of_ble_eq_true rfl, Nat.le_of_ble_eq_true rfl⟩) (by omega) hw_34 rfl rfl rfl rfl (Nat.le_of_ble_eq_true rfl) dX4_delete_70 ⟨Nat.le_of_ble_eq_true rfl, Nat.le_of_ble_eq_true rfl⟩) (fun r38 cw39 hp40 => ?_)
        refine z_cw hp40.2 ?_
        refine z_top hp40.1 ?_
        have hl1 : (([] : List Int32) ++ zPart (hs past) 0 q).length = q := by rw [List.nil_append, zPart_len hq]; rfl
        refine z_callv (z_runV (As := [.int (nI (q + k)), .int (nI ((hs past).length))]) (rest := []) C (c_M_draftFrom l D cI cR cL B N ad cw30 hN (dr := (([] : List Int32) ++ zPart (hs past) 0 q)) hw_34 hw_35 hw_37 q32c k3 (by omega) (b := q + k) (k := (hs past).length) (hqk) (Nat.le_refl _) k1 (by rw [hl1]; omega)) (cwV 2 C.2.2.2.2.1 gX4_delete_X4_draftFrom rfl rfl rfl (by decide +kernel) ⟨Nat.le_of_ble_eq_true rfl, Nat.le_of_ble_eq_true rfl⟩) (by omega) hw_34 rfl rfl rfl rfl (Nat.le_of_ble_eq_true rfl) dX4_delete_73 ⟨Nat.le_of_ble_eq_true rfl, Nat.le_of_ble_eq_true rfl⟩) (fun cw41 hp42 => ?_)
        obtain ⟨q43a, ⟨df44, q43b, q43c⟩, q43d⟩ := hp42
        have hw_45 : cw41 (37) = .inr (4, [.int (nI 0), .ref (ad (38)), .ref (ad (39)), .int (nI (past)), .int (nI (fut)), .ref (ad (40)), .int (nI ((((([] : List Int32) ++ zPart (hs past) 0 q) ++ zPart (hs past) (q + k) ((hs past).length))).length)), .ref (ad (41)), .int (nI (pat.length)), .ref (ad (42)), .int (nI (ws.length)), .ref (ad (43)), .ref (ad (44))]) := q43a
        have hw_46 : cw41 (38) = .inl (cI, 3120, .inl (tf)) := by rw [q43d (38) (by omega)]; exact hw_35
        have hw_47 : cw41 (39) = .inl (cI, 13, .inl (lf)) := by rw [q43d (39) (by omega)]; exact hw_36
        have hw_48 : cw41 (40) = .inl (cI, 240, .inl (df44)) := q43b
        refine z_aload_n C dX4_delete_76 0 rfl ?_
        have hM49 : zRM cI ad cw41 past fut hs pat ws (nI 0) (nI ((((([] : List Int32) ++ zPart (hs past) 0 q) ++ zPart (hs past) (q + k) ((hs past).length))).length)) := zRM_dr hM hw_45 ⟨_, hw_48⟩ (fun j hj => by rw [q43d j (by omega)]; rw [q32d j (by omega)]; rw [ecw25, va_up_ne _ _ (by omega)]; rw [ecw19, va_up_ne _ _ (by omega)])
        refine z_calli (z_runV (As := []) (rest := []) C (c_M_act l D cI cR cL B N ad cw41 hN hM49 hw_48 q43c (by show (sDel (hs past) q k).length ≤ 240; rw [sDel_len hq]; omega)) (cwV 0 C.2.2.2.2.1 gX4_delete_X4_act rfl rfl rfl (by decide +kernel) ⟨Nat.le_of_ble_eq_true rfl, Nat.le_of_ble_eq_true rfl⟩) (by omega) hw_45 rfl rfl rfl rfl (Nat.le_of_ble_eq_true rfl) dX4_delete_77 ⟨Nat.le_of_ble_eq_true rfl, Nat.le_of_ble_eq_true rfl⟩) (fun r50 cw51 hp52 => ?_)
        exact z_iret C hr dX4_delete_80 (⟨Or.inr (Or.inr ⟨q, k, hqk, rfl, rfl, hp52.1, hp52.2.1⟩), fun j hj => (hp52.2.2 j (by omega)).trans (((fun j hj => by rw [q43d j (by omega)]; rw [q32d j (by omega)]; rw [ecw25, va_up_ne _ _ (by omega)]; rw [ecw19, va_up_ne _ _ (by omega)]) : ∀ j, (j ≠ 37 ∧ j ≠ 40) → _ = cw j) j (by omega))⟩) (Nat.le_of_ble_eq_true rfl) (Nat.le_of_ble_eq_true rfl)
      · skip
        have npt : ¬ (∃ k', k' ≤ (hs past).length - q ∧ nI k = nI k') := fun ⟨k', h1, h2⟩ => c18 ((lg_cmp_le _ _).mpr ((z_addle (by omega) hk (by omega)).mpr (by have h9 := (nI_eq hk (by omega)).mp h2; omega)))
        refine z_iconst (v := nI 2) C dX4_delete_37 (by decide) ?_
        refine z_goto (tgt := 42) C dX4_delete_38 (by decide) ?_
        obtain ⟨cw53, ecw53⟩ : ∃ z : Nat → va_E, z = va_up (cw) (37) (.inr (4, [.int (nI 2), .ref (ad (38)), .ref (ad (39)), .int (nI (past)), .int (nI (fut)), .ref (ad (40)), .int (dn), .ref (ad (41)), .int (nI (pat.length)), .ref (ad (42)), .int (nI (ws.length)), .ref (ad (43)), .ref (ad (44))])) := ⟨_, rfl⟩
        refine z_put (Cn := RX4) (T := TX4) (NF := 13) (ci := 4) (ty := .int) (v := .int (nI 2)) C qX4_delete_0 tyX4_ok nmX4 rfl 0 (by decide) (C.2.2.2.2.1 _ qX4_delete_1) (fun _ h9 => h9) rfl (by decide +kernel) dX4_delete_42 (37) (by omega) m1 rfl rfl (Nat.le_of_ble_eq_true rfl) ?_
        refine z_cw ecw53.symm ?_
        have hw_54 : cw53 (37) = .inr (4, [.int (nI 2), .ref (ad (38)), .ref (ad (39)), .int (nI (past)), .int (nI (fut)), .ref (ad (40)), .int (dn), .ref (ad (41)), .int (nI (pat.length)), .ref (ad (42)), .int (nI (ws.length)), .ref (ad (43)), .ref (ad (44))]) := by rw [ecw53, va_up_self]
        have hw_55 : cw53 (38) = .inl (cI, 3120, .inl (tf)) := by rw [ecw53, va_up_ne _ _ (by decide)]; exact m3
        have hw_56 : cw53 (39) = .inl (cI, 13, .inl (lf)) := by rw [ecw53, va_up_ne _ _ (by decide)]; exact m4
        have hw_57 : cw53 (40) = .inl (cI, 240, .inl (df)) := by rw [ecw53, va_up_ne _ _ (by decide)]; exact m6
        refine z_aload_n C dX4_delete_45 0 rfl ?_
        refine z_get (Cn := RX4) (T := TX4) (NF := 13) (ci := 4) (v := .int (nI 2)) C qX4_delete_0 rfl 0 (by decide) (C.2.2.2.2.1 _ qX4_delete_1) (fun _ h9 => h9) dX4_delete_46 (37) (by omega) hw_54 rfl ?_
        refine z_if_le (tgt := 54) C dX4_delete_49 (by decide) (fun c58 => ?_) (fun c58 => ?_)
        · skip
          exact absurd c58 (by decide)
        · skip
          refine z_iconst (v := nI 0) C dX4_delete_52 (by decide) ?_
          exact z_iret C hr dX4_delete_53 (⟨Or.inr (Or.inl ⟨zRM_obj hM hw_54 (fun j hj => by rw [ecw53, va_up_ne _ _ (by omega)]), q, hq, rfl, npt⟩), fun j hj => ((fun j hj => by rw [ecw53, va_up_ne _ _ (by omega)]) : ∀ j, (j ≠ 37) → _ = cw j) j (by omega)⟩) (Nat.le_of_ble_eq_true rfl) (Nat.le_of_ble_eq_true rfl)
  · skip
    have nhin : ¬ _ := fun h8 => (by rcases hp6.1 with h9 | h9; exact absurd (h9.1.symm.trans c7) (by decide); exact h9.2 ((z_in0 (x := x) (n := (hs past).length) (by omega)).mpr h8))
    refine z_iconst (v := nI 1) C dX4_delete_15 (by decide) ?_
    refine z_goto (tgt := 42) C dX4_delete_16 (by decide) ?_
    obtain ⟨cw59, ecw59⟩ : ∃ z : Nat → va_E, z = va_up (cw) (37) (.inr (4, [.int (nI 1), .ref (ad (38)), .ref (ad (39)), .int (nI (past)), .int (nI (fut)), .ref (ad (40)), .int (dn), .ref (ad (41)), .int (nI (pat.length)), .ref (ad (42)), .int (nI (ws.length)), .ref (ad (43)), .ref (ad (44))])) := ⟨_, rfl⟩
    refine z_put (Cn := RX4) (T := TX4) (NF := 13) (ci := 4) (ty := .int) (v := .int (nI 1)) C qX4_delete_0 tyX4_ok nmX4 rfl 0 (by decide) (C.2.2.2.2.1 _ qX4_delete_1) (fun _ h9 => h9) rfl (by decide +kernel) dX4_delete_42 (37) (by omega) m1 rfl rfl (Nat.le_of_ble_eq_true rfl) ?_
    refine z_cw ecw59.symm ?_
    have hw_60 : cw59 (37) = .inr (4, [.int (nI 1), .ref (ad (38)), .ref (ad (39)), .int (nI (past)), .int (nI (fut)), .ref (ad (40)), .int (dn), .ref (ad (41)), .int (nI (pat.length)), .ref (ad (42)), .int (nI (ws.length)), .ref (ad (43)), .ref (ad (44))]) := by rw [ecw59, va_up_self]
    have hw_61 : cw59 (38) = .inl (cI, 3120, .inl (tf)) := by rw [ecw59, va_up_ne _ _ (by decide)]; exact m3
    have hw_62 : cw59 (39) = .inl (cI, 13, .inl (lf)) := by rw [ecw59, va_up_ne _ _ (by decide)]; exact m4
    have hw_63 : cw59 (40) = .inl (cI, 240, .inl (df)) := by rw [ecw59, va_up_ne _ _ (by decide)]; exact m6
    refine z_aload_n C dX4_delete_45 0 rfl ?_
    refine z_get (Cn := RX4) (T := TX4) (NF := 13) (ci := 4) (v := .int (nI 1)) C qX4_delete_0 rfl 0 (by decide) (C.2.2.2.2.1 _ qX4_delete_1) (fun _ h9 => h9) dX4_delete_46 (37) (by omega) hw_60 rfl ?_
    refine z_if_le (tgt := 54) C dX4_delete_49 (by decide) (fun c64 => ?_) (fun c64 => ?_)
    · skip
      exact absurd c64 (by decide)
    · skip
      refine z_iconst (v := nI 0) C dX4_delete_52 (by decide) ?_
      exact z_iret C hr dX4_delete_53 (⟨Or.inl ⟨zRM_obj hM hw_60 (fun j hj => by rw [ecw59, va_up_ne _ _ (by omega)]), nhin⟩, fun j hj => ((fun j hj => by rw [ecw59, va_up_ne _ _ (by omega)]) : ∀ j, (j ≠ 37) → _ = cw j) j (by omega)⟩) (Nat.le_of_ble_eq_true rfl) (Nat.le_of_ble_eq_true rfl)

theorem qX4_copy_0 : ∀ w ∈ wsX40, w ∈ wsX4_copy := by decide +kernel
theorem qX4_copy_1 : Cond.fieldLink RX4 31 "PieceTextModel" "thrown" "I" ∈ wsX4_copy := by decide +kernel
theorem qX4_copy_2 : Cond.fieldLink RX4 38 "PieceTextModel" "drafted" "I" ∈ wsX4_copy := by decide +kernel
set_option maxHeartbeats 4000000 in
set_option maxRecDepth 100000 in
theorem c_M_copy (l : Launch) (D : va_G) (cI cR cL : ClassId) (B N : Nat) (ad : Nat → Nat) (cw : Nat → va_E) (hN : 45 < N) {past fut : Nat} {hs : Nat → List Int32} {pat ws : List Int32} {th dn : Int32} (hM : zRM cI ad cw past fut hs pat ws th dn) (x y z : Int32) : Met l yX4_copy wsX4_copy ({ frames := 2, cells := 0, slots := 0, locals := 44 } : Room) (va_Pc [.ref (ad (37)), .int (x), .int (y), .int (z)] (zI D vwCl (zTy cI cR cL) B N ad cw)) (zQi D vwCl B N ad (fun (v : Int32) (cw' : Nat → va_E) => ((zRM cI ad cw' past fut hs pat ws (nI 1) dn ∧ ¬ ((∃ q, q ≤ (hs past).length ∧ x = nI q) ∧ (∃ u, u ≤ (hs past).length ∧ z = nI u))) ∨ (zRM cI ad cw' past fut hs pat ws (nI 2) dn ∧ (∃ u, u ≤ (hs past).length ∧ z = nI u) ∧ ∃ q, q ≤ (hs past).length ∧ x = nI q ∧ ¬ (∃ k, k ≤ (hs past).length - q ∧ y = nI k)) ∨ (zRM cI ad cw' past fut hs pat ws (nI 3) dn ∧ (∃ u, u ≤ (hs past).length ∧ z = nI u) ∧ ∃ q k, q + k ≤ (hs past).length ∧ x = nI q ∧ y = nI k ∧ ¬ ((hs past).length + k ≤ 240)) ∨ (∃ q k u, q + k ≤ (hs past).length ∧ u ≤ (hs past).length ∧ (hs past).length + k ≤ 240 ∧ x = nI q ∧ y = nI k ∧ z = nI u ∧ v = nI (sCopy (hs past) q k u).length ∧ zRM cI ad cw' (aPast past) 0 (aHs past hs (sCopy (hs past) q k u)) pat ws (nI 0) (nI (sCopy (hs past) q k u).length))) ∧ ∀ j, (j < 37 ∨ 45 ≤ j) → cw' j = cw j)) 0 0 (zA B) := by
  obtain ⟨m1, ⟨m2, tf, lf, m3, m4, m5⟩, ⟨df, m6⟩, ⟨m7, pf, m8, m9⟩, ⟨m10, wf, m11, m12⟩, ⟨bf, m13⟩, zf, m14⟩ := id hM
  obtain ⟨k1, k2, k3⟩ := m5 past (by omega)
  refine z_ofW (cc := cX4_copy) (maxL := 5) (ret := (some .int)) (by decide) rfl (Nat.le_of_ble_eq_true rfl) ?_
  intro p e s m args below meth c C hr hnm
  refine z_lv (lv' := [(0, .ref (ad (37))), (1, .int (x)), (2, .int (y)), (3, .int (z))]) [0, 1, 2, 3] rfl ?_
  refine z_iload_n C dX4_copy_0 1 rfl ?_
  refine z_i2l C dX4_copy_1 rfl ?_
  refine z_lconst (v := 0) C dX4_copy_2 rfl ?_
  refine z_aload_n C dX4_copy_3 0 rfl ?_
  refine z_calli (z_runV (As := []) (rest := [.long (0), .long (x).toInt64]) C (c_M_length l D cI cR cL B N ad cw hN m1 m4 (by omega) (k2)) (cwV 0 C.2.2.2.2.1 gX4_copy_X4_length rfl rfl rfl (by decide +kernel) ⟨Nat.le_of_ble_eq_true rfl, Nat.le_of_ble_eq_true rfl⟩) (by omega) m1 rfl rfl rfl rfl (Nat.le_of_ble_eq_true rfl) dX4_copy_4 ⟨Nat.le_of_ble_eq_true rfl, Nat.le_of_ble_eq_true rfl⟩) (fun r1 cw2 hp3 => ?_)
  refine z_cw hp3.2 ?_
  refine z_top hp3.1 ?_
  refine z_i2l C dX4_copy_7 rfl ?_
  refine z_calli (z_runS (As := [.long (x.toInt64), .long (0), .long ((nI (hs past).length).toInt64)]) (rest := []) C (c_M_isIn l D cI cR cL B N ad cw (x.toInt64) (0) ((nI (hs past).length).toInt64)) (va_cwS 3 C.2.2.2.2.1 gX4_copy_X4_isIn rfl rfl rfl (by decide +kernel) ⟨Nat.le_of_ble_eq_true rfl, Nat.le_of_ble_eq_true rfl⟩) rfl rfl (Nat.le_of_ble_eq_true rfl) dX4_copy_8 ⟨Nat.le_of_ble_eq_true rfl, Nat.le_of_ble_eq_true rfl⟩) (fun r4 cw5 hp6 => ?_)
  refine z_cw hp6.2 ?_
  refine z_if_eq (tgt := 32) C dX4_copy_11 (by decide) (fun c7 => ?_) (fun c7 => ?_)
  · skip
    have nhin : ¬ _ := fun h8 => (by rcases hp6.1 with h9 | h9; exact absurd (h9.1.symm.trans c7) (by decide); exact h9.2 ((z_in0 (x := x) (n := (hs past).length) (by omega)).mpr h8))
    refine z_iconst (v := nI 0) C dX4_copy_32 (by decide) ?_
    refine z_istore (lv' := [(4, .int (nI 0)), (0, .ref (ad (37))), (1, .int (x)), (2, .int (y)), (3, .int (z))]) C dX4_copy_33 (by decide) rfl ?_
    refine z_aload_n C dX4_copy_35 1 rfl ?_
    refine z_iload C dX4_copy_36 0 rfl ?_
    refine z_if_ne (tgt := 45) C dX4_copy_38 (by decide) (fun c8 => ?_) (fun c8 => ?_)
    · skip
      exact absurd (show nI 0 = 0 by decide) c8
    · skip
      refine z_iconst (v := nI 1) C dX4_copy_41 (by decide) ?_
      refine z_goto (tgt := 84) C dX4_copy_42 (by decide) ?_
      obtain ⟨cw9, ecw9⟩ : ∃ z : Nat → va_E, z = va_up (cw) (37) (.inr (4, [.int (nI 1), .ref (ad (38)), .ref (ad (39)), .int (nI (past)), .int (nI (fut)), .ref (ad (40)), .int (dn), .ref (ad (41)), .int (nI (pat.length)), .ref (ad (42)), .int (nI (ws.length)), .ref (ad (43)), .ref (ad (44))])) := ⟨_, rfl⟩
      refine z_put (Cn := RX4) (T := TX4) (NF := 13) (ci := 4) (ty := .int) (v := .int (nI 1)) C qX4_copy_0 tyX4_ok nmX4 rfl 0 (by decide) (C.2.2.2.2.1 _ qX4_copy_1) (fun _ h9 => h9) rfl (by decide +kernel) dX4_copy_84 (37) (by omega) m1 rfl rfl (Nat.le_of_ble_eq_true rfl) ?_
      refine z_cw ecw9.symm ?_
      have hw_10 : cw9 (37) = .inr (4, [.int (nI 1), .ref (ad (38)), .ref (ad (39)), .int (nI (past)), .int (nI (fut)), .ref (ad (40)), .int (dn), .ref (ad (41)), .int (nI (pat.length)), .ref (ad (42)), .int (nI (ws.length)), .ref (ad (43)), .ref (ad (44))]) := by rw [ecw9, va_up_self]
      have hw_11 : cw9 (38) = .inl (cI, 3120, .inl (tf)) := by rw [ecw9, va_up_ne _ _ (by decide)]; exact m3
      have hw_12 : cw9 (39) = .inl (cI, 13, .inl (lf)) := by rw [ecw9, va_up_ne _ _ (by decide)]; exact m4
      have hw_13 : cw9 (40) = .inl (cI, 240, .inl (df)) := by rw [ecw9, va_up_ne _ _ (by decide)]; exact m6
      refine z_aload_n C dX4_copy_87 1 rfl ?_
      refine z_get (Cn := RX4) (T := TX4) (NF := 13) (ci := 4) (v := .int (nI 1)) C qX4_copy_0 rfl 0 (by decide) (C.2.2.2.2.1 _ qX4_copy_1) (fun _ h9 => h9) dX4_copy_88 (37) (by omega) hw_10 rfl ?_
      refine z_if_le (tgt := 96) C dX4_copy_91 (by decide) (fun c14 => ?_) (fun c14 => ?_)
      · skip
        exact absurd c14 (by decide)
      · skip
        refine z_iconst (v := nI 0) C dX4_copy_94 (by decide) ?_
        exact z_iret C hr dX4_copy_95 (⟨Or.inl ⟨zRM_obj hM hw_10 (fun j hj => by rw [ecw9, va_up_ne _ _ (by omega)]), fun h9 => nhin h9.1⟩, fun j hj => ((fun j hj => by rw [ecw9, va_up_ne _ _ (by omega)]) : ∀ j, (j ≠ 37) → _ = cw j) j (by omega)⟩) (Nat.le_of_ble_eq_true rfl) (Nat.le_of_ble_eq_true rfl)
  · skip
    have hin := (z_in0 (x := x) (n := (hs past).length) (by omega)).mp (by rcases hp6.1 with h9 | h9; exact h9.2; exact absurd h9.1 c7)
    refine z_iload_n C dX4_copy_14 3 rfl ?_
    refine z_i2l C dX4_copy_15 rfl ?_
    refine z_lconst (v := 0) C dX4_copy_16 rfl ?_
    refine z_aload_n C dX4_copy_17 0 rfl ?_
    refine z_calli (z_runV (As := []) (rest := [.long (0), .long (z).toInt64]) C (c_M_length l D cI cR cL B N ad cw hN m1 m4 (by omega) (k2)) (cwV 0 C.2.2.2.2.1 gX4_copy_X4_length rfl rfl rfl (by decide +kernel) ⟨Nat.le_of_ble_eq_true rfl, Nat.le_of_ble_eq_true rfl⟩) (by omega) m1 rfl rfl rfl rfl (Nat.le_of_ble_eq_true rfl) dX4_copy_18 ⟨Nat.le_of_ble_eq_true rfl, Nat.le_of_ble_eq_true rfl⟩) (fun r15 cw16 hp17 => ?_)
    refine z_cw hp17.2 ?_
    refine z_top hp17.1 ?_
    refine z_i2l C dX4_copy_21 rfl ?_
    refine z_calli (z_runS (As := [.long (z.toInt64), .long (0), .long ((nI (hs past).length).toInt64)]) (rest := []) C (c_M_isIn l D cI cR cL B N ad cw (z.toInt64) (0) ((nI (hs past).length).toInt64)) (va_cwS 3 C.2.2.2.2.1 gX4_copy_X4_isIn rfl rfl rfl (by decide +kernel) ⟨Nat.le_of_ble_eq_true rfl, Nat.le_of_ble_eq_true rfl⟩) rfl rfl (Nat.le_of_ble_eq_true rfl) dX4_copy_22 ⟨Nat.le_of_ble_eq_true rfl, Nat.le_of_ble_eq_true rfl⟩) (fun r18 cw19 hp20 => ?_)
    refine z_cw hp20.2 ?_
    refine z_if_eq (tgt := 32) C dX4_copy_25 (by decide) (fun c21 => ?_) (fun c21 => ?_)
    · skip
      have nhit : ¬ _ := fun h8 => (by rcases hp20.1 with h9 | h9; exact absurd (h9.1.symm.trans c21) (by decide); exact h9.2 ((z_in0 (x := z) (n := (hs past).length) (by omega)).mpr h8))
      refine z_iconst (v := nI 0) C dX4_copy_32 (by decide) ?_
      refine z_istore (lv' := [(4, .int (nI 0)), (0, .ref (ad (37))), (1, .int (x)), (2, .int (y)), (3, .int (z))]) C dX4_copy_33 (by decide) rfl ?_
      refine z_aload_n C dX4_copy_35 1 rfl ?_
      refine z_iload C dX4_copy_36 0 rfl ?_
      refine z_if_ne (tgt := 45) C dX4_copy_38 (by decide) (fun c22 => ?_) (fun c22 => ?_)
      · skip
        exact absurd (show nI 0 = 0 by decide) c22
      · skip
        refine z_iconst (v := nI 1) C dX4_copy_41 (by decide) ?_
        refine z_goto (tgt := 84) C dX4_copy_42 (by decide) ?_
        obtain ⟨cw23, ecw23⟩ : ∃ z : Nat → va_E, z = va_up (cw) (37) (.inr (4, [.int (nI 1), .ref (ad (38)), .ref (ad (39)), .int (nI (past)), .int (nI (fut)), .ref (ad (40)), .int (dn), .ref (ad (41)), .int (nI (pat.length)), .ref (ad (42)), .int (nI (ws.length)), .ref (ad (43)), .ref (ad (44))])) := ⟨_, rfl⟩
        refine z_put (Cn := RX4) (T := TX4) (NF := 13) (ci := 4) (ty := .int) (v := .int (nI 1)) C qX4_copy_0 tyX4_ok nmX4 rfl 0 (by decide) (C.2.2.2.2.1 _ qX4_copy_1) (fun _ h9 => h9) rfl (by decide +kernel) dX4_copy_84 (37) (by omega) m1 rfl rfl (Nat.le_of_ble_eq_true rfl) ?_
        refine z_cw ecw23.symm ?_
        have hw_24 : cw23 (37) = .inr (4, [.int (nI 1), .ref (ad (38)), .ref (ad (39)), .int (nI (past)), .int (nI (fut)), .ref (ad (40)), .int (dn), .ref (ad (41)), .int (nI (pat.length)), .ref (ad (42)), .int (nI (ws.length)), .ref (ad (43)), .ref (ad (44))]) := by rw [ecw23, va_up_self]
        have hw_25 : cw23 (38) = .inl (cI, 3120, .inl (tf)) := by rw [ecw23, va_up_ne _ _ (by decide)]; exact m3
        have hw_26 : cw23 (39) = .inl (cI, 13, .inl (lf)) := by rw [ecw23, va_up_ne _ _ (by decide)]; exact m4
        have hw_27 : cw23 (40) = .inl (cI, 240, .inl (df)) := by rw [ecw23, va_up_ne _ _ (by decide)]; exact m6
        refine z_aload_n C dX4_copy_87 1 rfl ?_
        refine z_get (Cn := RX4) (T := TX4) (NF := 13) (ci := 4) (v := .int (nI 1)) C qX4_copy_0 rfl 0 (by decide) (C.2.2.2.2.1 _ qX4_copy_1) (fun _ h9 => h9) dX4_copy_88 (37) (by omega) hw_24 rfl ?_
        refine z_if_le (tgt := 96) C dX4_copy_91 (by decide) (fun c28 => ?_) (fun c28 => ?_)
        · skip
          exact absurd c28 (by decide)
        · skip
          refine z_iconst (v := nI 0) C dX4_copy_94 (by decide) ?_
          exact z_iret C hr dX4_copy_95 (⟨Or.inl ⟨zRM_obj hM hw_24 (fun j hj => by rw [ecw23, va_up_ne _ _ (by omega)]), fun h9 => nhit h9.2⟩, fun j hj => ((fun j hj => by rw [ecw23, va_up_ne _ _ (by omega)]) : ∀ j, (j ≠ 37) → _ = cw j) j (by omega)⟩) (Nat.le_of_ble_eq_true rfl) (Nat.le_of_ble_eq_true rfl)
    · skip
      have hit := (z_in0 (x := z) (n := (hs past).length) (by omega)).mp (by rcases hp20.1 with h9 | h9; exact h9.2; exact absurd h9.1 c21)
      obtain ⟨q, hq, rfl⟩ := hin
      obtain ⟨u, hu, rfl⟩ := hit
      refine z_iconst (v := nI 1) C dX4_copy_28 (by decide) ?_
      refine z_goto (tgt := 33) C dX4_copy_29 (by decide) ?_
      refine z_istore (lv' := [(4, .int (nI 1)), (0, .ref (ad (37))), (1, .int (nI q)), (2, .int (y)), (3, .int (nI u))]) C dX4_copy_33 (by decide) rfl ?_
      refine z_aload_n C dX4_copy_35 1 rfl ?_
      refine z_iload C dX4_copy_36 0 rfl ?_
      refine z_if_ne (tgt := 45) C dX4_copy_38 (by decide) (fun c29 => ?_) (fun c29 => ?_)
      · skip
        refine z_iload_n C dX4_copy_45 3 rfl ?_
        refine z_if_lt (tgt := 63) C dX4_copy_46 (by decide) (fun c30 => ?_) (fun c30 => ?_)
        · skip
          have npt : ¬ (∃ k, k ≤ (hs past).length - q ∧ y = nI k) := fun ⟨k, h1, h2⟩ => by rw [h2] at c30; exact nI_pos (by omega) c30
          refine z_iconst (v := nI 2) C dX4_copy_63 (by decide) ?_
          refine z_goto (tgt := 84) C dX4_copy_64 (by decide) ?_
          obtain ⟨cw31, ecw31⟩ : ∃ z : Nat → va_E, z = va_up (cw) (37) (.inr (4, [.int (nI 2), .ref (ad (38)), .ref (ad (39)), .int (nI (past)), .int (nI (fut)), .ref (ad (40)), .int (dn), .ref (ad (41)), .int (nI (pat.length)), .ref (ad (42)), .int (nI (ws.length)), .ref (ad (43)), .ref (ad (44))])) := ⟨_, rfl⟩
          refine z_put (Cn := RX4) (T := TX4) (NF := 13) (ci := 4) (ty := .int) (v := .int (nI 2)) C qX4_copy_0 tyX4_ok nmX4 rfl 0 (by decide) (C.2.2.2.2.1 _ qX4_copy_1) (fun _ h9 => h9) rfl (by decide +kernel) dX4_copy_84 (37) (by omega) m1 rfl rfl (Nat.le_of_ble_eq_true rfl) ?_
          refine z_cw ecw31.symm ?_
          have hw_32 : cw31 (37) = .inr (4, [.int (nI 2), .ref (ad (38)), .ref (ad (39)), .int (nI (past)), .int (nI (fut)), .ref (ad (40)), .int (dn), .ref (ad (41)), .int (nI (pat.length)), .ref (ad (42)), .int (nI (ws.length)), .ref (ad (43)), .ref (ad (44))]) := by rw [ecw31, va_up_self]
          have hw_33 : cw31 (38) = .inl (cI, 3120, .inl (tf)) := by rw [ecw31, va_up_ne _ _ (by decide)]; exact m3
          have hw_34 : cw31 (39) = .inl (cI, 13, .inl (lf)) := by rw [ecw31, va_up_ne _ _ (by decide)]; exact m4
          have hw_35 : cw31 (40) = .inl (cI, 240, .inl (df)) := by rw [ecw31, va_up_ne _ _ (by decide)]; exact m6
          refine z_aload_n C dX4_copy_87 1 rfl ?_
          refine z_get (Cn := RX4) (T := TX4) (NF := 13) (ci := 4) (v := .int (nI 2)) C qX4_copy_0 rfl 0 (by decide) (C.2.2.2.2.1 _ qX4_copy_1) (fun _ h9 => h9) dX4_copy_88 (37) (by omega) hw_32 rfl ?_
          refine z_if_le (tgt := 96) C dX4_copy_91 (by decide) (fun c36 => ?_) (fun c36 => ?_)
          · skip
            exact absurd c36 (by decide)
          · skip
            refine z_iconst (v := nI 0) C dX4_copy_94 (by decide) ?_
            exact z_iret C hr dX4_copy_95 (⟨Or.inr (Or.inl ⟨zRM_obj hM hw_32 (fun j hj => by rw [ecw31, va_up_ne _ _ (by omega)]), ⟨u, hu, rfl⟩, q, hq, rfl, npt⟩), fun j hj => ((fun j hj => by rw [ecw31, va_up_ne _ _ (by omega)]) : ∀ j, (j ≠ 37) → _ = cw j) j (by omega)⟩) (Nat.le_of_ble_eq_true rfl) (Nat.le_of_ble_eq_true rfl)
        · skip
          obtain ⟨k, hk, rfl⟩ := nI_of c30
          refine z_iload_n C dX4_copy_49 2 rfl ?_
          refine z_i2l C dX4_copy_50 rfl ?_
          refine z_iload_n C dX4_copy_51 3 rfl ?_
          refine z_i2l C dX4_copy_52 rfl ?_
          refine z_ladd C dX4_copy_53 ?_
          refine z_aload_n C dX4_copy_54 1 rfl ?_
          refine z_calli (z_runV (As := []) (rest := [.long ((nI q).toInt64 + (nI k).toInt64), .ref (ad (37))]) C (c_M_length l D cI cR cL B N ad cw hN m1 m4 (by omega) (k2)) (cwV 0 C.2.2.2.2.1 gX4_copy_X4_length rfl rfl rfl (by decide +kernel) ⟨Nat.le_of_ble_eq_true rfl, Nat.le_of_ble_eq_true rfl⟩) (by omega) m1 rfl rfl rfl rfl (Nat.le_of_ble_eq_true rfl) dX4_copy_55 ⟨Nat.le_of_ble_eq_true rfl, Nat.le_of_ble_eq_true rfl⟩) (fun r37 cw38 hp39 => ?_)
          refine z_cw hp39.2 ?_
          refine z_top hp39.1 ?_
          refine z_i2l C dX4_copy_58 rfl ?_
          refine z_lcmp C dX4_copy_59 ?_
          refine z_if_le (tgt := 67) C dX4_copy_60 (by decide) (fun c40 => ?_) (fun c40 => ?_)
          · skip
            have hqk : q + k ≤ (hs past).length := (z_addle (by omega) hk (by omega)).mp ((lg_cmp_le _ _).mp c40)
            refine z_aload_n C dX4_copy_67 1 rfl ?_
            refine z_calli (z_runV (As := []) (rest := [.ref (ad (37))]) C (c_M_length l D cI cR cL B N ad cw hN m1 m4 (by omega) (k2)) (cwV 0 C.2.2.2.2.1 gX4_copy_X4_length rfl rfl rfl (by decide +kernel) ⟨Nat.le_of_ble_eq_true rfl, Nat.le_of_ble_eq_true rfl⟩) (by omega) m1 rfl rfl rfl rfl (Nat.le_of_ble_eq_true rfl) dX4_copy_68 ⟨Nat.le_of_ble_eq_true rfl, Nat.le_of_ble_eq_true rfl⟩) (fun r41 cw42 hp43 => ?_)
            refine z_cw hp43.2 ?_
            refine z_top hp43.1 ?_
            refine z_iload_n C dX4_copy_71 3 rfl ?_
            refine z_iadd C dX4_copy_72 ?_
            refine z_top (y := nI ((hs past).length + k)) (nI_add _ _) ?_
            refine z_sipush (v := nI 240) C dX4_copy_73 (by decide) ?_
            refine z_icmp_le (tgt := 83) C dX4_copy_76 (by decide) (fun c44 => ?_) (fun c44 => ?_)
            · skip
              have h240 : (hs past).length + k ≤ 240 := (nI_leI (by omega) (by omega)).mp c44
              refine z_iconst (v := nI 0) C dX4_copy_83 (by decide) ?_
              obtain ⟨cw45, ecw45⟩ : ∃ z : Nat → va_E, z = va_up (cw) (37) (.inr (4, [.int (nI 0), .ref (ad (38)), .ref (ad (39)), .int (nI (past)), .int (nI (fut)), .ref (ad (40)), .int (dn), .ref (ad (41)), .int (nI (pat.length)), .ref (ad (42)), .int (nI (ws.length)), .ref (ad (43)), .ref (ad (44))])) := ⟨_, rfl⟩
              refine z_put (Cn := RX4) (T := TX4) (NF := 13) (ci := 4) (ty := .int) (v := .int (nI 0)) C qX4_copy_0 tyX4_ok nmX4 rfl 0 (by decide) (C.2.2.2.2.1 _ qX4_copy_1) (fun _ h9 => h9) rfl (by decide +kernel) dX4_copy_84 (37) (by omega) m1 rfl rfl (Nat.le_of_ble_eq_true rfl) ?_
              refine z_cw ecw45.symm ?_
              have hw_46 : cw45 (37) = .inr (4, [.int (nI 0), .ref (ad (38)), .ref (ad (39)), .int (nI (past)), .int (nI (fut)), .ref (ad (40)), .int (dn), .ref (ad (41)), .int (nI (pat.length)), .ref (ad (42)), .int (nI (ws.length)), .ref (ad (43)), .ref (ad (44))]) := by rw [ecw45, va_up_self]
              have hw_47 : cw45 (38) = .inl (cI, 3120, .inl (tf)) := by rw [ecw45, va_up_ne _ _ (by decide)]; exact m3
              have hw_48 : cw45 (39) = .inl (cI, 13, .inl (lf)) := by rw [ecw45, va_up_ne _ _ (by decide)]; exact m4
              have hw_49 : cw45 (40) = .inl (cI, 240, .inl (df)) := by rw [ecw45, va_up_ne _ _ (by decide)]; exact m6
              refine z_aload_n C dX4_copy_87 1 rfl ?_
              refine z_get (Cn := RX4) (T := TX4) (NF := 13) (ci := 4) (v := .int (nI 0)) C qX4_copy_0 rfl 0 (by decide) (C.2.2.2.2.1 _ qX4_copy_1) (fun _ h9 => h9) dX4_copy_88 (37) (by omega) hw_46 rfl ?_
              refine z_if_le (tgt := 96) C dX4_copy_91 (by decide) (fun c50 => ?_) (fun c50 => absurd (show nI 0 ≤ 0 by decide) c50)
              refine z_aload_n C dX4_copy_96 1 rfl ?_
              refine z_iconst (v := nI 0) C dX4_copy_97 (by decide) ?_
              obtain ⟨cw51, ecw51⟩ : ∃ z : Nat → va_E, z = va_up (cw45) (37) (.inr (4, [.int (nI 0), .ref (ad (38)), .ref (ad (39)), .int (nI (past)), .int (nI (fut)), .ref (ad (40)), .int (nI 0), .ref (ad (41)), .int (nI (pat.length)), .ref (ad (42)), .int (nI (ws.length)), .ref (ad (43)), .ref (ad (44))])) := ⟨_, rfl⟩
              refine z_put (Cn := RX4) (T := TX4) (NF := 13) (ci := 4) (ty := .int) (v := .int (nI 0)) C qX4_copy_0 tyX4_ok nmX4 rfl 6 (by decide) (C.2.2.2.2.1 _ qX4_copy_2) (fun _ h9 => h9) rfl (by decide +kernel) dX4_copy_98 (37) (by omega) hw_46 rfl rfl (Nat.le_of_ble_eq_true rfl) ?_
              refine z_cw ecw51.symm ?_
              have hw_52 : cw51 (37) = .inr (4, [.int (nI 0), .ref (ad (38)), .ref (ad (39)), .int (nI (past)), .int (nI (fut)), .ref (ad (40)), .int (nI 0), .ref (ad (41)), .int (nI (pat.length)), .ref (ad (42)), .int (nI (ws.length)), .ref (ad (43)), .ref (ad (44))]) := by rw [ecw51, va_up_self]
              have hw_53 : cw51 (38) = .inl (cI, 3120, .inl (tf)) := by rw [ecw51, va_up_ne _ _ (by decide)]; exact hw_47
              have hw_54 : cw51 (39) = .inl (cI, 13, .inl (lf)) := by rw [ecw51, va_up_ne _ _ (by decide)]; exact hw_48
              have hw_55 : cw51 (40) = .inl (cI, 240, .inl (df)) := by rw [ecw51, va_up_ne _ _ (by decide)]; exact hw_49
              refine z_aload_n C dX4_copy_101 1 rfl ?_
              refine z_iconst (v := nI 0) C dX4_copy_102 (by decide) ?_
              refine z_iload_n C dX4_copy_103 4 rfl ?_
              refine z_callv (z_runV (As := [.int (nI (0)), .int (nI (u))]) (rest := []) C (c_M_draftFrom l D cI cR cL B N ad cw51 hN (dr := ([] : List Int32)) hw_52 hw_53 hw_55 (zIs_nil _) k3 (by omega) (b := 0) (k := u) (Nat.zero_le _) (hu) k1 (by simp only [List.length_nil]; omega)) (cwV 2 C.2.2.2.2.1 gX4_copy_X4_draftFrom rfl rfl rfl (by decide +kernel) ⟨Nat.le_of_ble_eq_true rfl, Nat.le_of_ble_eq_true rfl⟩) (by omega) hw_52 rfl rfl rfl rfl (Nat.le_of_ble_eq_true rfl) dX4_copy_104 ⟨Nat.le_of_ble_eq_true rfl, Nat.le_of_ble_eq_true rfl⟩) (fun cw56 hp57 => ?_)
              obtain ⟨q58a, ⟨df59, q58b, q58c⟩, q58d⟩ := hp57
              have hw_60 : cw56 (37) = .inr (4, [.int (nI 0), .ref (ad (38)), .ref (ad (39)), .int (nI (past)), .int (nI (fut)), .ref (ad (40)), .int (nI (((([] : List Int32) ++ zPart (hs past) 0 u)).length)), .ref (ad (41)), .int (nI (pat.length)), .ref (ad (42)), .int (nI (ws.length)), .ref (ad (43)), .ref (ad (44))]) := q58a
              have hw_61 : cw56 (38) = .inl (cI, 3120, .inl (tf)) := by rw [q58d (38) (by omega)]; exact hw_53
              have hw_62 : cw56 (39) = .inl (cI, 13, .inl (lf)) := by rw [q58d (39) (by omega)]; exact hw_54
              have hw_63 : cw56 (40) = .inl (cI, 240, .inl (df59)) := q58b
              refine z_aload_n C dX4_copy_107 1 rfl ?_
              refine z_iload_n C dX4_copy_108 2 rfl ?_
              refine z_iload_n C dX4_copy_109 2 rfl ?_
              refine z_iload_n C dX4_copy_110 3 rfl ?_
              refine z_iadd C dX4_copy_111 ?_
              refine z_top (y := nI (q + k)) (nI_add _ _) ?_
              have hl1 : (([] : List Int32) ++ zPart (hs past) 0 u).length = u := by rw [List.nil_append, zPart_len hu]; rfl
              refine z_callv (z_runV (As := [.int (nI (q)), .int (nI (q + k))]) (rest := []) C (c_M_draftFrom l D cI cR cL B N ad cw56 hN (dr := (([] : List Int32) ++ zPart (hs past) 0 u)) hw_60 hw_61 hw_63 q58c k3 (by omega) (b := q) (k := q + k) (by omega) (hqk) k1 (by rw [hl1]; omega)) (cwV 2 C.2.2.2.2.1 gX4_copy_X4_draftFrom rfl rfl rfl (by decide +kernel) ⟨Nat.le_of_ble_eq_true rfl, Nat.le_of_ble_eq_true rfl⟩) (by omega) hw_60 rfl rfl rfl rfl (Nat.le_of_ble_eq_true rfl) dX4_copy_112 ⟨Nat.le_of_ble_eq_true rfl, Nat.le_of_ble_eq_true rfl⟩) (fun cw64 hp65 => ?_)
              obtain ⟨q66a, ⟨df67, q66b, q66c⟩, q66d⟩ := hp65
              have hw_68 : cw64 (37) = .inr (4, [.int (nI 0), .ref (ad (38)), .ref (ad (39)), .int (nI (past)), .int (nI (fut)), .ref (ad (40)), .int (nI ((((([] : List Int32) ++ zPart (hs past) 0 u) ++ zPart (hs past) q (q + k))).length)), .ref (ad (41)), .int (nI (pat.length)), .ref (ad (42)), .int (nI (ws.length)), .ref (ad (43)), .ref (ad (44))]) := q66a
              have hw_69 : cw64 (38) = .inl (cI, 3120, .inl (tf)) := by rw [q66d (38) (by omega)]; exact hw_61
              have hw_70 : cw64 (39) = .inl (cI, 13, .inl (lf)) := by rw [q66d (39) (by omega)]; exact hw_62
              have hw_71 : cw64 (40) = .inl (cI, 240, .inl (df67)) := q66b
              refine z_aload_n C dX4_copy_115 1 rfl ?_
              refine z_iload_n C dX4_copy_116 4 rfl ?_
              refine z_aload_n C dX4_copy_117 1 rfl ?_
              refine z_calli (z_runV (As := []) (rest := [.int (nI u), .ref (ad (37))]) C (c_M_length l D cI cR cL B N ad cw64 hN hw_68 hw_70 (by omega) (k2)) (cwV 0 C.2.2.2.2.1 gX4_copy_X4_length rfl rfl rfl (by decide +kernel) ⟨Nat.le_of_ble_eq_true rfl, Nat.le_of_ble_eq_true rfl⟩) (by omega) hw_68 rfl rfl rfl rfl (Nat.le_of_ble_eq_true rfl) dX4_copy_118 ⟨Nat.le_of_ble_eq_true rfl, Nat.le_of_ble_eq_true rfl⟩) (fun r72 cw73 hp74 => ?_)
              refine z_cw hp74.2 ?_
              refine z_top hp74.1 ?_
              have hl2 : (([] : List Int32) ++ zPart (hs past) 0 u ++ zPart (hs past) q (q + k)).length = u + k := by rw [List.length_append, hl1, zPart_len hqk]; omega
              refine z_callv (z_runV (As := [.int (nI (u)), .int (nI ((hs past).length))]) (rest := []) C (c_M_draftFrom l D cI cR cL B N ad cw64 hN (dr := ((([] : List Int32) ++ zPart (hs past) 0 u) ++ zPart (hs past) q (q + k))) hw_68 hw_69 hw_71 q66c k3 (by omega) (b := u) (k := (hs past).length) (hu) (Nat.le_refl _) k1 (by rw [hl2]; omega)) (cwV 2 C.2.2.2.2.1 gX4_copy_X4_draftFrom rfl rfl rfl (by decide +kernel) ⟨Nat.le_of_ble_eq_true rfl, Nat.le_of_ble_eq_true rfl⟩) (by omega) hw_68 rfl rfl rfl rfl (Nat.le_of_ble_eq_true rfl) dX4_copy_121 ⟨Nat.le_of_ble_eq_true rfl, Nat.le_of_ble_eq_true rfl⟩) (fun cw75 hp76 => ?_)
              obtain ⟨q77a, ⟨df78, q77b, q77c⟩, q77d⟩ := hp76
              have hw_79 : cw75 (37) = .inr (4, [.int (nI 0), .ref (ad (38)), .ref (ad (39)), .int (nI (past)), .int (nI (fut)), .ref (ad (40)), .int (nI (((((([] : List Int32) ++ zPart (hs past) 0 u) ++ zPart (hs past) q (q + k)) ++ zPart (hs past) u ((hs past).length))).length)), .ref (ad (41)), .int (nI (pat.length)), .ref (ad (42)), .int (nI (ws.length)), .ref (ad (43)), .ref (ad (44))]) := q77a
              have hw_80 : cw75 (38) = .inl (cI, 3120, .inl (tf)) := by rw [q77d (38) (by omega)]; exact hw_69
              have hw_81 : cw75 (39) = .inl (cI, 13, .inl (lf)) := by rw [q77d (39) (by omega)]; exact hw_70
              have hw_82 : cw75 (40) = .inl (cI, 240, .inl (df78)) := q77b
              refine z_aload_n C dX4_copy_124 1 rfl ?_
              have hM83 : zRM cI ad cw75 past fut hs pat ws (nI 0) (nI (((((([] : List Int32) ++ zPart (hs past) 0 u) ++ zPart (hs past) q (q + k)) ++ zPart (hs past) u ((hs past).length))).length)) := zRM_dr hM hw_79 ⟨_, hw_82⟩ (fun j hj => by rw [q77d j (by omega)]; rw [q66d j (by omega)]; rw [q58d j (by omega)]; rw [ecw51, va_up_ne _ _ (by omega)]; rw [ecw45, va_up_ne _ _ (by omega)])
              refine z_calli (z_runV (As := []) (rest := []) C (c_M_act l D cI cR cL B N ad cw75 hN hM83 hw_82 q77c (by show (sCopy (hs past) q k u).length ≤ 240; rw [sCopy_len hqk hu]; omega)) (cwV 0 C.2.2.2.2.1 gX4_copy_X4_act rfl rfl rfl (by decide +kernel) ⟨Nat.le_of_ble_eq_true rfl, Nat.le_of_ble_eq_true rfl⟩) (by omega) hw_79 rfl rfl rfl rfl (Nat.le_of_ble_eq_true rfl) dX4_copy_125 ⟨Nat.le_of_ble_eq_true rfl, Nat.le_of_ble_eq_true rfl⟩) (fun r84 cw85 hp86 => ?_)
              exact z_iret C hr dX4_copy_128 (⟨Or.inr (Or.inr (Or.inr ⟨q, k, u, hqk, hu, h240, rfl, rfl, rfl, hp86.1, hp86.2.1⟩)), fun j hj => (hp86.2.2 j (by omega)).trans (((fun j hj => by rw [q77d j (by omega)]; rw [q66d j (by omega)]; rw [q58d j (by omega)]; rw [ecw51, va_up_ne _ _ (by omega)]; rw [ecw45, va_up_ne _ _ (by omega)]) : ∀ j, (j ≠ 37 ∧ j ≠ 40) → _ = cw j) j (by omega))⟩) (Nat.le_of_ble_eq_true rfl) (Nat.le_of_ble_eq_true rfl)
            · skip
              refine z_iconst (v := nI 3) C dX4_copy_79 (by decide) ?_
              refine z_goto (tgt := 84) C dX4_copy_80 (by decide) ?_
              obtain ⟨cw87, ecw87⟩ : ∃ z : Nat → va_E, z = va_up (cw) (37) (.inr (4, [.int (nI 3), .ref (ad (38)), .ref (ad (39)), .int (nI (past)), .int (nI (fut)), .ref (ad (40)), .int (dn), .ref (ad (41)), .int (nI (pat.length)), .ref (ad (42)), .int (nI (ws.length)), .ref (ad (43)), .ref (ad (44))])) := ⟨_, rfl⟩
              refine z_put (Cn := RX4) (T := TX4) (NF := 13) (ci := 4) (ty := .int) (v := .int (nI 3)) C qX4_copy_0 tyX4_ok nmX4 rfl 0 (by decide) (C.2.2.2.2.1 _ qX4_copy_1) (fun _ h9 => h9) rfl (by decide +kernel) dX4_copy_84 (37) (by omega) m1 rfl rfl (Nat.le_of_ble_eq_true rfl) ?_
              refine z_cw ecw87.symm ?_
              have hw_88 : cw87 (37) = .inr (4, [.int (nI 3), .ref (ad (38)), .ref (ad (39)), .int (nI (past)), .int (nI (fut)), .ref (ad (40)), .int (dn), .ref (ad (41)), .int (nI (pat.length)), .ref (ad (42)), .int (nI (ws.length)), .ref (ad (43)), .ref (ad (44))]) := by rw [ecw87, va_up_self]
              have hw_89 : cw87 (38) = .inl (cI, 3120, .inl (tf)) := by rw [ecw87, va_up_ne _ _ (by decide)]; exact m3
              have hw_90 : cw87 (39) = .inl (cI, 13, .inl (lf)) := by rw [ecw87, va_up_ne _ _ (by decide)]; exact m4
              have hw_91 : cw87 (40) = .inl (cI, 240, .inl (df)) := by rw [ecw87, va_up_ne _ _ (by decide)]; exact m6
              refine z_aload_n C dX4_copy_87 1 rfl ?_
              refine z_get (Cn := RX4) (T := TX4) (NF := 13) (ci := 4) (v := .int (nI 3)) C qX4_copy_0 rfl 0 (by decide) (C.2.2.2.2.1 _ qX4_copy_1) (fun _ h9 => h9) dX4_copy_88 (37) (by omega) hw_88 rfl ?_
              refine z_if_le (tgt := 96) C dX4_copy_91 (by decide) (fun c92 => ?_) (fun c92 => ?_)
              · skip
                exact absurd c92 (by decide)
              · skip
                refine z_iconst (v := nI 0) C dX4_copy_94 (by decide) ?_
                exact z_iret C hr dX4_copy_95 (⟨Or.inr (Or.inr (Or.inl ⟨zRM_obj hM hw_88 (fun j hj => by rw [ecw87, va_up_ne _ _ (by omega)]), ⟨u, hu, rfl⟩, q, k, hqk, rfl, rfl, fun h9 => c44 (nI_le h9 (by omega))⟩)), fun j hj => ((fun j hj => by rw [ecw87, va_up_ne _ _ (by omega)]) : ∀ j, (j ≠ 37) → _ = cw j) j (by omega)⟩) (Nat.le_of_ble_eq_true rfl) (Nat.le_of_ble_eq_true rfl)
          · skip
            have npt : ¬ (∃ k', k' ≤ (hs past).length - q ∧ nI k = nI k') := fun ⟨k', h1, h2⟩ => c40 ((lg_cmp_le _ _).mpr ((z_addle (by omega) hk (by omega)).mpr (by have h9 := (nI_eq hk (by omega)).mp h2; omega)))
            refine z_iconst (v := nI 2) C dX4_copy_63 (by decide) ?_
            refine z_goto (tgt := 84) C dX4_copy_64 (by decide) ?_
            obtain ⟨cw93, ecw93⟩ : ∃ z : Nat → va_E, z = va_up (cw) (37) (.inr (4, [.int (nI 2), .ref (ad (38)), .ref (ad (39)), .int (nI (past)), .int (nI (fut)), .ref (ad (40)), .int (dn), .ref (ad (41)), .int (nI (pat.length)), .ref (ad (42)), .int (nI (ws.length)), .ref (ad (43)), .ref (ad (44))])) := ⟨_, rfl⟩
            refine z_put (Cn := RX4) (T := TX4) (NF := 13) (ci := 4) (ty := .int) (v := .int (nI 2)) C qX4_copy_0 tyX4_ok nmX4 rfl 0 (by decide) (C.2.2.2.2.1 _ qX4_copy_1) (fun _ h9 => h9) rfl (by decide +kernel) dX4_copy_84 (37) (by omega) m1 rfl rfl (Nat.le_of_ble_eq_true rfl) ?_
            refine z_cw ecw93.symm ?_
            have hw_94 : cw93 (37) = .inr (4, [.int (nI 2), .ref (ad (38)), .ref (ad (39)), .int (nI (past)), .int (nI (fut)), .ref (ad (40)), .int (dn), .ref (ad (41)), .int (nI (pat.length)), .ref (ad (42)), .int (nI (ws.length)), .ref (ad (43)), .ref (ad (44))]) := by rw [ecw93, va_up_self]
            have hw_95 : cw93 (38) = .inl (cI, 3120, .inl (tf)) := by rw [ecw93, va_up_ne _ _ (by decide)]; exact m3
            have hw_96 : cw93 (39) = .inl (cI, 13, .inl (lf)) := by rw [ecw93, va_up_ne _ _ (by decide)]; exact m4
            have hw_97 : cw93 (40) = .inl (cI, 240, .inl (df)) := by rw [ecw93, va_up_ne _ _ (by decide)]; exact m6
            refine z_aload_n C dX4_copy_87 1 rfl ?_
            refine z_get (Cn := RX4) (T := TX4) (NF := 13) (ci := 4) (v := .int (nI 2)) C qX4_copy_0 rfl 0 (by decide) (C.2.2.2.2.1 _ qX4_copy_1) (fun _ h9 => h9) dX4_copy_88 (37) (by omega) hw_94 rfl ?_
            refine z_if_le (tgt := 96) C dX4_copy_91 (by decide) (fun c98 => ?_) (fun c98 => ?_)
            · skip
              exact absurd c98 (by decide)
            · skip
              refine z_iconst (v := nI 0) C dX4_copy_94 (by decide) ?_
              exact z_iret C hr dX4_copy_95 (⟨Or.inr (Or.inl ⟨zRM_obj hM hw_94 (fun j hj => by rw [ecw93, va_up_ne _ _ (by omega)]), ⟨u, hu, rfl⟩, q, hq, rfl, npt⟩), fun j hj => ((fun j hj => by rw [ecw93, va_up_ne _ _ (by omega)]) : ∀ j, (j ≠ 37) → _ = cw j) j (by omega)⟩) (Nat.le_of_ble_eq_true rfl) (Nat.le_of_ble_eq_true rfl)
      · skip
        exact absurd c29 (by decide)

theorem qX4_at_0 : ∀ w ∈ wsX40, w ∈ wsX4_at := by decide +kernel
theorem qX4_at_1 : Cond.fieldLink RX4 31 "PieceTextModel" "thrown" "I" ∈ wsX4_at := by decide +kernel
set_option maxHeartbeats 4000000 in
set_option maxRecDepth 100000 in
theorem c_M_at (l : Launch) (D : va_G) (cI cR cL : ClassId) (B N : Nat) (ad : Nat → Nat) (cw : Nat → va_E) (hN : 45 < N) {past fut : Nat} {hs : Nat → List Int32} {pat ws : List Int32} {th dn : Int32} (hM : zRM cI ad cw past fut hs pat ws th dn) (x : Int32) : Met l yX4_at wsX4_at ({ frames := 2, cells := 0, slots := 0, locals := 44 } : Room) (va_Pc [.ref (ad (37)), .int (x)] (zI D vwCl (zTy cI cR cL) B N ad cw)) (zQi D vwCl B N ad (fun (v : Int32) (cw' : Nat → va_E) => ((zRM cI ad cw' past fut hs pat ws (nI 1) dn ∧ ¬ (∃ q, q < (hs past).length ∧ x = nI q)) ∨ (∃ q, q < (hs past).length ∧ x = nI q ∧ (hs past)[q]? = some v ∧ zRM cI ad cw' past fut hs pat ws (nI 0) dn)) ∧ ∀ j, (j < 37 ∨ 45 ≤ j) → cw' j = cw j)) 0 0 (zA B) := by
  obtain ⟨m1, ⟨m2, tf, lf, m3, m4, m5⟩, ⟨df, m6⟩, ⟨m7, pf, m8, m9⟩, ⟨m10, wf, m11, m12⟩, ⟨bf, m13⟩, zf, m14⟩ := id hM
  obtain ⟨k1, k2, k3⟩ := m5 past (by omega)
  refine z_ofW (cc := cX4_at) (maxL := 2) (ret := (some .int)) (by decide) rfl (Nat.le_of_ble_eq_true rfl) ?_
  intro p e s m args below meth c C hr hnm
  refine z_lv (lv' := [(0, .ref (ad (37))), (1, .int (x))]) [0, 1] rfl ?_
  refine z_aload_n C dX4_at_0 0 rfl ?_
  refine z_iload_n C dX4_at_1 1 rfl ?_
  refine z_i2l C dX4_at_2 rfl ?_
  refine z_lconst (v := 0) C dX4_at_3 rfl ?_
  refine z_aload_n C dX4_at_4 0 rfl ?_
  refine z_calli (z_runV (As := []) (rest := [.long (0), .long (x).toInt64, .ref (ad (37))]) C (c_M_length l D cI cR cL B N ad cw hN m1 m4 (by omega) (k2)) (cwV 0 C.2.2.2.2.1 gX4_at_X4_length rfl rfl rfl (by decide +kernel) ⟨Nat.le_of_ble_eq_true rfl, Nat.le_of_ble_eq_true rfl⟩) (by omega) m1 rfl rfl rfl rfl (Nat.le_of_ble_eq_true rfl) dX4_at_5 ⟨Nat.le_of_ble_eq_true rfl, Nat.le_of_ble_eq_true rfl⟩) (fun r1 cw2 hp3 => ?_)
  refine z_cw hp3.2 ?_
  refine z_top hp3.1 ?_
  refine z_iconst (v := nI 1) C dX4_at_8 (by decide) ?_
  refine z_isub C dX4_at_9 ?_
  refine z_i2l C dX4_at_10 rfl ?_
  refine z_calli (z_runS (As := [.long (x.toInt64), .long (0), .long ((nI ((hs past).length) - nI 1).toInt64)]) (rest := [.ref (ad (37))]) C (c_M_isIn l D cI cR cL B N ad cw (x.toInt64) (0) ((nI ((hs past).length) - nI 1).toInt64)) (va_cwS 3 C.2.2.2.2.1 gX4_at_X4_isIn rfl rfl rfl (by decide +kernel) ⟨Nat.le_of_ble_eq_true rfl, Nat.le_of_ble_eq_true rfl⟩) rfl rfl (Nat.le_of_ble_eq_true rfl) dX4_at_11 ⟨Nat.le_of_ble_eq_true rfl, Nat.le_of_ble_eq_true rfl⟩) (fun r4 cw5 hp6 => ?_)
  refine z_cw hp6.2 ?_
  refine z_if_eq (tgt := 21) C dX4_at_14 (by decide) (fun c7 => ?_) (fun c7 => ?_)
  · skip
    have nhin : ¬ _ := fun h8 => (by rcases hp6.1 with h9 | h9; exact absurd (h9.1.symm.trans c7) (by decide); exact h9.2 ((z_inm (x := x) (n := (hs past).length) (by omega)).mpr h8))
    refine z_iconst (v := nI 1) C dX4_at_21 (by decide) ?_
    obtain ⟨cw8, ecw8⟩ : ∃ z : Nat → va_E, z = va_up (cw) (37) (.inr (4, [.int (nI 1), .ref (ad (38)), .ref (ad (39)), .int (nI (past)), .int (nI (fut)), .ref (ad (40)), .int (dn), .ref (ad (41)), .int (nI (pat.length)), .ref (ad (42)), .int (nI (ws.length)), .ref (ad (43)), .ref (ad (44))])) := ⟨_, rfl⟩
    refine z_put (Cn := RX4) (T := TX4) (NF := 13) (ci := 4) (ty := .int) (v := .int (nI 1)) C qX4_at_0 tyX4_ok nmX4 rfl 0 (by decide) (C.2.2.2.2.1 _ qX4_at_1) (fun _ h9 => h9) rfl (by decide +kernel) dX4_at_22 (37) (by omega) m1 rfl rfl (Nat.le_of_ble_eq_true rfl) ?_
    refine z_cw ecw8.symm ?_
    have hw_9 : cw8 (37) = .inr (4, [.int (nI 1), .ref (ad (38)), .ref (ad (39)), .int (nI (past)), .int (nI (fut)), .ref (ad (40)), .int (dn), .ref (ad (41)), .int (nI (pat.length)), .ref (ad (42)), .int (nI (ws.length)), .ref (ad (43)), .ref (ad (44))]) := by rw [ecw8, va_up_self]
    have hw_10 : cw8 (38) = .inl (cI, 3120, .inl (tf)) := by rw [ecw8, va_up_ne _ _ (by decide)]; exact m3
    have hw_11 : cw8 (39) = .inl (cI, 13, .inl (lf)) := by rw [ecw8, va_up_ne _ _ (by decide)]; exact m4
    refine z_aload_n C dX4_at_25 0 rfl ?_
    refine z_get (Cn := RX4) (T := TX4) (NF := 13) (ci := 4) (v := .int (nI 1)) C qX4_at_0 rfl 0 (by decide) (C.2.2.2.2.1 _ qX4_at_1) (fun _ h9 => h9) dX4_at_26 (37) (by omega) hw_9 rfl ?_
    refine z_if_le (tgt := 36) C dX4_at_29 (by decide) (fun c12 => ?_) (fun c12 => ?_)
    · skip
      exact absurd c12 (by decide)
    · skip
      refine z_iconst (v := nI 0) C dX4_at_32 (by decide) ?_
      refine z_goto (tgt := 41) C dX4_at_33 (by decide) ?_
      exact z_iret C hr dX4_at_41 (⟨Or.inl ⟨zRM_obj hM hw_9 (fun j hj => by rw [ecw8, va_up_ne _ _ (by omega)]), nhin⟩, fun j hj => ((fun j hj => by rw [ecw8, va_up_ne _ _ (by omega)]) : ∀ j, (j ≠ 37) → _ = cw j) j (by omega)⟩) (Nat.le_of_ble_eq_true rfl) (Nat.le_of_ble_eq_true rfl)
  · skip
    have hin := (z_inm (x := x) (n := (hs past).length) (by omega)).mp (by rcases hp6.1 with h9 | h9; exact h9.2; exact absurd h9.1 c7)
    obtain ⟨q, hq, rfl⟩ := hin
    refine z_iconst (v := nI 0) C dX4_at_17 (by decide) ?_
    refine z_goto (tgt := 22) C dX4_at_18 (by decide) ?_
    obtain ⟨cw13, ecw13⟩ : ∃ z : Nat → va_E, z = va_up (cw) (37) (.inr (4, [.int (nI 0), .ref (ad (38)), .ref (ad (39)), .int (nI (past)), .int (nI (fut)), .ref (ad (40)), .int (dn), .ref (ad (41)), .int (nI (pat.length)), .ref (ad (42)), .int (nI (ws.length)), .ref (ad (43)), .ref (ad (44))])) := ⟨_, rfl⟩
    refine z_put (Cn := RX4) (T := TX4) (NF := 13) (ci := 4) (ty := .int) (v := .int (nI 0)) C qX4_at_0 tyX4_ok nmX4 rfl 0 (by decide) (C.2.2.2.2.1 _ qX4_at_1) (fun _ h9 => h9) rfl (by decide +kernel) dX4_at_22 (37) (by omega) m1 rfl rfl (Nat.le_of_ble_eq_true rfl) ?_
    refine z_cw ecw13.symm ?_
    have hw_14 : cw13 (37) = .inr (4, [.int (nI 0), .ref (ad (38)), .ref (ad (39)), .int (nI (past)), .int (nI (fut)), .ref (ad (40)), .int (dn), .ref (ad (41)), .int (nI (pat.length)), .ref (ad (42)), .int (nI (ws.length)), .ref (ad (43)), .ref (ad (44))]) := by rw [ecw13, va_up_self]
    have hw_15 : cw13 (38) = .inl (cI, 3120, .inl (tf)) := by rw [ecw13, va_up_ne _ _ (by decide)]; exact m3
    have hw_16 : cw13 (39) = .inl (cI, 13, .inl (lf)) := by rw [ecw13, va_up_ne _ _ (by decide)]; exact m4
    refine z_aload_n C dX4_at_25 0 rfl ?_
    refine z_get (Cn := RX4) (T := TX4) (NF := 13) (ci := 4) (v := .int (nI 0)) C qX4_at_0 rfl 0 (by decide) (C.2.2.2.2.1 _ qX4_at_1) (fun _ h9 => h9) dX4_at_26 (37) (by omega) hw_14 rfl ?_
    refine z_if_le (tgt := 36) C dX4_at_29 (by decide) (fun c17 => ?_) (fun c17 => absurd (show nI 0 ≤ 0 by decide) c17)
    refine z_aload_n C dX4_at_36 0 rfl ?_
    refine z_iload_n C dX4_at_37 1 rfl ?_
    refine z_calli (z_runV (As := [.int (nI (q))]) (rest := []) C (c_M_charAt l D cI cR cL B N ad cw13 hN hw_14 hw_15 (i := q) (by omega)) (cwV 1 C.2.2.2.2.1 gX4_at_X4_charAt rfl rfl rfl (by decide +kernel) ⟨Nat.le_of_ble_eq_true rfl, Nat.le_of_ble_eq_true rfl⟩) (by omega) hw_14 rfl rfl rfl rfl (Nat.le_of_ble_eq_true rfl) dX4_at_38 ⟨Nat.le_of_ble_eq_true rfl, Nat.le_of_ble_eq_true rfl⟩) (fun r18 cw19 hp20 => ?_)
    refine z_cw hp20.2 ?_
    refine z_top hp20.1 ?_
    exact z_iret C hr dX4_at_41 (⟨Or.inr ⟨q, hq, rfl, k3 q hq, zRM_obj hM hw_14 (fun j hj => by rw [ecw13, va_up_ne _ _ (by omega)])⟩, fun j hj => ((fun j hj => by rw [ecw13, va_up_ne _ _ (by omega)]) : ∀ j, (j ≠ 37) → _ = cw j) j (by omega)⟩) (Nat.le_of_ble_eq_true rfl) (Nat.le_of_ble_eq_true rfl)

theorem qX4_word_0 : ∀ w ∈ wsX40, w ∈ wsX4_word := by decide +kernel
theorem qX4_word_1 : Cond.fieldLink RX4 76 "PieceTextModel" "wordCount" "I" ∈ wsX4_word := by decide +kernel
theorem qX4_word_2 : Cond.fieldLink RX4 31 "PieceTextModel" "thrown" "I" ∈ wsX4_word := by decide +kernel
theorem qX4_word_3 : Cond.fieldLink RX4 22 "PieceTextModel" "words" "[I" ∈ wsX4_word := by decide +kernel
set_option maxHeartbeats 4000000 in
set_option maxRecDepth 100000 in
theorem c_M_word (l : Launch) (D : va_G) (cI cR cL : ClassId) (B N : Nat) (ad : Nat → Nat) (cw : Nat → va_E) (hN : 45 < N) {past fut : Nat} {hs : Nat → List Int32} {pat ws : List Int32} {th dn : Int32} (hM : zRM cI ad cw past fut hs pat ws th dn) (x : Int32) : Met l yX4_word wsX4_word ({ frames := 2, cells := 0, slots := 0, locals := 44 } : Room) (va_Pc [.ref (ad (37)), .int (x)] (zI D vwCl (zTy cI cR cL) B N ad cw)) (zQi D vwCl B N ad (fun (v : Int32) (cw' : Nat → va_E) => ((zRM cI ad cw' past fut hs pat ws (nI 1) dn ∧ ¬ (∃ q, q < ws.length ∧ x = nI q)) ∨ (∃ q, q < ws.length ∧ x = nI q ∧ ws[q]? = some v ∧ zRM cI ad cw' past fut hs pat ws (nI 0) dn)) ∧ ∀ j, (j < 37 ∨ 45 ≤ j) → cw' j = cw j)) 0 0 (zA B) := by
  obtain ⟨m1, ⟨m2, tf, lf, m3, m4, m5⟩, ⟨df, m6⟩, ⟨m7, pf, m8, m9⟩, ⟨m10, wf, m11, m12⟩, ⟨bf, m13⟩, zf, m14⟩ := id hM
  obtain ⟨k1, k2, k3⟩ := m5 past (by omega)
  refine z_ofW (cc := cX4_word) (maxL := 2) (ret := (some .int)) (by decide) rfl (Nat.le_of_ble_eq_true rfl) ?_
  intro p e s m args below meth c C hr hnm
  refine z_lv (lv' := [(0, .ref (ad (37))), (1, .int (x))]) [0, 1] rfl ?_
  refine z_aload_n C dX4_word_0 0 rfl ?_
  refine z_iload_n C dX4_word_1 1 rfl ?_
  refine z_i2l C dX4_word_2 rfl ?_
  refine z_lconst (v := 0) C dX4_word_3 rfl ?_
  refine z_aload_n C dX4_word_4 0 rfl ?_
  refine z_get (Cn := RX4) (T := TX4) (NF := 13) (ci := 4) (v := .int (nI (ws.length))) C qX4_word_0 rfl 10 (by decide) (C.2.2.2.2.1 _ qX4_word_1) (fun _ h9 => h9) dX4_word_5 (37) (by omega) m1 rfl ?_
  refine z_iconst (v := nI 1) C dX4_word_8 (by decide) ?_
  refine z_isub C dX4_word_9 ?_
  refine z_i2l C dX4_word_10 rfl ?_
  refine z_calli (z_runS (As := [.long (x.toInt64), .long (0), .long ((nI (ws.length) - nI 1).toInt64)]) (rest := [.ref (ad (37))]) C (c_M_isIn l D cI cR cL B N ad cw (x.toInt64) (0) ((nI (ws.length) - nI 1).toInt64)) (va_cwS 3 C.2.2.2.2.1 gX4_word_X4_isIn rfl rfl rfl (by decide +kernel) ⟨Nat.le_of_ble_eq_true rfl, Nat.le_of_ble_eq_true rfl⟩) rfl rfl (Nat.le_of_ble_eq_true rfl) dX4_word_11 ⟨Nat.le_of_ble_eq_true rfl, Nat.le_of_ble_eq_true rfl⟩) (fun r1 cw2 hp3 => ?_)
  refine z_cw hp3.2 ?_
  refine z_if_eq (tgt := 21) C dX4_word_14 (by decide) (fun c4 => ?_) (fun c4 => ?_)
  · skip
    have nhin : ¬ _ := fun h8 => (by rcases hp3.1 with h9 | h9; exact absurd (h9.1.symm.trans c4) (by decide); exact h9.2 ((z_inm (x := x) (n := ws.length) (by omega)).mpr h8))
    refine z_iconst (v := nI 1) C dX4_word_21 (by decide) ?_
    obtain ⟨cw5, ecw5⟩ : ∃ z : Nat → va_E, z = va_up (cw) (37) (.inr (4, [.int (nI 1), .ref (ad (38)), .ref (ad (39)), .int (nI (past)), .int (nI (fut)), .ref (ad (40)), .int (dn), .ref (ad (41)), .int (nI (pat.length)), .ref (ad (42)), .int (nI (ws.length)), .ref (ad (43)), .ref (ad (44))])) := ⟨_, rfl⟩
    refine z_put (Cn := RX4) (T := TX4) (NF := 13) (ci := 4) (ty := .int) (v := .int (nI 1)) C qX4_word_0 tyX4_ok nmX4 rfl 0 (by decide) (C.2.2.2.2.1 _ qX4_word_2) (fun _ h9 => h9) rfl (by decide +kernel) dX4_word_22 (37) (by omega) m1 rfl rfl (Nat.le_of_ble_eq_true rfl) ?_
    refine z_cw ecw5.symm ?_
    have hw_6 : cw5 (37) = .inr (4, [.int (nI 1), .ref (ad (38)), .ref (ad (39)), .int (nI (past)), .int (nI (fut)), .ref (ad (40)), .int (dn), .ref (ad (41)), .int (nI (pat.length)), .ref (ad (42)), .int (nI (ws.length)), .ref (ad (43)), .ref (ad (44))]) := by rw [ecw5, va_up_self]
    have hw_7 : cw5 (42) = .inl (cI, 240, .inl (wf)) := by rw [ecw5, va_up_ne _ _ (by decide)]; exact m11
    refine z_aload_n C dX4_word_25 0 rfl ?_
    refine z_get (Cn := RX4) (T := TX4) (NF := 13) (ci := 4) (v := .int (nI 1)) C qX4_word_0 rfl 0 (by decide) (C.2.2.2.2.1 _ qX4_word_2) (fun _ h9 => h9) dX4_word_26 (37) (by omega) hw_6 rfl ?_
    refine z_if_le (tgt := 36) C dX4_word_29 (by decide) (fun c8 => ?_) (fun c8 => ?_)
    · skip
      exact absurd c8 (by decide)
    · skip
      refine z_iconst (v := nI 0) C dX4_word_32 (by decide) ?_
      refine z_goto (tgt := 42) C dX4_word_33 (by decide) ?_
      exact z_iret C hr dX4_word_42 (⟨Or.inl ⟨zRM_obj hM hw_6 (fun j hj => by rw [ecw5, va_up_ne _ _ (by omega)]), nhin⟩, fun j hj => ((fun j hj => by rw [ecw5, va_up_ne _ _ (by omega)]) : ∀ j, (j ≠ 37) → _ = cw j) j (by omega)⟩) (Nat.le_of_ble_eq_true rfl) (Nat.le_of_ble_eq_true rfl)
  · skip
    have hin := (z_inm (x := x) (n := ws.length) (by omega)).mp (by rcases hp3.1 with h9 | h9; exact h9.2; exact absurd h9.1 c4)
    obtain ⟨q, hq, rfl⟩ := hin
    refine z_iconst (v := nI 0) C dX4_word_17 (by decide) ?_
    refine z_goto (tgt := 22) C dX4_word_18 (by decide) ?_
    obtain ⟨cw9, ecw9⟩ : ∃ z : Nat → va_E, z = va_up (cw) (37) (.inr (4, [.int (nI 0), .ref (ad (38)), .ref (ad (39)), .int (nI (past)), .int (nI (fut)), .ref (ad (40)), .int (dn), .ref (ad (41)), .int (nI (pat.length)), .ref (ad (42)), .int (nI (ws.length)), .ref (ad (43)), .ref (ad (44))])) := ⟨_, rfl⟩
    refine z_put (Cn := RX4) (T := TX4) (NF := 13) (ci := 4) (ty := .int) (v := .int (nI 0)) C qX4_word_0 tyX4_ok nmX4 rfl 0 (by decide) (C.2.2.2.2.1 _ qX4_word_2) (fun _ h9 => h9) rfl (by decide +kernel) dX4_word_22 (37) (by omega) m1 rfl rfl (Nat.le_of_ble_eq_true rfl) ?_
    refine z_cw ecw9.symm ?_
    have hw_10 : cw9 (37) = .inr (4, [.int (nI 0), .ref (ad (38)), .ref (ad (39)), .int (nI (past)), .int (nI (fut)), .ref (ad (40)), .int (dn), .ref (ad (41)), .int (nI (pat.length)), .ref (ad (42)), .int (nI (ws.length)), .ref (ad (43)), .ref (ad (44))]) := by rw [ecw9, va_up_self]
    have hw_11 : cw9 (42) = .inl (cI, 240, .inl (wf)) := by rw [ecw9, va_up_ne _ _ (by decide)]; exact m11
    refine z_aload_n C dX4_word_25 0 rfl ?_
    refine z_get (Cn := RX4) (T := TX4) (NF := 13) (ci := 4) (v := .int (nI 0)) C qX4_word_0 rfl 0 (by decide) (C.2.2.2.2.1 _ qX4_word_2) (fun _ h9 => h9) dX4_word_26 (37) (by omega) hw_10 rfl ?_
    refine z_if_le (tgt := 36) C dX4_word_29 (by decide) (fun c12 => ?_) (fun c12 => absurd (show nI 0 ≤ 0 by decide) c12)
    refine z_aload_n C dX4_word_36 0 rfl ?_
    refine z_get (Cn := RX4) (T := TX4) (NF := 13) (ci := 4) (v := .ref (ad (42))) C qX4_word_0 rfl 9 (by decide) (C.2.2.2.2.1 _ qX4_word_3) (fun _ h9 => h9) dX4_word_37 (37) (by omega) hw_10 rfl ?_
    refine z_iload_n C dX4_word_40 1 rfl ?_
    refine z_iald C 0 rfl dX4_word_41 (42) (by omega) hw_11 (q) (rfl) (by omega) (by decide) ?_
    exact z_iret C hr dX4_word_42 (⟨Or.inr ⟨q, hq, rfl, m12 q hq, zRM_obj hM hw_10 (fun j hj => by rw [ecw9, va_up_ne _ _ (by omega)])⟩, fun j hj => ((fun j hj => by rw [ecw9, va_up_ne _ _ (by omega)]) : ∀ j, (j ≠ 37) → _ = cw j) j (by omega)⟩) (Nat.le_of_ble_eq_true rfl) (Nat.le_of_ble_eq_true rfl)

theorem qX4_poke_0 : ∀ w ∈ wsX40, w ∈ wsX4_poke := by decide +kernel
theorem qX4_poke_1 : Cond.fieldLink RX4 76 "PieceTextModel" "wordCount" "I" ∈ wsX4_poke := by decide +kernel
theorem qX4_poke_2 : Cond.fieldLink RX4 31 "PieceTextModel" "thrown" "I" ∈ wsX4_poke := by decide +kernel
theorem qX4_poke_3 : Cond.fieldLink RX4 22 "PieceTextModel" "words" "[I" ∈ wsX4_poke := by decide +kernel
set_option maxHeartbeats 4000000 in
set_option maxRecDepth 100000 in
theorem c_M_poke (l : Launch) (D : va_G) (cI cR cL : ClassId) (B N : Nat) (ad : Nat → Nat) (cw : Nat → va_E) (hN : 45 < N) {past fut : Nat} {hs : Nat → List Int32} {pat ws : List Int32} {th dn : Int32} (hM : zRM cI ad cw past fut hs pat ws th dn) (x y : Int32) : Met l yX4_poke wsX4_poke ({ frames := 2, cells := 0, slots := 0, locals := 44 } : Room) (va_Pc [.ref (ad (37)), .int (x), .int (y)] (zI D vwCl (zTy cI cR cL) B N ad cw)) (zQi D vwCl B N ad (fun (v : Int32) (cw' : Nat → va_E) => ((zRM cI ad cw' past fut hs pat ws (nI 1) dn ∧ ¬ (∃ q, q < ws.length ∧ x = nI q)) ∨ (∃ q, q < ws.length ∧ x = nI q ∧ ws[q]? = some v ∧ zRM cI ad cw' past fut hs pat (ws.set q y) (nI 0) dn)) ∧ ∀ j, (j < 37 ∨ 45 ≤ j) → cw' j = cw j)) 0 0 (zA B) := by
  obtain ⟨m1, ⟨m2, tf, lf, m3, m4, m5⟩, ⟨df, m6⟩, ⟨m7, pf, m8, m9⟩, ⟨m10, wf, m11, m12⟩, ⟨bf, m13⟩, zf, m14⟩ := id hM
  obtain ⟨k1, k2, k3⟩ := m5 past (by omega)
  refine z_ofW (cc := cX4_poke) (maxL := 4) (ret := (some .int)) (by decide) rfl (Nat.le_of_ble_eq_true rfl) ?_
  intro p e s m args below meth c C hr hnm
  refine z_lv (lv' := [(0, .ref (ad (37))), (1, .int (x)), (2, .int (y))]) [0, 1, 2] rfl ?_
  refine z_aload_n C dX4_poke_0 0 rfl ?_
  refine z_iload_n C dX4_poke_1 1 rfl ?_
  refine z_i2l C dX4_poke_2 rfl ?_
  refine z_lconst (v := 0) C dX4_poke_3 rfl ?_
  refine z_aload_n C dX4_poke_4 0 rfl ?_
  refine z_get (Cn := RX4) (T := TX4) (NF := 13) (ci := 4) (v := .int (nI (ws.length))) C qX4_poke_0 rfl 10 (by decide) (C.2.2.2.2.1 _ qX4_poke_1) (fun _ h9 => h9) dX4_poke_5 (37) (by omega) m1 rfl ?_
  refine z_iconst (v := nI 1) C dX4_poke_8 (by decide) ?_
  refine z_isub C dX4_poke_9 ?_
  refine z_i2l C dX4_poke_10 rfl ?_
  refine z_calli (z_runS (As := [.long (x.toInt64), .long (0), .long ((nI (ws.length) - nI 1).toInt64)]) (rest := [.ref (ad (37))]) C (c_M_isIn l D cI cR cL B N ad cw (x.toInt64) (0) ((nI (ws.length) - nI 1).toInt64)) (va_cwS 3 C.2.2.2.2.1 gX4_poke_X4_isIn rfl rfl rfl (by decide +kernel) ⟨Nat.le_of_ble_eq_true rfl, Nat.le_of_ble_eq_true rfl⟩) rfl rfl (Nat.le_of_ble_eq_true rfl) dX4_poke_11 ⟨Nat.le_of_ble_eq_true rfl, Nat.le_of_ble_eq_true rfl⟩) (fun r1 cw2 hp3 => ?_)
  refine z_cw hp3.2 ?_
  refine z_if_eq (tgt := 21) C dX4_poke_14 (by decide) (fun c4 => ?_) (fun c4 => ?_)
  · skip
    have nhin : ¬ _ := fun h8 => (by rcases hp3.1 with h9 | h9; exact absurd (h9.1.symm.trans c4) (by decide); exact h9.2 ((z_inm (x := x) (n := ws.length) (by omega)).mpr h8))
    refine z_iconst (v := nI 1) C dX4_poke_21 (by decide) ?_
    obtain ⟨cw5, ecw5⟩ : ∃ z : Nat → va_E, z = va_up (cw) (37) (.inr (4, [.int (nI 1), .ref (ad (38)), .ref (ad (39)), .int (nI (past)), .int (nI (fut)), .ref (ad (40)), .int (dn), .ref (ad (41)), .int (nI (pat.length)), .ref (ad (42)), .int (nI (ws.length)), .ref (ad (43)), .ref (ad (44))])) := ⟨_, rfl⟩
    refine z_put (Cn := RX4) (T := TX4) (NF := 13) (ci := 4) (ty := .int) (v := .int (nI 1)) C qX4_poke_0 tyX4_ok nmX4 rfl 0 (by decide) (C.2.2.2.2.1 _ qX4_poke_2) (fun _ h9 => h9) rfl (by decide +kernel) dX4_poke_22 (37) (by omega) m1 rfl rfl (Nat.le_of_ble_eq_true rfl) ?_
    refine z_cw ecw5.symm ?_
    have hw_6 : cw5 (37) = .inr (4, [.int (nI 1), .ref (ad (38)), .ref (ad (39)), .int (nI (past)), .int (nI (fut)), .ref (ad (40)), .int (dn), .ref (ad (41)), .int (nI (pat.length)), .ref (ad (42)), .int (nI (ws.length)), .ref (ad (43)), .ref (ad (44))]) := by rw [ecw5, va_up_self]
    have hw_7 : cw5 (41) = .inl (cI, 16, .inl (pf)) := by rw [ecw5, va_up_ne _ _ (by decide)]; exact m8
    have hw_8 : cw5 (42) = .inl (cI, 240, .inl (wf)) := by rw [ecw5, va_up_ne _ _ (by decide)]; exact m11
    refine z_aload_n C dX4_poke_25 0 rfl ?_
    refine z_get (Cn := RX4) (T := TX4) (NF := 13) (ci := 4) (v := .int (nI 1)) C qX4_poke_0 rfl 0 (by decide) (C.2.2.2.2.1 _ qX4_poke_2) (fun _ h9 => h9) dX4_poke_26 (37) (by omega) hw_6 rfl ?_
    refine z_if_le (tgt := 34) C dX4_poke_29 (by decide) (fun c9 => ?_) (fun c9 => ?_)
    · skip
      exact absurd c9 (by decide)
    · skip
      refine z_iconst (v := nI 0) C dX4_poke_32 (by decide) ?_
      exact z_iret C hr dX4_poke_33 (⟨Or.inl ⟨zRM_obj hM hw_6 (fun j hj => by rw [ecw5, va_up_ne _ _ (by omega)]), nhin⟩, fun j hj => ((fun j hj => by rw [ecw5, va_up_ne _ _ (by omega)]) : ∀ j, (j ≠ 37) → _ = cw j) j (by omega)⟩) (Nat.le_of_ble_eq_true rfl) (Nat.le_of_ble_eq_true rfl)
  · skip
    have hin := (z_inm (x := x) (n := ws.length) (by omega)).mp (by rcases hp3.1 with h9 | h9; exact h9.2; exact absurd h9.1 c4)
    obtain ⟨q, hq, rfl⟩ := hin
    refine z_iconst (v := nI 0) C dX4_poke_17 (by decide) ?_
    refine z_goto (tgt := 22) C dX4_poke_18 (by decide) ?_
    obtain ⟨cw10, ecw10⟩ : ∃ z : Nat → va_E, z = va_up (cw) (37) (.inr (4, [.int (nI 0), .ref (ad (38)), .ref (ad (39)), .int (nI (past)), .int (nI (fut)), .ref (ad (40)), .int (dn), .ref (ad (41)), .int (nI (pat.length)), .ref (ad (42)), .int (nI (ws.length)), .ref (ad (43)), .ref (ad (44))])) := ⟨_, rfl⟩
    refine z_put (Cn := RX4) (T := TX4) (NF := 13) (ci := 4) (ty := .int) (v := .int (nI 0)) C qX4_poke_0 tyX4_ok nmX4 rfl 0 (by decide) (C.2.2.2.2.1 _ qX4_poke_2) (fun _ h9 => h9) rfl (by decide +kernel) dX4_poke_22 (37) (by omega) m1 rfl rfl (Nat.le_of_ble_eq_true rfl) ?_
    refine z_cw ecw10.symm ?_
    have hw_11 : cw10 (37) = .inr (4, [.int (nI 0), .ref (ad (38)), .ref (ad (39)), .int (nI (past)), .int (nI (fut)), .ref (ad (40)), .int (dn), .ref (ad (41)), .int (nI (pat.length)), .ref (ad (42)), .int (nI (ws.length)), .ref (ad (43)), .ref (ad (44))]) := by rw [ecw10, va_up_self]
    have hw_12 : cw10 (41) = .inl (cI, 16, .inl (pf)) := by rw [ecw10, va_up_ne _ _ (by decide)]; exact m8
    have hw_13 : cw10 (42) = .inl (cI, 240, .inl (wf)) := by rw [ecw10, va_up_ne _ _ (by decide)]; exact m11
    refine z_aload_n C dX4_poke_25 0 rfl ?_
    refine z_get (Cn := RX4) (T := TX4) (NF := 13) (ci := 4) (v := .int (nI 0)) C qX4_poke_0 rfl 0 (by decide) (C.2.2.2.2.1 _ qX4_poke_2) (fun _ h9 => h9) dX4_poke_26 (37) (by omega) hw_11 rfl ?_
    refine z_if_le (tgt := 34) C dX4_poke_29 (by decide) (fun c14 => ?_) (fun c14 => absurd (show nI 0 ≤ 0 by decide) c14)
    refine z_aload_n C dX4_poke_34 0 rfl ?_
    refine z_get (Cn := RX4) (T := TX4) (NF := 13) (ci := 4) (v := .ref (ad (42))) C qX4_poke_0 rfl 9 (by decide) (C.2.2.2.2.1 _ qX4_poke_3) (fun _ h9 => h9) dX4_poke_35 (37) (by omega) hw_11 rfl ?_
    refine z_iload_n C dX4_poke_38 1 rfl ?_
    refine z_iald C 0 rfl dX4_poke_39 (42) (by omega) hw_13 (q) (rfl) (by omega) (by decide) ?_
    refine z_istore_n (lv' := [(3, .int (wf (q))), (0, .ref (ad (37))), (1, .int (nI q)), (2, .int (y))]) C dX4_poke_40 rfl (by decide) rfl ?_
    refine z_aload_n C dX4_poke_41 1 rfl ?_
    refine z_get (Cn := RX4) (T := TX4) (NF := 13) (ci := 4) (v := .ref (ad (42))) C qX4_poke_0 rfl 9 (by decide) (C.2.2.2.2.1 _ qX4_poke_3) (fun _ h9 => h9) dX4_poke_42 (37) (by omega) hw_11 rfl ?_
    refine z_iload_n C dX4_poke_45 2 rfl ?_
    refine z_iload_n C dX4_poke_46 3 rfl ?_
    obtain ⟨cw15, ecw15⟩ : ∃ z : Nat → va_E, z = va_up (cw10) (42) (.inl (cI, 240, .inl (upd (wf) (q) ((y))))) := ⟨_, rfl⟩
    refine z_iast C 0 rfl dX4_poke_47 (42) (by omega) hw_13 (q) (rfl) (by omega) (by decide) ?_
    refine z_cw ecw15.symm ?_
    have hw_16 : cw15 (37) = .inr (4, [.int (nI 0), .ref (ad (38)), .ref (ad (39)), .int (nI (past)), .int (nI (fut)), .ref (ad (40)), .int (dn), .ref (ad (41)), .int (nI (pat.length)), .ref (ad (42)), .int (nI (ws.length)), .ref (ad (43)), .ref (ad (44))]) := by rw [ecw15, va_up_ne _ _ (by decide)]; exact hw_11
    have hw_17 : cw15 (41) = .inl (cI, 16, .inl (pf)) := by rw [ecw15, va_up_ne _ _ (by decide)]; exact hw_12
    have hw_18 : cw15 (42) = .inl (cI, 240, .inl (upd (wf) (q) ((y)))) := by rw [ecw15, va_up_self]
    refine z_iload_n C dX4_poke_48 0 rfl ?_
    exact z_iret C hr dX4_poke_49 (⟨Or.inr ⟨q, hq, rfl, m12 q hq, zRM_pw hM (by rw [List.length_set]; exact hw_16) ⟨m7, pf, hw_17, m9⟩ ⟨by rw [List.length_set]; exact m10, _, hw_18, zIs_set m12 q y⟩ (fun j hj => ((fun j hj => by rw [ecw15, va_up_ne _ _ (by omega)]; rw [ecw10, va_up_ne _ _ (by omega)]) : ∀ j, (j ≠ 37 ∧ j ≠ 41 ∧ j ≠ 42) → _ = cw j) j hj)⟩, fun j hj => ((fun j hj => by rw [ecw15, va_up_ne _ _ (by omega)]; rw [ecw10, va_up_ne _ _ (by omega)]) : ∀ j, (j ≠ 37 ∧ j ≠ 42) → _ = cw j) j (by omega)⟩) (Nat.le_of_ble_eq_true rfl) (Nat.le_of_ble_eq_true rfl)

theorem qX4_undo_0 : ∀ w ∈ wsX40, w ∈ wsX4_undo := by decide +kernel
theorem qX4_undo_1 : Cond.fieldLink RX4 35 "PieceTextModel" "past" "I" ∈ wsX4_undo := by decide +kernel
theorem qX4_undo_2 : Cond.fieldLink RX4 31 "PieceTextModel" "thrown" "I" ∈ wsX4_undo := by decide +kernel
theorem qX4_undo_3 : Cond.fieldLink RX4 45 "PieceTextModel" "future" "I" ∈ wsX4_undo := by decide +kernel
set_option maxHeartbeats 4000000 in
set_option maxRecDepth 100000 in
theorem c_M_undo (l : Launch) (D : va_G) (cI cR cL : ClassId) (B N : Nat) (ad : Nat → Nat) (cw : Nat → va_E) (hN : 45 < N) {past fut : Nat} {hs : Nat → List Int32} {pat ws : List Int32} {th dn : Int32} (hM : zRM cI ad cw past fut hs pat ws th dn) : Met l yX4_undo wsX4_undo ({ frames := 2, cells := 0, slots := 0, locals := 44 } : Room) (va_Pc [.ref (ad (37))] (zI D vwCl (zTy cI cR cL) B N ad cw)) (zQi D vwCl B N ad (fun (v : Int32) (cw' : Nat → va_E) => ((zRM cI ad cw' past fut hs pat ws (nI 1) dn ∧ past = 0) ∨ (∃ pv, past = pv + 1 ∧ v = nI (hs pv).length ∧ zRM cI ad cw' pv (fut + 1) hs pat ws (nI 0) dn)) ∧ ∀ j, (j < 37 ∨ 45 ≤ j) → cw' j = cw j)) 0 0 (zA B) := by
  obtain ⟨m1, ⟨m2, tf, lf, m3, m4, m5⟩, ⟨df, m6⟩, ⟨m7, pf, m8, m9⟩, ⟨m10, wf, m11, m12⟩, ⟨bf, m13⟩, zf, m14⟩ := id hM
  obtain ⟨k1, k2, k3⟩ := m5 past (by omega)
  refine z_ofW (cc := cX4_undo) (maxL := 1) (ret := (some .int)) (by decide) rfl (Nat.le_of_ble_eq_true rfl) ?_
  intro p e s m args below meth c C hr hnm
  refine z_lv (lv' := [(0, .ref (ad (37)))]) [0] rfl ?_
  refine z_aload_n C dX4_undo_0 0 rfl ?_
  refine z_aload_n C dX4_undo_1 0 rfl ?_
  refine z_get (Cn := RX4) (T := TX4) (NF := 13) (ci := 4) (v := .int (nI (past))) C qX4_undo_0 rfl 3 (by decide) (C.2.2.2.2.1 _ qX4_undo_1) (fun _ h9 => h9) dX4_undo_2 (37) (by omega) m1 rfl ?_
  refine z_if_ne (tgt := 12) C dX4_undo_5 (by decide) (fun c1 => ?_) (fun c1 => ?_)
  · skip
    obtain ⟨pv, rfl⟩ : ∃ z, past = z + 1 := Nat.exists_eq_succ_of_ne_zero (fun h9 => c1 (by rw [h9]; decide))
    refine z_iconst (v := nI 0) C dX4_undo_12 (by decide) ?_
    obtain ⟨cw2, ecw2⟩ : ∃ z : Nat → va_E, z = va_up (cw) (37) (.inr (4, [.int (nI 0), .ref (ad (38)), .ref (ad (39)), .int (nI (pv + 1)), .int (nI (fut)), .ref (ad (40)), .int (dn), .ref (ad (41)), .int (nI (pat.length)), .ref (ad (42)), .int (nI (ws.length)), .ref (ad (43)), .ref (ad (44))])) := ⟨_, rfl⟩
    refine z_put (Cn := RX4) (T := TX4) (NF := 13) (ci := 4) (ty := .int) (v := .int (nI 0)) C qX4_undo_0 tyX4_ok nmX4 rfl 0 (by decide) (C.2.2.2.2.1 _ qX4_undo_2) (fun _ h9 => h9) rfl (by decide +kernel) dX4_undo_13 (37) (by omega) m1 rfl rfl (Nat.le_of_ble_eq_true rfl) ?_
    refine z_cw ecw2.symm ?_
    have hw_3 : cw2 (37) = .inr (4, [.int (nI 0), .ref (ad (38)), .ref (ad (39)), .int (nI (pv + 1)), .int (nI (fut)), .ref (ad (40)), .int (dn), .ref (ad (41)), .int (nI (pat.length)), .ref (ad (42)), .int (nI (ws.length)), .ref (ad (43)), .ref (ad (44))]) := by rw [ecw2, va_up_self]
    have hw_4 : cw2 (39) = .inl (cI, 13, .inl (lf)) := by rw [ecw2, va_up_ne _ _ (by decide)]; exact m4
    refine z_aload_n C dX4_undo_16 0 rfl ?_
    refine z_get (Cn := RX4) (T := TX4) (NF := 13) (ci := 4) (v := .int (nI 0)) C qX4_undo_0 rfl 0 (by decide) (C.2.2.2.2.1 _ qX4_undo_2) (fun _ h9 => h9) dX4_undo_17 (37) (by omega) hw_3 rfl ?_
    refine z_if_le (tgt := 25) C dX4_undo_20 (by decide) (fun c5 => ?_) (fun c5 => absurd (show nI 0 ≤ 0 by decide) c5)
    refine z_aload_n C dX4_undo_25 0 rfl ?_
    refine z_dup C dX4_undo_26 rfl ?_
    refine z_get (Cn := RX4) (T := TX4) (NF := 13) (ci := 4) (v := .int (nI (pv + 1))) C qX4_undo_0 rfl 3 (by decide) (C.2.2.2.2.1 _ qX4_undo_1) (fun _ h9 => h9) dX4_undo_27 (37) (by omega) hw_3 rfl ?_
    refine z_iconst (v := nI 1) C dX4_undo_30 (by decide) ?_
    refine z_isub C dX4_undo_31 ?_
    refine z_top (y := nI pv) (pk_sub (b := 1) (a := pv + 1) (by omega)) ?_
    obtain ⟨cw6, ecw6⟩ : ∃ z : Nat → va_E, z = va_up (cw2) (37) (.inr (4, [.int (nI 0), .ref (ad (38)), .ref (ad (39)), .int (nI pv), .int (nI (fut)), .ref (ad (40)), .int (dn), .ref (ad (41)), .int (nI (pat.length)), .ref (ad (42)), .int (nI (ws.length)), .ref (ad (43)), .ref (ad (44))])) := ⟨_, rfl⟩
    refine z_put (Cn := RX4) (T := TX4) (NF := 13) (ci := 4) (ty := .int) (v := .int (nI pv)) C qX4_undo_0 tyX4_ok nmX4 rfl 3 (by decide) (C.2.2.2.2.1 _ qX4_undo_1) (fun _ h9 => h9) rfl (by decide +kernel) dX4_undo_32 (37) (by omega) hw_3 rfl rfl (Nat.le_of_ble_eq_true rfl) ?_
    refine z_cw ecw6.symm ?_
    have hw_7 : cw6 (37) = .inr (4, [.int (nI 0), .ref (ad (38)), .ref (ad (39)), .int (nI pv), .int (nI (fut)), .ref (ad (40)), .int (dn), .ref (ad (41)), .int (nI (pat.length)), .ref (ad (42)), .int (nI (ws.length)), .ref (ad (43)), .ref (ad (44))]) := by rw [ecw6, va_up_self]
    have hw_8 : cw6 (39) = .inl (cI, 13, .inl (lf)) := by rw [ecw6, va_up_ne _ _ (by decide)]; exact hw_4
    refine z_aload_n C dX4_undo_35 0 rfl ?_
    refine z_dup C dX4_undo_36 rfl ?_
    refine z_get (Cn := RX4) (T := TX4) (NF := 13) (ci := 4) (v := .int (nI (fut))) C qX4_undo_0 rfl 4 (by decide) (C.2.2.2.2.1 _ qX4_undo_3) (fun _ h9 => h9) dX4_undo_37 (37) (by omega) hw_7 rfl ?_
    refine z_iconst (v := nI 1) C dX4_undo_40 (by decide) ?_
    refine z_iadd C dX4_undo_41 ?_
    refine z_top (y := nI (fut + 1)) (nI_1 fut) ?_
    obtain ⟨cw9, ecw9⟩ : ∃ z : Nat → va_E, z = va_up (cw6) (37) (.inr (4, [.int (nI 0), .ref (ad (38)), .ref (ad (39)), .int (nI pv), .int (nI (fut + 1)), .ref (ad (40)), .int (dn), .ref (ad (41)), .int (nI (pat.length)), .ref (ad (42)), .int (nI (ws.length)), .ref (ad (43)), .ref (ad (44))])) := ⟨_, rfl⟩
    refine z_put (Cn := RX4) (T := TX4) (NF := 13) (ci := 4) (ty := .int) (v := .int (nI (fut + 1))) C qX4_undo_0 tyX4_ok nmX4 rfl 4 (by decide) (C.2.2.2.2.1 _ qX4_undo_3) (fun _ h9 => h9) rfl (by decide +kernel) dX4_undo_42 (37) (by omega) hw_7 rfl rfl (Nat.le_of_ble_eq_true rfl) ?_
    refine z_cw ecw9.symm ?_
    have hw_10 : cw9 (37) = .inr (4, [.int (nI 0), .ref (ad (38)), .ref (ad (39)), .int (nI pv), .int (nI (fut + 1)), .ref (ad (40)), .int (dn), .ref (ad (41)), .int (nI (pat.length)), .ref (ad (42)), .int (nI (ws.length)), .ref (ad (43)), .ref (ad (44))]) := by rw [ecw9, va_up_self]
    have hw_11 : cw9 (39) = .inl (cI, 13, .inl (lf)) := by rw [ecw9, va_up_ne _ _ (by decide)]; exact hw_8
    refine z_aload_n C dX4_undo_45 0 rfl ?_
    obtain ⟨j1, j2, j3⟩ := m5 pv (by omega)
    refine z_calli (z_runV (As := []) (rest := []) C (c_M_length l D cI cR cL B N ad cw9 hN hw_10 hw_11 (by omega) (j2)) (cwV 0 C.2.2.2.2.1 gX4_undo_X4_length rfl rfl rfl (by decide +kernel) ⟨Nat.le_of_ble_eq_true rfl, Nat.le_of_ble_eq_true rfl⟩) (by omega) hw_10 rfl rfl rfl rfl (Nat.le_of_ble_eq_true rfl) dX4_undo_46 ⟨Nat.le_of_ble_eq_true rfl, Nat.le_of_ble_eq_true rfl⟩) (fun r12 cw13 hp14 => ?_)
    refine z_cw hp14.2 ?_
    refine z_top hp14.1 ?_
    exact z_iret C hr dX4_undo_49 (⟨Or.inr ⟨pv, rfl, rfl, zRM_move hM hw_10 (by omega) (fun j hj => by rw [ecw9, va_up_ne _ _ (by omega)]; rw [ecw6, va_up_ne _ _ (by omega)]; rw [ecw2, va_up_ne _ _ (by omega)])⟩, fun j hj => ((fun j hj => by rw [ecw9, va_up_ne _ _ (by omega)]; rw [ecw6, va_up_ne _ _ (by omega)]; rw [ecw2, va_up_ne _ _ (by omega)]) : ∀ j, (j ≠ 37) → _ = cw j) j (by omega)⟩) (Nat.le_of_ble_eq_true rfl) (Nat.le_of_ble_eq_true rfl)
  · skip
    have h00 : past = 0 := (nI_eq (by omega) (by omega)).mp c1
    refine z_iconst (v := nI 1) C dX4_undo_8 (by decide) ?_
    refine z_goto (tgt := 13) C dX4_undo_9 (by decide) ?_
    obtain ⟨cw15, ecw15⟩ : ∃ z : Nat → va_E, z = va_up (cw) (37) (.inr (4, [.int (nI 1), .ref (ad (38)), .ref (ad (39)), .int (nI (past)), .int (nI (fut)), .ref (ad (40)), .int (dn), .ref (ad (41)), .int (nI (pat.length)), .ref (ad (42)), .int (nI (ws.length)), .ref (ad (43)), .ref (ad (44))])) := ⟨_, rfl⟩
    refine z_put (Cn := RX4) (T := TX4) (NF := 13) (ci := 4) (ty := .int) (v := .int (nI 1)) C qX4_undo_0 tyX4_ok nmX4 rfl 0 (by decide) (C.2.2.2.2.1 _ qX4_undo_2) (fun _ h9 => h9) rfl (by decide +kernel) dX4_undo_13 (37) (by omega) m1 rfl rfl (Nat.le_of_ble_eq_true rfl) ?_
    refine z_cw ecw15.symm ?_
    have hw_16 : cw15 (37) = .inr (4, [.int (nI 1), .ref (ad (38)), .ref (ad (39)), .int (nI (past)), .int (nI (fut)), .ref (ad (40)), .int (dn), .ref (ad (41)), .int (nI (pat.length)), .ref (ad (42)), .int (nI (ws.length)), .ref (ad (43)), .ref (ad (44))]) := by rw [ecw15, va_up_self]
    have hw_17 : cw15 (39) = .inl (cI, 13, .inl (lf)) := by rw [ecw15, va_up_ne _ _ (by decide)]; exact m4
    refine z_aload_n C dX4_undo_16 0 rfl ?_
    refine z_get (Cn := RX4) (T := TX4) (NF := 13) (ci := 4) (v := .int (nI 1)) C qX4_undo_0 rfl 0 (by decide) (C.2.2.2.2.1 _ qX4_undo_2) (fun _ h9 => h9) dX4_undo_17 (37) (by omega) hw_16 rfl ?_
    refine z_if_le (tgt := 25) C dX4_undo_20 (by decide) (fun c18 => ?_) (fun c18 => ?_)
    · skip
      exact absurd c18 (by decide)
    · skip
      refine z_iconst (v := nI 0) C dX4_undo_23 (by decide) ?_
      exact z_iret C hr dX4_undo_24 (⟨Or.inl ⟨zRM_obj hM hw_16 (fun j hj => by rw [ecw15, va_up_ne _ _ (by omega)]), h00⟩, fun j hj => ((fun j hj => by rw [ecw15, va_up_ne _ _ (by omega)]) : ∀ j, (j ≠ 37) → _ = cw j) j (by omega)⟩) (Nat.le_of_ble_eq_true rfl) (Nat.le_of_ble_eq_true rfl)

theorem qX4_redo_0 : ∀ w ∈ wsX40, w ∈ wsX4_redo := by decide +kernel
theorem qX4_redo_1 : Cond.fieldLink RX4 45 "PieceTextModel" "future" "I" ∈ wsX4_redo := by decide +kernel
theorem qX4_redo_2 : Cond.fieldLink RX4 31 "PieceTextModel" "thrown" "I" ∈ wsX4_redo := by decide +kernel
theorem qX4_redo_3 : Cond.fieldLink RX4 35 "PieceTextModel" "past" "I" ∈ wsX4_redo := by decide +kernel
set_option maxHeartbeats 4000000 in
set_option maxRecDepth 100000 in
theorem c_M_redo (l : Launch) (D : va_G) (cI cR cL : ClassId) (B N : Nat) (ad : Nat → Nat) (cw : Nat → va_E) (hN : 45 < N) {past fut : Nat} {hs : Nat → List Int32} {pat ws : List Int32} {th dn : Int32} (hM : zRM cI ad cw past fut hs pat ws th dn) : Met l yX4_redo wsX4_redo ({ frames := 2, cells := 0, slots := 0, locals := 44 } : Room) (va_Pc [.ref (ad (37))] (zI D vwCl (zTy cI cR cL) B N ad cw)) (zQi D vwCl B N ad (fun (v : Int32) (cw' : Nat → va_E) => ((zRM cI ad cw' past fut hs pat ws (nI 1) dn ∧ fut = 0) ∨ (∃ qv, fut = qv + 1 ∧ v = nI (hs (past + 1)).length ∧ zRM cI ad cw' (past + 1) qv hs pat ws (nI 0) dn)) ∧ ∀ j, (j < 37 ∨ 45 ≤ j) → cw' j = cw j)) 0 0 (zA B) := by
  obtain ⟨m1, ⟨m2, tf, lf, m3, m4, m5⟩, ⟨df, m6⟩, ⟨m7, pf, m8, m9⟩, ⟨m10, wf, m11, m12⟩, ⟨bf, m13⟩, zf, m14⟩ := id hM
  obtain ⟨k1, k2, k3⟩ := m5 past (by omega)
  refine z_ofW (cc := cX4_redo) (maxL := 1) (ret := (some .int)) (by decide) rfl (Nat.le_of_ble_eq_true rfl) ?_
  intro p e s m args below meth c C hr hnm
  refine z_lv (lv' := [(0, .ref (ad (37)))]) [0] rfl ?_
  refine z_aload_n C dX4_redo_0 0 rfl ?_
  refine z_aload_n C dX4_redo_1 0 rfl ?_
  refine z_get (Cn := RX4) (T := TX4) (NF := 13) (ci := 4) (v := .int (nI (fut))) C qX4_redo_0 rfl 4 (by decide) (C.2.2.2.2.1 _ qX4_redo_1) (fun _ h9 => h9) dX4_redo_2 (37) (by omega) m1 rfl ?_
  refine z_if_ne (tgt := 12) C dX4_redo_5 (by decide) (fun c1 => ?_) (fun c1 => ?_)
  · skip
    obtain ⟨qv, rfl⟩ : ∃ z, fut = z + 1 := Nat.exists_eq_succ_of_ne_zero (fun h9 => c1 (by rw [h9]; decide))
    refine z_iconst (v := nI 0) C dX4_redo_12 (by decide) ?_
    obtain ⟨cw2, ecw2⟩ : ∃ z : Nat → va_E, z = va_up (cw) (37) (.inr (4, [.int (nI 0), .ref (ad (38)), .ref (ad (39)), .int (nI (past)), .int (nI (qv + 1)), .ref (ad (40)), .int (dn), .ref (ad (41)), .int (nI (pat.length)), .ref (ad (42)), .int (nI (ws.length)), .ref (ad (43)), .ref (ad (44))])) := ⟨_, rfl⟩
    refine z_put (Cn := RX4) (T := TX4) (NF := 13) (ci := 4) (ty := .int) (v := .int (nI 0)) C qX4_redo_0 tyX4_ok nmX4 rfl 0 (by decide) (C.2.2.2.2.1 _ qX4_redo_2) (fun _ h9 => h9) rfl (by decide +kernel) dX4_redo_13 (37) (by omega) m1 rfl rfl (Nat.le_of_ble_eq_true rfl) ?_
    refine z_cw ecw2.symm ?_
    have hw_3 : cw2 (37) = .inr (4, [.int (nI 0), .ref (ad (38)), .ref (ad (39)), .int (nI (past)), .int (nI (qv + 1)), .ref (ad (40)), .int (dn), .ref (ad (41)), .int (nI (pat.length)), .ref (ad (42)), .int (nI (ws.length)), .ref (ad (43)), .ref (ad (44))]) := by rw [ecw2, va_up_self]
    have hw_4 : cw2 (39) = .inl (cI, 13, .inl (lf)) := by rw [ecw2, va_up_ne _ _ (by decide)]; exact m4
    refine z_aload_n C dX4_redo_16 0 rfl ?_
    refine z_get (Cn := RX4) (T := TX4) (NF := 13) (ci := 4) (v := .int (nI 0)) C qX4_redo_0 rfl 0 (by decide) (C.2.2.2.2.1 _ qX4_redo_2) (fun _ h9 => h9) dX4_redo_17 (37) (by omega) hw_3 rfl ?_
    refine z_if_le (tgt := 25) C dX4_redo_20 (by decide) (fun c5 => ?_) (fun c5 => absurd (show nI 0 ≤ 0 by decide) c5)
    refine z_aload_n C dX4_redo_25 0 rfl ?_
    refine z_dup C dX4_redo_26 rfl ?_
    refine z_get (Cn := RX4) (T := TX4) (NF := 13) (ci := 4) (v := .int (nI (past))) C qX4_redo_0 rfl 3 (by decide) (C.2.2.2.2.1 _ qX4_redo_3) (fun _ h9 => h9) dX4_redo_27 (37) (by omega) hw_3 rfl ?_
    refine z_iconst (v := nI 1) C dX4_redo_30 (by decide) ?_
    refine z_iadd C dX4_redo_31 ?_
    refine z_top (y := nI (past + 1)) (nI_1 past) ?_
    obtain ⟨cw6, ecw6⟩ : ∃ z : Nat → va_E, z = va_up (cw2) (37) (.inr (4, [.int (nI 0), .ref (ad (38)), .ref (ad (39)), .int (nI (past + 1)), .int (nI (qv + 1)), .ref (ad (40)), .int (dn), .ref (ad (41)), .int (nI (pat.length)), .ref (ad (42)), .int (nI (ws.length)), .ref (ad (43)), .ref (ad (44))])) := ⟨_, rfl⟩
    refine z_put (Cn := RX4) (T := TX4) (NF := 13) (ci := 4) (ty := .int) (v := .int (nI (past + 1))) C qX4_redo_0 tyX4_ok nmX4 rfl 3 (by decide) (C.2.2.2.2.1 _ qX4_redo_3) (fun _ h9 => h9) rfl (by decide +kernel) dX4_redo_32 (37) (by omega) hw_3 rfl rfl (Nat.le_of_ble_eq_true rfl) ?_
    refine z_cw ecw6.symm ?_
    have hw_7 : cw6 (37) = .inr (4, [.int (nI 0), .ref (ad (38)), .ref (ad (39)), .int (nI (past + 1)), .int (nI (qv + 1)), .ref (ad (40)), .int (dn), .ref (ad (41)), .int (nI (pat.length)), .ref (ad (42)), .int (nI (ws.length)), .ref (ad (43)), .ref (ad (44))]) := by rw [ecw6, va_up_self]
    have hw_8 : cw6 (39) = .inl (cI, 13, .inl (lf)) := by rw [ecw6, va_up_ne _ _ (by decide)]; exact hw_4
    refine z_aload_n C dX4_redo_35 0 rfl ?_
    refine z_dup C dX4_redo_36 rfl ?_
    refine z_get (Cn := RX4) (T := TX4) (NF := 13) (ci := 4) (v := .int (nI (qv + 1))) C qX4_redo_0 rfl 4 (by decide) (C.2.2.2.2.1 _ qX4_redo_1) (fun _ h9 => h9) dX4_redo_37 (37) (by omega) hw_7 rfl ?_
    refine z_iconst (v := nI 1) C dX4_redo_40 (by decide) ?_
    refine z_isub C dX4_redo_41 ?_
    refine z_top (y := nI qv) (pk_sub (b := 1) (a := qv + 1) (by omega)) ?_
    obtain ⟨cw9, ecw9⟩ : ∃ z : Nat → va_E, z = va_up (cw6) (37) (.inr (4, [.int (nI 0), .ref (ad (38)), .ref (ad (39)), .int (nI (past + 1)), .int (nI qv), .ref (ad (40)), .int (dn), .ref (ad (41)), .int (nI (pat.length)), .ref (ad (42)), .int (nI (ws.length)), .ref (ad (43)), .ref (ad (44))])) := ⟨_, rfl⟩
    refine z_put (Cn := RX4) (T := TX4) (NF := 13) (ci := 4) (ty := .int) (v := .int (nI qv)) C qX4_redo_0 tyX4_ok nmX4 rfl 4 (by decide) (C.2.2.2.2.1 _ qX4_redo_1) (fun _ h9 => h9) rfl (by decide +kernel) dX4_redo_42 (37) (by omega) hw_7 rfl rfl (Nat.le_of_ble_eq_true rfl) ?_
    refine z_cw ecw9.symm ?_
    have hw_10 : cw9 (37) = .inr (4, [.int (nI 0), .ref (ad (38)), .ref (ad (39)), .int (nI (past + 1)), .int (nI qv), .ref (ad (40)), .int (dn), .ref (ad (41)), .int (nI (pat.length)), .ref (ad (42)), .int (nI (ws.length)), .ref (ad (43)), .ref (ad (44))]) := by rw [ecw9, va_up_self]
    have hw_11 : cw9 (39) = .inl (cI, 13, .inl (lf)) := by rw [ecw9, va_up_ne _ _ (by decide)]; exact hw_8
    refine z_aload_n C dX4_redo_45 0 rfl ?_
    obtain ⟨j1, j2, j3⟩ := m5 (past + 1) (by omega)
    refine z_calli (z_runV (As := []) (rest := []) C (c_M_length l D cI cR cL B N ad cw9 hN hw_10 hw_11 (by omega) (j2)) (cwV 0 C.2.2.2.2.1 gX4_redo_X4_length rfl rfl rfl (by decide +kernel) ⟨Nat.le_of_ble_eq_true rfl, Nat.le_of_ble_eq_true rfl⟩) (by omega) hw_10 rfl rfl rfl rfl (Nat.le_of_ble_eq_true rfl) dX4_redo_46 ⟨Nat.le_of_ble_eq_true rfl, Nat.le_of_ble_eq_true rfl⟩) (fun r12 cw13 hp14 => ?_)
    refine z_cw hp14.2 ?_
    refine z_top hp14.1 ?_
    exact z_iret C hr dX4_redo_49 (⟨Or.inr ⟨qv, rfl, rfl, zRM_move hM hw_10 (by omega) (fun j hj => by rw [ecw9, va_up_ne _ _ (by omega)]; rw [ecw6, va_up_ne _ _ (by omega)]; rw [ecw2, va_up_ne _ _ (by omega)])⟩, fun j hj => ((fun j hj => by rw [ecw9, va_up_ne _ _ (by omega)]; rw [ecw6, va_up_ne _ _ (by omega)]; rw [ecw2, va_up_ne _ _ (by omega)]) : ∀ j, (j ≠ 37) → _ = cw j) j (by omega)⟩) (Nat.le_of_ble_eq_true rfl) (Nat.le_of_ble_eq_true rfl)
  · skip
    have h00 : fut = 0 := (nI_eq (by omega) (by omega)).mp c1
    refine z_iconst (v := nI 1) C dX4_redo_8 (by decide) ?_
    refine z_goto (tgt := 13) C dX4_redo_9 (by decide) ?_
    obtain ⟨cw15, ecw15⟩ : ∃ z : Nat → va_E, z = va_up (cw) (37) (.inr (4, [.int (nI 1), .ref (ad (38)), .ref (ad (39)), .int (nI (past)), .int (nI (fut)), .ref (ad (40)), .int (dn), .ref (ad (41)), .int (nI (pat.length)), .ref (ad (42)), .int (nI (ws.length)), .ref (ad (43)), .ref (ad (44))])) := ⟨_, rfl⟩
    refine z_put (Cn := RX4) (T := TX4) (NF := 13) (ci := 4) (ty := .int) (v := .int (nI 1)) C qX4_redo_0 tyX4_ok nmX4 rfl 0 (by decide) (C.2.2.2.2.1 _ qX4_redo_2) (fun _ h9 => h9) rfl (by decide +kernel) dX4_redo_13 (37) (by omega) m1 rfl rfl (Nat.le_of_ble_eq_true rfl) ?_
    refine z_cw ecw15.symm ?_
    have hw_16 : cw15 (37) = .inr (4, [.int (nI 1), .ref (ad (38)), .ref (ad (39)), .int (nI (past)), .int (nI (fut)), .ref (ad (40)), .int (dn), .ref (ad (41)), .int (nI (pat.length)), .ref (ad (42)), .int (nI (ws.length)), .ref (ad (43)), .ref (ad (44))]) := by rw [ecw15, va_up_self]
    have hw_17 : cw15 (39) = .inl (cI, 13, .inl (lf)) := by rw [ecw15, va_up_ne _ _ (by decide)]; exact m4
    refine z_aload_n C dX4_redo_16 0 rfl ?_
    refine z_get (Cn := RX4) (T := TX4) (NF := 13) (ci := 4) (v := .int (nI 1)) C qX4_redo_0 rfl 0 (by decide) (C.2.2.2.2.1 _ qX4_redo_2) (fun _ h9 => h9) dX4_redo_17 (37) (by omega) hw_16 rfl ?_
    refine z_if_le (tgt := 25) C dX4_redo_20 (by decide) (fun c18 => ?_) (fun c18 => ?_)
    · skip
      exact absurd c18 (by decide)
    · skip
      refine z_iconst (v := nI 0) C dX4_redo_23 (by decide) ?_
      exact z_iret C hr dX4_redo_24 (⟨Or.inl ⟨zRM_obj hM hw_16 (fun j hj => by rw [ecw15, va_up_ne _ _ (by omega)]), h00⟩, fun j hj => ((fun j hj => by rw [ecw15, va_up_ne _ _ (by omega)]) : ∀ j, (j ≠ 37) → _ = cw j) j (by omega)⟩) (Nat.le_of_ble_eq_true rfl) (Nat.le_of_ble_eq_true rfl)

theorem qX4_pattern_0 : Cond.constantLong RX4 56 (255) ∈ wsX4_pattern := by decide +kernel
theorem qX4_pattern_1 : ∀ w ∈ wsX40, w ∈ wsX4_pattern := by decide +kernel
theorem qX4_pattern_2 : Cond.fieldLink RX4 69 "PieceTextModel" "patternSize" "I" ∈ wsX4_pattern := by decide +kernel
theorem qX4_pattern_3 : Cond.fieldLink RX4 31 "PieceTextModel" "thrown" "I" ∈ wsX4_pattern := by decide +kernel
theorem qX4_pattern_4 : Cond.fieldLink RX4 19 "PieceTextModel" "pattern" "[I" ∈ wsX4_pattern := by decide +kernel
set_option maxHeartbeats 4000000 in
set_option maxRecDepth 100000 in
theorem c_M_pattern (l : Launch) (D : va_G) (cI cR cL : ClassId) (B N : Nat) (ad : Nat → Nat) (cw : Nat → va_E) (hN : 45 < N) {past fut : Nat} {hs : Nat → List Int32} {pat ws : List Int32} {th dn : Int32} (hM : zRM cI ad cw past fut hs pat ws th dn) (x : Int32) : Met l yX4_pattern wsX4_pattern ({ frames := 2, cells := 0, slots := 0, locals := 44 } : Room) (va_Pc [.ref (ad (37)), .int (x)] (zI D vwCl (zTy cI cR cL) B N ad cw)) (zQi D vwCl B N ad (fun (v : Int32) (cw' : Nat → va_E) => ((zRM cI ad cw' past fut hs pat ws (nI 1) dn ∧ ¬ (∃ q, q < 256 ∧ x = nI q)) ∨ (zRM cI ad cw' past fut hs pat ws (nI 2) dn ∧ (∃ q, q < 256 ∧ x = nI q) ∧ ¬ (pat.length < 16)) ∨ ((∃ q, q < 256 ∧ x = nI q) ∧ pat.length < 16 ∧ v = nI (pat ++ [x]).length ∧ zRM cI ad cw' past fut hs (pat ++ [x]) ws (nI 0) dn)) ∧ ∀ j, (j < 37 ∨ 45 ≤ j) → cw' j = cw j)) 0 0 (zA B) := by
  obtain ⟨m1, ⟨m2, tf, lf, m3, m4, m5⟩, ⟨df, m6⟩, ⟨m7, pf, m8, m9⟩, ⟨m10, wf, m11, m12⟩, ⟨bf, m13⟩, zf, m14⟩ := id hM
  obtain ⟨k1, k2, k3⟩ := m5 past (by omega)
  refine z_ofW (cc := cX4_pattern) (maxL := 2) (ret := (some .int)) (by decide) rfl (Nat.le_of_ble_eq_true rfl) ?_
  intro p e s m args below meth c C hr hnm
  refine z_lv (lv' := [(0, .ref (ad (37))), (1, .int (x))]) [0, 1] rfl ?_
  refine z_aload_n C dX4_pattern_0 0 rfl ?_
  refine z_iload_n C dX4_pattern_1 1 rfl ?_
  refine z_i2l C dX4_pattern_2 rfl ?_
  refine z_lconst (v := 0) C dX4_pattern_3 rfl ?_
  refine z_ldc2 (v := 255) C (C.2.2.2.2.1 _ qX4_pattern_0) dX4_pattern_4 ?_
  refine z_calli (z_runS (As := [.long (x.toInt64), .long (0), .long (255)]) (rest := [.ref (ad (37))]) C (c_M_isIn l D cI cR cL B N ad cw (x.toInt64) (0) (255)) (va_cwS 3 C.2.2.2.2.1 gX4_pattern_X4_isIn rfl rfl rfl (by decide +kernel) ⟨Nat.le_of_ble_eq_true rfl, Nat.le_of_ble_eq_true rfl⟩) rfl rfl (Nat.le_of_ble_eq_true rfl) dX4_pattern_7 ⟨Nat.le_of_ble_eq_true rfl, Nat.le_of_ble_eq_true rfl⟩) (fun r1 cw2 hp3 => ?_)
  refine z_cw hp3.2 ?_
  refine z_if_ne (tgt := 17) C dX4_pattern_10 (by decide) (fun c4 => ?_) (fun c4 => ?_)
  · skip
    have hch := (z_in255 (x := x)).mp (by rcases hp3.1 with h9 | h9; exact h9.2; exact absurd h9.1 c4)
    refine z_aload_n C dX4_pattern_17 0 rfl ?_
    refine z_get (Cn := RX4) (T := TX4) (NF := 13) (ci := 4) (v := .int (nI (pat.length))) C qX4_pattern_1 rfl 8 (by decide) (C.2.2.2.2.1 _ qX4_pattern_2) (fun _ h9 => h9) dX4_pattern_18 (37) (by omega) m1 rfl ?_
    refine z_bipush (v := nI 16) C dX4_pattern_21 (by decide) ?_
    refine z_icmp_ne (tgt := 30) C dX4_pattern_23 (by decide) (fun c5 => ?_) (fun c5 => ?_)
    · skip
      have hlt : pat.length < 16 := by have h9 : ¬ pat.length = 16 := fun h8 => c5 (by rw [h8]); omega
      refine z_iconst (v := nI 0) C dX4_pattern_30 (by decide) ?_
      obtain ⟨cw6, ecw6⟩ : ∃ z : Nat → va_E, z = va_up (cw) (37) (.inr (4, [.int (nI 0), .ref (ad (38)), .ref (ad (39)), .int (nI (past)), .int (nI (fut)), .ref (ad (40)), .int (dn), .ref (ad (41)), .int (nI (pat.length)), .ref (ad (42)), .int (nI (ws.length)), .ref (ad (43)), .ref (ad (44))])) := ⟨_, rfl⟩
      refine z_put (Cn := RX4) (T := TX4) (NF := 13) (ci := 4) (ty := .int) (v := .int (nI 0)) C qX4_pattern_1 tyX4_ok nmX4 rfl 0 (by decide) (C.2.2.2.2.1 _ qX4_pattern_3) (fun _ h9 => h9) rfl (by decide +kernel) dX4_pattern_31 (37) (by omega) m1 rfl rfl (Nat.le_of_ble_eq_true rfl) ?_
      refine z_cw ecw6.symm ?_
      have hw_7 : cw6 (37) = .inr (4, [.int (nI 0), .ref (ad (38)), .ref (ad (39)), .int (nI (past)), .int (nI (fut)), .ref (ad (40)), .int (dn), .ref (ad (41)), .int (nI (pat.length)), .ref (ad (42)), .int (nI (ws.length)), .ref (ad (43)), .ref (ad (44))]) := by rw [ecw6, va_up_self]
      have hw_8 : cw6 (41) = .inl (cI, 16, .inl (pf)) := by rw [ecw6, va_up_ne _ _ (by decide)]; exact m8
      have hw_9 : cw6 (42) = .inl (cI, 240, .inl (wf)) := by rw [ecw6, va_up_ne _ _ (by decide)]; exact m11
      refine z_aload_n C dX4_pattern_34 0 rfl ?_
      refine z_get (Cn := RX4) (T := TX4) (NF := 13) (ci := 4) (v := .int (nI 0)) C qX4_pattern_1 rfl 0 (by decide) (C.2.2.2.2.1 _ qX4_pattern_3) (fun _ h9 => h9) dX4_pattern_35 (37) (by omega) hw_7 rfl ?_
      refine z_if_le (tgt := 43) C dX4_pattern_38 (by decide) (fun c10 => ?_) (fun c10 => absurd (show nI 0 ≤ 0 by decide) c10)
      refine z_aload_n C dX4_pattern_43 0 rfl ?_
      refine z_get (Cn := RX4) (T := TX4) (NF := 13) (ci := 4) (v := .ref (ad (41))) C qX4_pattern_1 rfl 7 (by decide) (C.2.2.2.2.1 _ qX4_pattern_4) (fun _ h9 => h9) dX4_pattern_44 (37) (by omega) hw_7 rfl ?_
      refine z_aload_n C dX4_pattern_47 0 rfl ?_
      refine z_get (Cn := RX4) (T := TX4) (NF := 13) (ci := 4) (v := .int (nI (pat.length))) C qX4_pattern_1 rfl 8 (by decide) (C.2.2.2.2.1 _ qX4_pattern_2) (fun _ h9 => h9) dX4_pattern_48 (37) (by omega) hw_7 rfl ?_
      refine z_iload_n C dX4_pattern_51 1 rfl ?_
      obtain ⟨cw11, ecw11⟩ : ∃ z : Nat → va_E, z = va_up (cw6) (41) (.inl (cI, 16, .inl (upd (pf) (pat.length) ((x))))) := ⟨_, rfl⟩
      refine z_iast C 0 rfl dX4_pattern_52 (41) (by omega) hw_8 (pat.length) (rfl) (hlt) (by decide) ?_
      refine z_cw ecw11.symm ?_
      have hw_12 : cw11 (37) = .inr (4, [.int (nI 0), .ref (ad (38)), .ref (ad (39)), .int (nI (past)), .int (nI (fut)), .ref (ad (40)), .int (dn), .ref (ad (41)), .int (nI (pat.length)), .ref (ad (42)), .int (nI (ws.length)), .ref (ad (43)), .ref (ad (44))]) := by rw [ecw11, va_up_ne _ _ (by decide)]; exact hw_7
      have hw_13 : cw11 (41) = .inl (cI, 16, .inl (upd (pf) (pat.length) ((x)))) := by rw [ecw11, va_up_self]
      have hw_14 : cw11 (42) = .inl (cI, 240, .inl (wf)) := by rw [ecw11, va_up_ne _ _ (by decide)]; exact hw_9
      refine z_aload_n C dX4_pattern_53 0 rfl ?_
      refine z_dup C dX4_pattern_54 rfl ?_
      refine z_get (Cn := RX4) (T := TX4) (NF := 13) (ci := 4) (v := .int (nI (pat.length))) C qX4_pattern_1 rfl 8 (by decide) (C.2.2.2.2.1 _ qX4_pattern_2) (fun _ h9 => h9) dX4_pattern_55 (37) (by omega) hw_12 rfl ?_
      refine z_iconst (v := nI 1) C dX4_pattern_58 (by decide) ?_
      refine z_iadd C dX4_pattern_59 ?_
      refine z_top (y := nI (pat.length + 1)) (nI_1 _) ?_
      obtain ⟨cw15, ecw15⟩ : ∃ z : Nat → va_E, z = va_up (cw11) (37) (.inr (4, [.int (nI 0), .ref (ad (38)), .ref (ad (39)), .int (nI (past)), .int (nI (fut)), .ref (ad (40)), .int (dn), .ref (ad (41)), .int (nI (pat.length + 1)), .ref (ad (42)), .int (nI (ws.length)), .ref (ad (43)), .ref (ad (44))])) := ⟨_, rfl⟩
      refine z_put (Cn := RX4) (T := TX4) (NF := 13) (ci := 4) (ty := .int) (v := .int (nI (pat.length + 1))) C qX4_pattern_1 tyX4_ok nmX4 rfl 8 (by decide) (C.2.2.2.2.1 _ qX4_pattern_2) (fun _ h9 => h9) rfl (by decide +kernel) dX4_pattern_60 (37) (by omega) hw_12 rfl rfl (Nat.le_of_ble_eq_true rfl) ?_
      refine z_cw ecw15.symm ?_
      have hw_16 : cw15 (37) = .inr (4, [.int (nI 0), .ref (ad (38)), .ref (ad (39)), .int (nI (past)), .int (nI (fut)), .ref (ad (40)), .int (dn), .ref (ad (41)), .int (nI (pat.length + 1)), .ref (ad (42)), .int (nI (ws.length)), .ref (ad (43)), .ref (ad (44))]) := by rw [ecw15, va_up_self]
      have hw_17 : cw15 (41) = .inl (cI, 16, .inl (upd (pf) (pat.length) ((x)))) := by rw [ecw15, va_up_ne _ _ (by decide)]; exact hw_13
      have hw_18 : cw15 (42) = .inl (cI, 240, .inl (wf)) := by rw [ecw15, va_up_ne _ _ (by decide)]; exact hw_14
      refine z_aload_n C dX4_pattern_63 0 rfl ?_
      refine z_get (Cn := RX4) (T := TX4) (NF := 13) (ci := 4) (v := .int (nI (pat.length + 1))) C qX4_pattern_1 rfl 8 (by decide) (C.2.2.2.2.1 _ qX4_pattern_2) (fun _ h9 => h9) dX4_pattern_64 (37) (by omega) hw_16 rfl ?_
      refine z_top (y := nI (pat ++ [x]).length) (by rw [len_snoc]) ?_
      exact z_iret C hr dX4_pattern_67 (⟨Or.inr (Or.inr ⟨hch, hlt, rfl, zRM_pw hM (by rw [len_snoc]; exact hw_16) ⟨by rw [len_snoc]; exact hlt, _, hw_17, zIs_add m9 x⟩ ⟨m10, wf, hw_18, m12⟩ (fun j hj => ((fun j hj => by rw [ecw15, va_up_ne _ _ (by omega)]; rw [ecw11, va_up_ne _ _ (by omega)]; rw [ecw6, va_up_ne _ _ (by omega)]) : ∀ j, (j ≠ 37 ∧ j ≠ 41 ∧ j ≠ 42) → _ = cw j) j hj)⟩), fun j hj => ((fun j hj => by rw [ecw15, va_up_ne _ _ (by omega)]; rw [ecw11, va_up_ne _ _ (by omega)]; rw [ecw6, va_up_ne _ _ (by omega)]) : ∀ j, (j ≠ 37 ∧ j ≠ 41) → _ = cw j) j (by omega)⟩) (Nat.le_of_ble_eq_true rfl) (Nat.le_of_ble_eq_true rfl)
    · skip
      have h16 : pat.length = 16 := (nI_eq (by omega) (by omega)).mp c5
      refine z_iconst (v := nI 2) C dX4_pattern_26 (by decide) ?_
      refine z_goto (tgt := 31) C dX4_pattern_27 (by decide) ?_
      obtain ⟨cw19, ecw19⟩ : ∃ z : Nat → va_E, z = va_up (cw) (37) (.inr (4, [.int (nI 2), .ref (ad (38)), .ref (ad (39)), .int (nI (past)), .int (nI (fut)), .ref (ad (40)), .int (dn), .ref (ad (41)), .int (nI (pat.length)), .ref (ad (42)), .int (nI (ws.length)), .ref (ad (43)), .ref (ad (44))])) := ⟨_, rfl⟩
      refine z_put (Cn := RX4) (T := TX4) (NF := 13) (ci := 4) (ty := .int) (v := .int (nI 2)) C qX4_pattern_1 tyX4_ok nmX4 rfl 0 (by decide) (C.2.2.2.2.1 _ qX4_pattern_3) (fun _ h9 => h9) rfl (by decide +kernel) dX4_pattern_31 (37) (by omega) m1 rfl rfl (Nat.le_of_ble_eq_true rfl) ?_
      refine z_cw ecw19.symm ?_
      have hw_20 : cw19 (37) = .inr (4, [.int (nI 2), .ref (ad (38)), .ref (ad (39)), .int (nI (past)), .int (nI (fut)), .ref (ad (40)), .int (dn), .ref (ad (41)), .int (nI (pat.length)), .ref (ad (42)), .int (nI (ws.length)), .ref (ad (43)), .ref (ad (44))]) := by rw [ecw19, va_up_self]
      have hw_21 : cw19 (41) = .inl (cI, 16, .inl (pf)) := by rw [ecw19, va_up_ne _ _ (by decide)]; exact m8
      have hw_22 : cw19 (42) = .inl (cI, 240, .inl (wf)) := by rw [ecw19, va_up_ne _ _ (by decide)]; exact m11
      refine z_aload_n C dX4_pattern_34 0 rfl ?_
      refine z_get (Cn := RX4) (T := TX4) (NF := 13) (ci := 4) (v := .int (nI 2)) C qX4_pattern_1 rfl 0 (by decide) (C.2.2.2.2.1 _ qX4_pattern_3) (fun _ h9 => h9) dX4_pattern_35 (37) (by omega) hw_20 rfl ?_
      refine z_if_le (tgt := 43) C dX4_pattern_38 (by decide) (fun c23 => ?_) (fun c23 => ?_)
      · skip
        exact absurd c23 (by decide)
      · skip
        refine z_iconst (v := nI 0) C dX4_pattern_41 (by decide) ?_
        exact z_iret C hr dX4_pattern_42 (⟨Or.inr (Or.inl ⟨zRM_obj hM hw_20 (fun j hj => by rw [ecw19, va_up_ne _ _ (by omega)]), hch, by omega⟩), fun j hj => ((fun j hj => by rw [ecw19, va_up_ne _ _ (by omega)]) : ∀ j, (j ≠ 37) → _ = cw j) j (by omega)⟩) (Nat.le_of_ble_eq_true rfl) (Nat.le_of_ble_eq_true rfl)
  · skip
    have nhch : ¬ _ := fun h8 => (by rcases hp3.1 with h9 | h9; exact absurd (h9.1.symm.trans c4) (by decide); exact h9.2 ((z_in255 (x := x)).mpr h8))
    refine z_iconst (v := nI 1) C dX4_pattern_13 (by decide) ?_
    refine z_goto (tgt := 31) C dX4_pattern_14 (by decide) ?_
    obtain ⟨cw24, ecw24⟩ : ∃ z : Nat → va_E, z = va_up (cw) (37) (.inr (4, [.int (nI 1), .ref (ad (38)), .ref (ad (39)), .int (nI (past)), .int (nI (fut)), .ref (ad (40)), .int (dn), .ref (ad (41)), .int (nI (pat.length)), .ref (ad (42)), .int (nI (ws.length)), .ref (ad (43)), .ref (ad (44))])) := ⟨_, rfl⟩
    refine z_put (Cn := RX4) (T := TX4) (NF := 13) (ci := 4) (ty := .int) (v := .int (nI 1)) C qX4_pattern_1 tyX4_ok nmX4 rfl 0 (by decide) (C.2.2.2.2.1 _ qX4_pattern_3) (fun _ h9 => h9) rfl (by decide +kernel) dX4_pattern_31 (37) (by omega) m1 rfl rfl (Nat.le_of_ble_eq_true rfl) ?_
    refine z_cw ecw24.symm ?_
    have hw_25 : cw24 (37) = .inr (4, [.int (nI 1), .ref (ad (38)), .ref (ad (39)), .int (nI (past)), .int (nI (fut)), .ref (ad (40)), .int (dn), .ref (ad (41)), .int (nI (pat.length)), .ref (ad (42)), .int (nI (ws.length)), .ref (ad (43)), .ref (ad (44))]) := by rw [ecw24, va_up_self]
    have hw_26 : cw24 (41) = .inl (cI, 16, .inl (pf)) := by rw [ecw24, va_up_ne _ _ (by decide)]; exact m8
    have hw_27 : cw24 (42) = .inl (cI, 240, .inl (wf)) := by rw [ecw24, va_up_ne _ _ (by decide)]; exact m11
    refine z_aload_n C dX4_pattern_34 0 rfl ?_
    refine z_get (Cn := RX4) (T := TX4) (NF := 13) (ci := 4) (v := .int (nI 1)) C qX4_pattern_1 rfl 0 (by decide) (C.2.2.2.2.1 _ qX4_pattern_3) (fun _ h9 => h9) dX4_pattern_35 (37) (by omega) hw_25 rfl ?_
    refine z_if_le (tgt := 43) C dX4_pattern_38 (by decide) (fun c28 => ?_) (fun c28 => ?_)
    · skip
      exact absurd c28 (by decide)
    · skip
      refine z_iconst (v := nI 0) C dX4_pattern_41 (by decide) ?_
      exact z_iret C hr dX4_pattern_42 (⟨Or.inl ⟨zRM_obj hM hw_25 (fun j hj => by rw [ecw24, va_up_ne _ _ (by omega)]), nhch⟩, fun j hj => ((fun j hj => by rw [ecw24, va_up_ne _ _ (by omega)]) : ∀ j, (j ≠ 37) → _ = cw j) j (by omega)⟩) (Nat.le_of_ble_eq_true rfl) (Nat.le_of_ble_eq_true rfl)

theorem qX4_noPattern_0 : ∀ w ∈ wsX40, w ∈ wsX4_noPattern := by decide +kernel
theorem qX4_noPattern_1 : Cond.fieldLink RX4 31 "PieceTextModel" "thrown" "I" ∈ wsX4_noPattern := by decide +kernel
theorem qX4_noPattern_2 : Cond.fieldLink RX4 69 "PieceTextModel" "patternSize" "I" ∈ wsX4_noPattern := by decide +kernel
set_option maxHeartbeats 4000000 in
set_option maxRecDepth 100000 in
theorem c_M_noPattern (l : Launch) (D : va_G) (cI cR cL : ClassId) (B N : Nat) (ad : Nat → Nat) (cw : Nat → va_E) (hN : 45 < N) {past fut : Nat} {hs : Nat → List Int32} {pat ws : List Int32} {th dn : Int32} (hM : zRM cI ad cw past fut hs pat ws th dn) : Met l yX4_noPattern wsX4_noPattern ({ frames := 0, cells := 0, slots := 0, locals := 0 } : Room) (va_Pc [.ref (ad (37))] (zI D vwCl (zTy cI cR cL) B N ad cw)) (zQi D vwCl B N ad (fun (v : Int32) (cw' : Nat → va_E) => v = nI pat.length ∧ zRM cI ad cw' past fut hs [] ws (nI 0) dn ∧ ∀ j, (j < 37 ∨ 45 ≤ j) → cw' j = cw j)) 0 0 (zA B) := by
  obtain ⟨m1, ⟨m2, tf, lf, m3, m4, m5⟩, ⟨df, m6⟩, ⟨m7, pf, m8, m9⟩, ⟨m10, wf, m11, m12⟩, ⟨bf, m13⟩, zf, m14⟩ := id hM
  obtain ⟨k1, k2, k3⟩ := m5 past (by omega)
  refine z_ofW (cc := cX4_noPattern) (maxL := 2) (ret := (some .int)) (by decide) rfl (Nat.le_of_ble_eq_true rfl) ?_
  intro p e s m args below meth c C hr hnm
  refine z_lv (lv' := [(0, .ref (ad (37)))]) [0] rfl ?_
  refine z_aload_n C dX4_noPattern_0 0 rfl ?_
  refine z_iconst (v := nI 0) C dX4_noPattern_1 (by decide) ?_
  obtain ⟨cw1, ecw1⟩ : ∃ z : Nat → va_E, z = va_up (cw) (37) (.inr (4, [.int (nI 0), .ref (ad (38)), .ref (ad (39)), .int (nI (past)), .int (nI (fut)), .ref (ad (40)), .int (dn), .ref (ad (41)), .int (nI (pat.length)), .ref (ad (42)), .int (nI (ws.length)), .ref (ad (43)), .ref (ad (44))])) := ⟨_, rfl⟩
  refine z_put (Cn := RX4) (T := TX4) (NF := 13) (ci := 4) (ty := .int) (v := .int (nI 0)) C qX4_noPattern_0 tyX4_ok nmX4 rfl 0 (by decide) (C.2.2.2.2.1 _ qX4_noPattern_1) (fun _ h9 => h9) rfl (by decide +kernel) dX4_noPattern_2 (37) (by omega) m1 rfl rfl (Nat.le_of_ble_eq_true rfl) ?_
  refine z_cw ecw1.symm ?_
  have hw_2 : cw1 (37) = .inr (4, [.int (nI 0), .ref (ad (38)), .ref (ad (39)), .int (nI (past)), .int (nI (fut)), .ref (ad (40)), .int (dn), .ref (ad (41)), .int (nI (pat.length)), .ref (ad (42)), .int (nI (ws.length)), .ref (ad (43)), .ref (ad (44))]) := by rw [ecw1, va_up_self]
  have hw_3 : cw1 (41) = .inl (cI, 16, .inl (pf)) := by rw [ecw1, va_up_ne _ _ (by decide)]; exact m8
  have hw_4 : cw1 (42) = .inl (cI, 240, .inl (wf)) := by rw [ecw1, va_up_ne _ _ (by decide)]; exact m11
  refine z_aload_n C dX4_noPattern_5 0 rfl ?_
  refine z_get (Cn := RX4) (T := TX4) (NF := 13) (ci := 4) (v := .int (nI (pat.length))) C qX4_noPattern_0 rfl 8 (by decide) (C.2.2.2.2.1 _ qX4_noPattern_2) (fun _ h9 => h9) dX4_noPattern_6 (37) (by omega) hw_2 rfl ?_
  refine z_istore_n (lv' := [(1, .int (nI (pat.length))), (0, .ref (ad (37)))]) C dX4_noPattern_9 rfl (by decide) rfl ?_
  refine z_aload_n C dX4_noPattern_10 1 rfl ?_
  refine z_iconst (v := nI 0) C dX4_noPattern_11 (by decide) ?_
  obtain ⟨cw5, ecw5⟩ : ∃ z : Nat → va_E, z = va_up (cw1) (37) (.inr (4, [.int (nI 0), .ref (ad (38)), .ref (ad (39)), .int (nI (past)), .int (nI (fut)), .ref (ad (40)), .int (dn), .ref (ad (41)), .int (nI 0), .ref (ad (42)), .int (nI (ws.length)), .ref (ad (43)), .ref (ad (44))])) := ⟨_, rfl⟩
  refine z_put (Cn := RX4) (T := TX4) (NF := 13) (ci := 4) (ty := .int) (v := .int (nI 0)) C qX4_noPattern_0 tyX4_ok nmX4 rfl 8 (by decide) (C.2.2.2.2.1 _ qX4_noPattern_2) (fun _ h9 => h9) rfl (by decide +kernel) dX4_noPattern_12 (37) (by omega) hw_2 rfl rfl (Nat.le_of_ble_eq_true rfl) ?_
  refine z_cw ecw5.symm ?_
  have hw_6 : cw5 (37) = .inr (4, [.int (nI 0), .ref (ad (38)), .ref (ad (39)), .int (nI (past)), .int (nI (fut)), .ref (ad (40)), .int (dn), .ref (ad (41)), .int (nI 0), .ref (ad (42)), .int (nI (ws.length)), .ref (ad (43)), .ref (ad (44))]) := by rw [ecw5, va_up_self]
  have hw_7 : cw5 (41) = .inl (cI, 16, .inl (pf)) := by rw [ecw5, va_up_ne _ _ (by decide)]; exact hw_3
  have hw_8 : cw5 (42) = .inl (cI, 240, .inl (wf)) := by rw [ecw5, va_up_ne _ _ (by decide)]; exact hw_4
  refine z_iload_n C dX4_noPattern_15 0 rfl ?_
  exact z_iret C hr dX4_noPattern_16 (⟨rfl, zRM_pw (pat' := []) hM hw_6 ⟨Nat.zero_le _, pf, hw_7, zIs_nil _⟩ ⟨m10, wf, hw_8, m12⟩ (fun j hj => ((fun j hj => by rw [ecw5, va_up_ne _ _ (by omega)]; rw [ecw1, va_up_ne _ _ (by omega)]) : ∀ j, (j ≠ 37 ∧ j ≠ 41 ∧ j ≠ 42) → _ = cw j) j hj), fun j hj => ((fun j hj => by rw [ecw5, va_up_ne _ _ (by omega)]; rw [ecw1, va_up_ne _ _ (by omega)]) : ∀ j, (j ≠ 37) → _ = cw j) j (by omega)⟩) (Nat.le_of_ble_eq_true rfl) (Nat.le_of_ble_eq_true rfl)

theorem qX4_clear_0 : ∀ w ∈ wsX40, w ∈ wsX4_clear := by decide +kernel
theorem qX4_clear_1 : Cond.fieldLink RX4 31 "PieceTextModel" "thrown" "I" ∈ wsX4_clear := by decide +kernel
theorem qX4_clear_2 : Cond.fieldLink RX4 35 "PieceTextModel" "past" "I" ∈ wsX4_clear := by decide +kernel
theorem qX4_clear_3 : Cond.fieldLink RX4 45 "PieceTextModel" "future" "I" ∈ wsX4_clear := by decide +kernel
theorem qX4_clear_4 : Cond.fieldLink RX4 13 "PieceTextModel" "lengths" "[I" ∈ wsX4_clear := by decide +kernel
theorem qX4_clear_5 : Cond.fieldLink RX4 69 "PieceTextModel" "patternSize" "I" ∈ wsX4_clear := by decide +kernel
theorem qX4_clear_6 : Cond.fieldLink RX4 76 "PieceTextModel" "wordCount" "I" ∈ wsX4_clear := by decide +kernel
set_option maxHeartbeats 4000000 in
set_option maxRecDepth 100000 in
theorem c_M_clear (l : Launch) (D : va_G) (cI cR cL : ClassId) (B N : Nat) (ad : Nat → Nat) (cw : Nat → va_E) (hN : 45 < N) {past fut : Nat} {hs : Nat → List Int32} {pat ws : List Int32} {th dn : Int32} (hM : zRM cI ad cw past fut hs pat ws th dn) : Met l yX4_clear wsX4_clear ({ frames := 0, cells := 0, slots := 0, locals := 0 } : Room) (va_Pc [.ref (ad (37))] (zI D vwCl (zTy cI cR cL) B N ad cw)) (zQv D vwCl B N ad (fun (cw' : Nat → va_E) => zRM cI ad cw' 0 0 (fun _ => []) [] [] (nI 0) dn ∧ ∀ j, (j < 37 ∨ 45 ≤ j) → cw' j = cw j)) 0 0 (zA B) := by
  obtain ⟨m1, ⟨m2, tf, lf, m3, m4, m5⟩, ⟨df, m6⟩, ⟨m7, pf, m8, m9⟩, ⟨m10, wf, m11, m12⟩, ⟨bf, m13⟩, zf, m14⟩ := id hM
  obtain ⟨k1, k2, k3⟩ := m5 past (by omega)
  refine z_ofW (cc := cX4_clear) (maxL := 1) (ret := none) (by decide) rfl (Nat.le_of_ble_eq_true rfl) ?_
  intro p e s m args below meth c C hr hnm
  refine z_lv (lv' := [(0, .ref (ad (37)))]) [0] rfl ?_
  refine z_aload_n C dX4_clear_0 0 rfl ?_
  refine z_iconst (v := nI 0) C dX4_clear_1 (by decide) ?_
  obtain ⟨cw1, ecw1⟩ : ∃ z : Nat → va_E, z = va_up (cw) (37) (.inr (4, [.int (nI 0), .ref (ad (38)), .ref (ad (39)), .int (nI (past)), .int (nI (fut)), .ref (ad (40)), .int (dn), .ref (ad (41)), .int (nI (pat.length)), .ref (ad (42)), .int (nI (ws.length)), .ref (ad (43)), .ref (ad (44))])) := ⟨_, rfl⟩
  refine z_put (Cn := RX4) (T := TX4) (NF := 13) (ci := 4) (ty := .int) (v := .int (nI 0)) C qX4_clear_0 tyX4_ok nmX4 rfl 0 (by decide) (C.2.2.2.2.1 _ qX4_clear_1) (fun _ h9 => h9) rfl (by decide +kernel) dX4_clear_2 (37) (by omega) m1 rfl rfl (Nat.le_of_ble_eq_true rfl) ?_
  refine z_cw ecw1.symm ?_
  have hw_2 : cw1 (37) = .inr (4, [.int (nI 0), .ref (ad (38)), .ref (ad (39)), .int (nI (past)), .int (nI (fut)), .ref (ad (40)), .int (dn), .ref (ad (41)), .int (nI (pat.length)), .ref (ad (42)), .int (nI (ws.length)), .ref (ad (43)), .ref (ad (44))]) := by rw [ecw1, va_up_self]
  have hw_3 : cw1 (38) = .inl (cI, 3120, .inl (tf)) := by rw [ecw1, va_up_ne _ _ (by decide)]; exact m3
  have hw_4 : cw1 (39) = .inl (cI, 13, .inl (lf)) := by rw [ecw1, va_up_ne _ _ (by decide)]; exact m4
  have hw_5 : cw1 (40) = .inl (cI, 240, .inl (df)) := by rw [ecw1, va_up_ne _ _ (by decide)]; exact m6
  have hw_6 : cw1 (41) = .inl (cI, 16, .inl (pf)) := by rw [ecw1, va_up_ne _ _ (by decide)]; exact m8
  have hw_7 : cw1 (42) = .inl (cI, 240, .inl (wf)) := by rw [ecw1, va_up_ne _ _ (by decide)]; exact m11
  have hw_8 : cw1 (43) = .inl (cI, 241, .inl (bf)) := by rw [ecw1, va_up_ne _ _ (by decide)]; exact m13
  have hw_9 : cw1 (44) = .inl (cI, 241, .inl (zf)) := by rw [ecw1, va_up_ne _ _ (by decide)]; exact m14
  refine z_aload_n C dX4_clear_5 0 rfl ?_
  refine z_iconst (v := nI 0) C dX4_clear_6 (by decide) ?_
  obtain ⟨cw10, ecw10⟩ : ∃ z : Nat → va_E, z = va_up (cw1) (37) (.inr (4, [.int (nI 0), .ref (ad (38)), .ref (ad (39)), .int (nI 0), .int (nI (fut)), .ref (ad (40)), .int (dn), .ref (ad (41)), .int (nI (pat.length)), .ref (ad (42)), .int (nI (ws.length)), .ref (ad (43)), .ref (ad (44))])) := ⟨_, rfl⟩
  refine z_put (Cn := RX4) (T := TX4) (NF := 13) (ci := 4) (ty := .int) (v := .int (nI 0)) C qX4_clear_0 tyX4_ok nmX4 rfl 3 (by decide) (C.2.2.2.2.1 _ qX4_clear_2) (fun _ h9 => h9) rfl (by decide +kernel) dX4_clear_7 (37) (by omega) hw_2 rfl rfl (Nat.le_of_ble_eq_true rfl) ?_
  refine z_cw ecw10.symm ?_
  have hw_11 : cw10 (37) = .inr (4, [.int (nI 0), .ref (ad (38)), .ref (ad (39)), .int (nI 0), .int (nI (fut)), .ref (ad (40)), .int (dn), .ref (ad (41)), .int (nI (pat.length)), .ref (ad (42)), .int (nI (ws.length)), .ref (ad (43)), .ref (ad (44))]) := by rw [ecw10, va_up_self]
  have hw_12 : cw10 (38) = .inl (cI, 3120, .inl (tf)) := by rw [ecw10, va_up_ne _ _ (by decide)]; exact hw_3
  have hw_13 : cw10 (39) = .inl (cI, 13, .inl (lf)) := by rw [ecw10, va_up_ne _ _ (by decide)]; exact hw_4
  have hw_14 : cw10 (40) = .inl (cI, 240, .inl (df)) := by rw [ecw10, va_up_ne _ _ (by decide)]; exact hw_5
  have hw_15 : cw10 (41) = .inl (cI, 16, .inl (pf)) := by rw [ecw10, va_up_ne _ _ (by decide)]; exact hw_6
  have hw_16 : cw10 (42) = .inl (cI, 240, .inl (wf)) := by rw [ecw10, va_up_ne _ _ (by decide)]; exact hw_7
  have hw_17 : cw10 (43) = .inl (cI, 241, .inl (bf)) := by rw [ecw10, va_up_ne _ _ (by decide)]; exact hw_8
  have hw_18 : cw10 (44) = .inl (cI, 241, .inl (zf)) := by rw [ecw10, va_up_ne _ _ (by decide)]; exact hw_9
  refine z_aload_n C dX4_clear_10 0 rfl ?_
  refine z_iconst (v := nI 0) C dX4_clear_11 (by decide) ?_
  obtain ⟨cw19, ecw19⟩ : ∃ z : Nat → va_E, z = va_up (cw10) (37) (.inr (4, [.int (nI 0), .ref (ad (38)), .ref (ad (39)), .int (nI 0), .int (nI 0), .ref (ad (40)), .int (dn), .ref (ad (41)), .int (nI (pat.length)), .ref (ad (42)), .int (nI (ws.length)), .ref (ad (43)), .ref (ad (44))])) := ⟨_, rfl⟩
  refine z_put (Cn := RX4) (T := TX4) (NF := 13) (ci := 4) (ty := .int) (v := .int (nI 0)) C qX4_clear_0 tyX4_ok nmX4 rfl 4 (by decide) (C.2.2.2.2.1 _ qX4_clear_3) (fun _ h9 => h9) rfl (by decide +kernel) dX4_clear_12 (37) (by omega) hw_11 rfl rfl (Nat.le_of_ble_eq_true rfl) ?_
  refine z_cw ecw19.symm ?_
  have hw_20 : cw19 (37) = .inr (4, [.int (nI 0), .ref (ad (38)), .ref (ad (39)), .int (nI 0), .int (nI 0), .ref (ad (40)), .int (dn), .ref (ad (41)), .int (nI (pat.length)), .ref (ad (42)), .int (nI (ws.length)), .ref (ad (43)), .ref (ad (44))]) := by rw [ecw19, va_up_self]
  have hw_21 : cw19 (38) = .inl (cI, 3120, .inl (tf)) := by rw [ecw19, va_up_ne _ _ (by decide)]; exact hw_12
  have hw_22 : cw19 (39) = .inl (cI, 13, .inl (lf)) := by rw [ecw19, va_up_ne _ _ (by decide)]; exact hw_13
  have hw_23 : cw19 (40) = .inl (cI, 240, .inl (df)) := by rw [ecw19, va_up_ne _ _ (by decide)]; exact hw_14
  have hw_24 : cw19 (41) = .inl (cI, 16, .inl (pf)) := by rw [ecw19, va_up_ne _ _ (by decide)]; exact hw_15
  have hw_25 : cw19 (42) = .inl (cI, 240, .inl (wf)) := by rw [ecw19, va_up_ne _ _ (by decide)]; exact hw_16
  have hw_26 : cw19 (43) = .inl (cI, 241, .inl (bf)) := by rw [ecw19, va_up_ne _ _ (by decide)]; exact hw_17
  have hw_27 : cw19 (44) = .inl (cI, 241, .inl (zf)) := by rw [ecw19, va_up_ne _ _ (by decide)]; exact hw_18
  refine z_aload_n C dX4_clear_15 0 rfl ?_
  refine z_get (Cn := RX4) (T := TX4) (NF := 13) (ci := 4) (v := .ref (ad (39))) C qX4_clear_0 rfl 2 (by decide) (C.2.2.2.2.1 _ qX4_clear_4) (fun _ h9 => h9) dX4_clear_16 (37) (by omega) hw_20 rfl ?_
  refine z_iconst (v := nI 0) C dX4_clear_19 (by decide) ?_
  refine z_iconst (v := nI 0) C dX4_clear_20 (by decide) ?_
  obtain ⟨cw28, ecw28⟩ : ∃ z : Nat → va_E, z = va_up (cw19) (39) (.inl (cI, 13, .inl (upd (lf) (0) ((nI 0))))) := ⟨_, rfl⟩
  refine z_iast C 0 rfl dX4_clear_21 (39) (by omega) hw_22 (0) (rfl) (by decide) (by decide) ?_
  refine z_cw ecw28.symm ?_
  have hw_29 : cw28 (37) = .inr (4, [.int (nI 0), .ref (ad (38)), .ref (ad (39)), .int (nI 0), .int (nI 0), .ref (ad (40)), .int (dn), .ref (ad (41)), .int (nI (pat.length)), .ref (ad (42)), .int (nI (ws.length)), .ref (ad (43)), .ref (ad (44))]) := by rw [ecw28, va_up_ne _ _ (by decide)]; exact hw_20
  have hw_30 : cw28 (38) = .inl (cI, 3120, .inl (tf)) := by rw [ecw28, va_up_ne _ _ (by decide)]; exact hw_21
  have hw_31 : cw28 (39) = .inl (cI, 13, .inl (upd (lf) (0) ((nI 0)))) := by rw [ecw28, va_up_self]
  have hw_32 : cw28 (40) = .inl (cI, 240, .inl (df)) := by rw [ecw28, va_up_ne _ _ (by decide)]; exact hw_23
  have hw_33 : cw28 (41) = .inl (cI, 16, .inl (pf)) := by rw [ecw28, va_up_ne _ _ (by decide)]; exact hw_24
  have hw_34 : cw28 (42) = .inl (cI, 240, .inl (wf)) := by rw [ecw28, va_up_ne _ _ (by decide)]; exact hw_25
  have hw_35 : cw28 (43) = .inl (cI, 241, .inl (bf)) := by rw [ecw28, va_up_ne _ _ (by decide)]; exact hw_26
  have hw_36 : cw28 (44) = .inl (cI, 241, .inl (zf)) := by rw [ecw28, va_up_ne _ _ (by decide)]; exact hw_27
  refine z_aload_n C dX4_clear_22 0 rfl ?_
  refine z_iconst (v := nI 0) C dX4_clear_23 (by decide) ?_
  obtain ⟨cw37, ecw37⟩ : ∃ z : Nat → va_E, z = va_up (cw28) (37) (.inr (4, [.int (nI 0), .ref (ad (38)), .ref (ad (39)), .int (nI 0), .int (nI 0), .ref (ad (40)), .int (dn), .ref (ad (41)), .int (nI 0), .ref (ad (42)), .int (nI (ws.length)), .ref (ad (43)), .ref (ad (44))])) := ⟨_, rfl⟩
  refine z_put (Cn := RX4) (T := TX4) (NF := 13) (ci := 4) (ty := .int) (v := .int (nI 0)) C qX4_clear_0 tyX4_ok nmX4 rfl 8 (by decide) (C.2.2.2.2.1 _ qX4_clear_5) (fun _ h9 => h9) rfl (by decide +kernel) dX4_clear_24 (37) (by omega) hw_29 rfl rfl (Nat.le_of_ble_eq_true rfl) ?_
  refine z_cw ecw37.symm ?_
  have hw_38 : cw37 (37) = .inr (4, [.int (nI 0), .ref (ad (38)), .ref (ad (39)), .int (nI 0), .int (nI 0), .ref (ad (40)), .int (dn), .ref (ad (41)), .int (nI 0), .ref (ad (42)), .int (nI (ws.length)), .ref (ad (43)), .ref (ad (44))]) := by rw [ecw37, va_up_self]
  have hw_39 : cw37 (38) = .inl (cI, 3120, .inl (tf)) := by rw [ecw37, va_up_ne _ _ (by decide)]; exact hw_30
  have hw_40 : cw37 (39) = .inl (cI, 13, .inl (upd (lf) (0) ((nI 0)))) := by rw [ecw37, va_up_ne _ _ (by decide)]; exact hw_31
  have hw_41 : cw37 (40) = .inl (cI, 240, .inl (df)) := by rw [ecw37, va_up_ne _ _ (by decide)]; exact hw_32
  have hw_42 : cw37 (41) = .inl (cI, 16, .inl (pf)) := by rw [ecw37, va_up_ne _ _ (by decide)]; exact hw_33
  have hw_43 : cw37 (42) = .inl (cI, 240, .inl (wf)) := by rw [ecw37, va_up_ne _ _ (by decide)]; exact hw_34
  have hw_44 : cw37 (43) = .inl (cI, 241, .inl (bf)) := by rw [ecw37, va_up_ne _ _ (by decide)]; exact hw_35
  have hw_45 : cw37 (44) = .inl (cI, 241, .inl (zf)) := by rw [ecw37, va_up_ne _ _ (by decide)]; exact hw_36
  refine z_aload_n C dX4_clear_27 0 rfl ?_
  refine z_iconst (v := nI 0) C dX4_clear_28 (by decide) ?_
  obtain ⟨cw46, ecw46⟩ : ∃ z : Nat → va_E, z = va_up (cw37) (37) (.inr (4, [.int (nI 0), .ref (ad (38)), .ref (ad (39)), .int (nI 0), .int (nI 0), .ref (ad (40)), .int (dn), .ref (ad (41)), .int (nI 0), .ref (ad (42)), .int (nI 0), .ref (ad (43)), .ref (ad (44))])) := ⟨_, rfl⟩
  refine z_put (Cn := RX4) (T := TX4) (NF := 13) (ci := 4) (ty := .int) (v := .int (nI 0)) C qX4_clear_0 tyX4_ok nmX4 rfl 10 (by decide) (C.2.2.2.2.1 _ qX4_clear_6) (fun _ h9 => h9) rfl (by decide +kernel) dX4_clear_29 (37) (by omega) hw_38 rfl rfl (Nat.le_of_ble_eq_true rfl) ?_
  refine z_cw ecw46.symm ?_
  have hw_47 : cw46 (37) = .inr (4, [.int (nI 0), .ref (ad (38)), .ref (ad (39)), .int (nI 0), .int (nI 0), .ref (ad (40)), .int (dn), .ref (ad (41)), .int (nI 0), .ref (ad (42)), .int (nI 0), .ref (ad (43)), .ref (ad (44))]) := by rw [ecw46, va_up_self]
  have hw_48 : cw46 (38) = .inl (cI, 3120, .inl (tf)) := by rw [ecw46, va_up_ne _ _ (by decide)]; exact hw_39
  have hw_49 : cw46 (39) = .inl (cI, 13, .inl (upd (lf) (0) ((nI 0)))) := by rw [ecw46, va_up_ne _ _ (by decide)]; exact hw_40
  have hw_50 : cw46 (40) = .inl (cI, 240, .inl (df)) := by rw [ecw46, va_up_ne _ _ (by decide)]; exact hw_41
  have hw_51 : cw46 (41) = .inl (cI, 16, .inl (pf)) := by rw [ecw46, va_up_ne _ _ (by decide)]; exact hw_42
  have hw_52 : cw46 (42) = .inl (cI, 240, .inl (wf)) := by rw [ecw46, va_up_ne _ _ (by decide)]; exact hw_43
  have hw_53 : cw46 (43) = .inl (cI, 241, .inl (bf)) := by rw [ecw46, va_up_ne _ _ (by decide)]; exact hw_44
  have hw_54 : cw46 (44) = .inl (cI, 241, .inl (zf)) := by rw [ecw46, va_up_ne _ _ (by decide)]; exact hw_45
  exact z_vret C hr dX4_clear_32 (⟨⟨hw_47, ⟨by omega, tf, _, hw_48, hw_49, fun j hj => by rw [show j = 0 by omega]; exact ⟨Nat.zero_le _, pk_us, zIs_nil _⟩⟩, ⟨df, hw_50⟩, ⟨Nat.zero_le _, pf, hw_51, zIs_nil _⟩, ⟨Nat.zero_le _, wf, hw_52, zIs_nil _⟩, ⟨bf, hw_53⟩, zf, hw_54⟩, fun j hj => ((fun j hj => by rw [ecw46, va_up_ne _ _ (by omega)]; rw [ecw37, va_up_ne _ _ (by omega)]; rw [ecw28, va_up_ne _ _ (by omega)]; rw [ecw19, va_up_ne _ _ (by omega)]; rw [ecw10, va_up_ne _ _ (by omega)]; rw [ecw1, va_up_ne _ _ (by omega)]) : ∀ j, (j ≠ 37 ∧ j ≠ 39) → _ = cw j) j (by omega)⟩) (Nat.le_of_ble_eq_true rfl) (Nat.le_of_ble_eq_true rfl)

