theorem zRM_sn {cI : ClassId} {ad : Nat → Nat} {cw cw' : Nat → va_E} {past fut : Nat} {hs : Nat → List Int32} {pat ws ws' : List Int32} {th dn th' dn' : Int32} (h : zRM cI ad cw past fut hs pat ws th dn) (h1 : cw' 37 = .inr (4, [.int (th'), .ref (ad (38)), .ref (ad (39)), .int (nI (past)), .int (nI (fut)), .ref (ad (40)), .int (dn'), .ref (ad (41)), .int (nI (pat.length)), .ref (ad (42)), .int (nI (ws'.length)), .ref (ad (43)), .ref (ad (44))])) (h2 : ws'.length ≤ 240 ∧ ∃ wf, cw' 42 = .inl (cI, 240, .inl (wf)) ∧ zIs wf ws') (h3 : ∃ bf, cw' 43 = .inl (cI, 241, .inl (bf))) (h4 : ∃ zf, cw' 44 = .inl (cI, 241, .inl (zf))) (hk : ∀ j, (j ≠ 37 ∧ j ≠ 42 ∧ j ≠ 43 ∧ j ≠ 44) → cw' j = cw j) : zRM cI ad cw' past fut hs pat ws' th' dn' := by
  obtain ⟨m1, ⟨m2, tf, lf, m3, m4, m5⟩, ⟨df, m6⟩, ⟨m7, pf, m8, m9⟩, ⟨m10, wf, m11, m12⟩, ⟨bf, m13⟩, zf, m14⟩ := h
  exact ⟨h1, ⟨m2, tf, lf, (hk _ (by omega)).trans m3, (hk _ (by omega)).trans m4, m5⟩, ⟨df, (hk _ (by omega)).trans m6⟩, ⟨m7, pf, (hk _ (by omega)).trans m8, m9⟩, h2, h3, h4⟩
theorem qX4_snapshot_0 : ∀ w ∈ wsX40, w ∈ wsX4_snapshot := by decide +kernel
theorem qX4_snapshot_1 : Cond.fieldLink RX4 31 "PieceTextModel" "thrown" "I" ∈ wsX4_snapshot := by decide +kernel
theorem qX4_snapshot_2 : Cond.fieldLink RX4 76 "PieceTextModel" "wordCount" "I" ∈ wsX4_snapshot := by decide +kernel
theorem qX4_snapshot_3 : Cond.fieldLink RX4 22 "PieceTextModel" "words" "[I" ∈ wsX4_snapshot := by decide +kernel
theorem qX4_snapshot_4 : Cond.fieldLink RX4 25 "PieceTextModel" "begins" "[I" ∈ wsX4_snapshot := by decide +kernel
theorem qX4_snapshot_5 : Cond.fieldLink RX4 28 "PieceTextModel" "sizes" "[I" ∈ wsX4_snapshot := by decide +kernel
set_option maxHeartbeats 4000000 in
set_option maxRecDepth 100000 in
theorem c_M_snapshot (l : Launch) (D : va_G) (cI cR cL : ClassId) (B N : Nat) (ad : Nat → Nat) (cw : Nat → va_E) (hN : 45 < N) {past fut : Nat} {hs : Nat → List Int32} {pat ws : List Int32} {th dn : Int32} (hM : zRM cI ad cw past fut hs pat ws th dn) (hch : zCh (hs past)) : Met l yX4_snapshot wsX4_snapshot ({ frames := 1, cells := 0, slots := 0, locals := 21 } : Room) (va_Pc [.ref (ad (37))] (zI D vwCl (zTy cI cR cL) B N ad cw)) (zQi D vwCl B N ad (fun (v : Int32) (cw' : Nat → va_E) => v = nI (sLz (hs past) 0 []).length ∧ zRM cI ad cw' past fut hs pat (sLz (hs past) 0 []) (nI 0) dn ∧ ∀ j, (j < 37 ∨ 45 ≤ j) → cw' j = cw j)) 0 0 (zA B) := by
  obtain ⟨m1, ⟨m2, tf, lf, m3, m4, m5⟩, ⟨df, m6⟩, ⟨m7, pf, m8, m9⟩, ⟨m10, wf, m11, m12⟩, ⟨bf, m13⟩, zf, m14⟩ := id hM
  obtain ⟨k1, k2, k3⟩ := m5 past (by omega)
  refine z_ofW (cc := cX4_snapshot) (maxL := 7) (ret := (some .int)) (by decide) rfl (Nat.le_of_ble_eq_true rfl) ?_
  intro p e s m args below meth c C hr hnm
  refine z_lv (lv' := [(0, .ref (ad (37)))]) [0] rfl ?_
  refine z_aload_n C dX4_snapshot_0 0 rfl ?_
  refine z_iconst (v := nI 0) C dX4_snapshot_1 (by decide) ?_
  obtain ⟨cw1, ecw1⟩ : ∃ z : Nat → va_E, z = va_up (cw) (37) (.inr (4, [.int (nI 0), .ref (ad (38)), .ref (ad (39)), .int (nI (past)), .int (nI (fut)), .ref (ad (40)), .int (dn), .ref (ad (41)), .int (nI (pat.length)), .ref (ad (42)), .int (nI (ws.length)), .ref (ad (43)), .ref (ad (44))])) := ⟨_, rfl⟩
  refine z_put (Cn := RX4) (T := TX4) (NF := 13) (ci := 4) (ty := .int) (v := .int (nI 0)) C qX4_snapshot_0 tyX4_ok nmX4 rfl 0 (by decide) (C.2.2.2.2.1 _ qX4_snapshot_1) (fun _ h9 => h9) rfl (by decide +kernel) dX4_snapshot_2 (37) (by omega) m1 rfl rfl (Nat.le_of_ble_eq_true rfl) ?_
  refine z_cw ecw1.symm ?_
  have hw_2 : cw1 (37) = .inr (4, [.int (nI 0), .ref (ad (38)), .ref (ad (39)), .int (nI (past)), .int (nI (fut)), .ref (ad (40)), .int (dn), .ref (ad (41)), .int (nI (pat.length)), .ref (ad (42)), .int (nI (ws.length)), .ref (ad (43)), .ref (ad (44))]) := by rw [ecw1, va_up_self]
  have hw_3 : cw1 (38) = .inl (cI, 3120, .inl (tf)) := by rw [ecw1, va_up_ne _ _ (by decide)]; exact m3
  have hw_4 : cw1 (39) = .inl (cI, 13, .inl (lf)) := by rw [ecw1, va_up_ne _ _ (by decide)]; exact m4
  have hw_5 : cw1 (42) = .inl (cI, 240, .inl (wf)) := by rw [ecw1, va_up_ne _ _ (by decide)]; exact m11
  have hw_6 : cw1 (43) = .inl (cI, 241, .inl (bf)) := by rw [ecw1, va_up_ne _ _ (by decide)]; exact m13
  have hw_7 : cw1 (44) = .inl (cI, 241, .inl (zf)) := by rw [ecw1, va_up_ne _ _ (by decide)]; exact m14
  refine z_aload_n C dX4_snapshot_5 0 rfl ?_
  refine z_iconst (v := nI 0) C dX4_snapshot_6 (by decide) ?_
  obtain ⟨cw8, ecw8⟩ : ∃ z : Nat → va_E, z = va_up (cw1) (37) (.inr (4, [.int (nI 0), .ref (ad (38)), .ref (ad (39)), .int (nI (past)), .int (nI (fut)), .ref (ad (40)), .int (dn), .ref (ad (41)), .int (nI (pat.length)), .ref (ad (42)), .int (nI 0), .ref (ad (43)), .ref (ad (44))])) := ⟨_, rfl⟩
  refine z_put (Cn := RX4) (T := TX4) (NF := 13) (ci := 4) (ty := .int) (v := .int (nI 0)) C qX4_snapshot_0 tyX4_ok nmX4 rfl 10 (by decide) (C.2.2.2.2.1 _ qX4_snapshot_2) (fun _ h9 => h9) rfl (by decide +kernel) dX4_snapshot_7 (37) (by omega) hw_2 rfl rfl (Nat.le_of_ble_eq_true rfl) ?_
  refine z_cw ecw8.symm ?_
  have hw_9 : cw8 (37) = .inr (4, [.int (nI 0), .ref (ad (38)), .ref (ad (39)), .int (nI (past)), .int (nI (fut)), .ref (ad (40)), .int (dn), .ref (ad (41)), .int (nI (pat.length)), .ref (ad (42)), .int (nI 0), .ref (ad (43)), .ref (ad (44))]) := by rw [ecw8, va_up_self]
  have hw_10 : cw8 (38) = .inl (cI, 3120, .inl (tf)) := by rw [ecw8, va_up_ne _ _ (by decide)]; exact hw_3
  have hw_11 : cw8 (39) = .inl (cI, 13, .inl (lf)) := by rw [ecw8, va_up_ne _ _ (by decide)]; exact hw_4
  have hw_12 : cw8 (42) = .inl (cI, 240, .inl (wf)) := by rw [ecw8, va_up_ne _ _ (by decide)]; exact hw_5
  have hw_13 : cw8 (43) = .inl (cI, 241, .inl (bf)) := by rw [ecw8, va_up_ne _ _ (by decide)]; exact hw_6
  have hw_14 : cw8 (44) = .inl (cI, 241, .inl (zf)) := by rw [ecw8, va_up_ne _ _ (by decide)]; exact hw_7
  refine z_iconst (v := nI 0) C dX4_snapshot_10 (by decide) ?_
  refine z_istore_n (lv' := [(1, .int (nI 0)), (0, .ref (ad (37)))]) C dX4_snapshot_11 rfl (by decide) rfl ?_
  refine z_lv (lv' := [(1, .int (nI 0)), (0, .ref (ad (37)))]) [0, 1] rfl ?_
  suffices loop : ∀ (mm t0 : Nat) (P : List (List Int32)) (wk : List Int32) (cwk : Nat → va_E), (hs past).length ≤ t0 + mm → t0 ≤ (hs past).length → P.flatten = (hs past).take t0 → P.length ≤ t0 → zTri wk P → sLz ((hs past).drop t0) 0 wk = sLz (hs past) 0 [] → cwk 37 = .inr (4, [.int (nI 0), .ref (ad (38)), .ref (ad (39)), .int (nI (past)), .int (nI (fut)), .ref (ad (40)), .int (dn), .ref (ad (41)), .int (nI (pat.length)), .ref (ad (42)), .int (nI (wk.length)), .ref (ad (43)), .ref (ad (44))]) → (∃ d9, cwk 42 = .inl (cI, 240, .inl (d9)) ∧ zIs d9 wk) → (∃ b9, cwk 43 = .inl (cI, 241, .inl (b9)) ∧ ∀ a, a < P.length → b9 (a + 1) = nI (zSv P a)) → (∃ z9, cwk 44 = .inl (cI, 241, .inl (z9)) ∧ ∀ a, a < P.length → z9 (a + 1) = nI (P.getD a []).length) → (∀ j, (j ≠ 37 ∧ j ≠ 42 ∧ j ≠ 43 ∧ j ≠ 44) → cwk j = cw j) → zG p l e (headSpec wsX4_snapshot ({ frames := 1, cells := 0, slots := 0, locals := 21 } : Room)).room s m args below meth c (MQ below (zQi D vwCl B N ad (fun (v : Int32) (cw' : Nat → va_E) => v = nI (sLz (hs past) 0 []).length ∧ zRM cI ad cw' past fut hs pat (sLz (hs past) 0 []) (nI 0) dn ∧ ∀ j, (j < 37 ∨ 45 ≤ j) → cw' j = cw j)) args s 0 0 (zA B)) D vwCl B 7 N ad cwk 0 0 [(1, .int (nI t0)), (0, .ref (ad (37)))] 12 [] from loop (hs past).length 0 [] [] cw8 (by omega) (Nat.zero_le _) rfl (Nat.le_refl _) zTri_nil rfl hw_9 ⟨_, hw_12, zIs_nil _⟩ ⟨_, hw_13, fun a h1 => absurd h1 (Nat.not_lt_zero _)⟩ ⟨_, hw_14, fun a h1 => absurd h1 (Nat.not_lt_zero _)⟩ (fun j hj => ((fun j hj => by rw [ecw8, va_up_ne _ _ (by omega)]; rw [ecw1, va_up_ne _ _ (by omega)]) : ∀ j, (j ≠ 37) → _ = cw j) j hj.1)
  intro mm
  induction mm with
  | zero =>
    intro t0 P wk cwk hi ht0 hPf hPl hT hz q1 q2 qb qz hfrm
    obtain ⟨d9, q3, q4⟩ := id q2
    obtain ⟨b9, q5, q6⟩ := id qb
    obtain ⟨z9, q7, q8⟩ := id qz
    have hwl : wk.length = P.length := hT.1
    have hk_15 : cwk (38) = .inl (cI, 3120, .inl (tf)) := (hfrm (38) (by omega)).trans m3
    have hk_16 : cwk (39) = .inl (cI, 13, .inl (lf)) := (hfrm (39) (by omega)).trans m4
    refine z_iload_n C dX4_snapshot_12 0 rfl ?_
    refine z_aload_n C dX4_snapshot_13 1 rfl ?_
    refine z_calli (z_runV (As := []) (rest := [.int (nI t0)]) C (c_M_length l D cI cR cL B N ad cwk hN q1 hk_16 (by omega) (k2)) (cwV 0 C.2.2.2.2.1 gX4_snapshot_X4_length rfl rfl rfl (by decide +kernel) ⟨Nat.le_of_ble_eq_true rfl, Nat.le_of_ble_eq_true rfl⟩) (by omega) q1 rfl rfl rfl rfl (Nat.le_of_ble_eq_true rfl) dX4_snapshot_14 ⟨Nat.le_of_ble_eq_true rfl, Nat.le_of_ble_eq_true rfl⟩) (fun r17 cw18 hp19 => ?_)
    refine z_cw hp19.2 ?_
    refine z_top hp19.1 ?_
    refine z_icmp_ge (tgt := 269) C dX4_snapshot_17 (by decide) (fun c20 => ?_) (fun c20 => ?_)
    · skip
      have hge : (hs past).length ≤ t0 := (nI_leI (by omega) (by omega)).mp c20
      rw [List.drop_eq_nil_of_le hge, sLz, if_neg (Nat.lt_irrefl 0)] at hz
      refine z_aload_n C dX4_snapshot_269 1 rfl ?_
      refine z_get (Cn := RX4) (T := TX4) (NF := 13) (ci := 4) (v := .int (nI (wk.length))) C qX4_snapshot_0 rfl 10 (by decide) (C.2.2.2.2.1 _ qX4_snapshot_2) (fun _ h9 => h9) dX4_snapshot_270 (37) (by omega) q1 rfl ?_
      exact z_iret C hr dX4_snapshot_273 (⟨by rw [← hz], by rw [← hz]; exact zRM_sn hM q1 ⟨by omega, _, q3, q4⟩ ⟨_, q5⟩ ⟨_, q7⟩ hfrm, fun j hj => hfrm j (by omega)⟩) (Nat.le_of_ble_eq_true rfl) (Nat.le_of_ble_eq_true rfl)
    · skip
      exact absurd (nI_le (by omega) (by omega)) c20
  | succ mm ih =>
    intro t0 P wk cwk hi ht0 hPf hPl hT hz q1 q2 qb qz hfrm
    obtain ⟨d9, q3, q4⟩ := id q2
    obtain ⟨b9, q5, q6⟩ := id qb
    obtain ⟨z9, q7, q8⟩ := id qz
    have hwl : wk.length = P.length := hT.1
    have hk_21 : cwk (38) = .inl (cI, 3120, .inl (tf)) := (hfrm (38) (by omega)).trans m3
    have hk_22 : cwk (39) = .inl (cI, 13, .inl (lf)) := (hfrm (39) (by omega)).trans m4
    refine z_iload_n C dX4_snapshot_12 0 rfl ?_
    refine z_aload_n C dX4_snapshot_13 1 rfl ?_
    refine z_calli (z_runV (As := []) (rest := [.int (nI t0)]) C (c_M_length l D cI cR cL B N ad cwk hN q1 hk_22 (by omega) (k2)) (cwV 0 C.2.2.2.2.1 gX4_snapshot_X4_length rfl rfl rfl (by decide +kernel) ⟨Nat.le_of_ble_eq_true rfl, Nat.le_of_ble_eq_true rfl⟩) (by omega) q1 rfl rfl rfl rfl (Nat.le_of_ble_eq_true rfl) dX4_snapshot_14 ⟨Nat.le_of_ble_eq_true rfl, Nat.le_of_ble_eq_true rfl⟩) (fun r23 cw24 hp25 => ?_)
    refine z_cw hp25.2 ?_
    refine z_top hp25.1 ?_
    refine z_icmp_ge (tgt := 269) C dX4_snapshot_17 (by decide) (fun c26 => ?_) (fun c26 => ?_)
    · skip
      have hge : (hs past).length ≤ t0 := (nI_leI (by omega) (by omega)).mp c26
      rw [List.drop_eq_nil_of_le hge, sLz, if_neg (Nat.lt_irrefl 0)] at hz
      refine z_aload_n C dX4_snapshot_269 1 rfl ?_
      refine z_get (Cn := RX4) (T := TX4) (NF := 13) (ci := 4) (v := .int (nI (wk.length))) C qX4_snapshot_0 rfl 10 (by decide) (C.2.2.2.2.1 _ qX4_snapshot_2) (fun _ h9 => h9) dX4_snapshot_270 (37) (by omega) q1 rfl ?_
      exact z_iret C hr dX4_snapshot_273 (⟨by rw [← hz], by rw [← hz]; exact zRM_sn hM q1 ⟨by omega, _, q3, q4⟩ ⟨_, q5⟩ ⟨_, q7⟩ hfrm, fun j hj => hfrm j (by omega)⟩) (Nat.le_of_ble_eq_true rfl) (Nat.le_of_ble_eq_true rfl)
    · skip
      have hlt : t0 < (hs past).length := Nat.lt_of_not_le (fun h9 => c26 (nI_le h9 (by omega)))
      have hWl : ((hs past).drop t0).length = (hs past).length - t0 := List.length_drop
      have hWc : zCh ((hs past).drop t0) := fun x hx => hch x (List.mem_of_mem_drop hx)
      have hfl : P.flatten.length = t0 := by rw [hPf, List.length_take]; omega
      have tail : ∀ (k0 m0 : Nat), k0 ≤ P.length → t0 + m0 ≤ (hs past).length → ph P k0 = ((hs past).drop t0).take m0 → (∀ j, j < P.length + 1 → ph P j = ((hs past).drop t0).take (ph P j).length → (ph P j).length ≤ m0) → zG p l e (headSpec wsX4_snapshot ({ frames := 1, cells := 0, slots := 0, locals := 21 } : Room)).room s m args below meth c (MQ below (zQi D vwCl B N ad (fun (v : Int32) (cw' : Nat → va_E) => v = nI (sLz (hs past) 0 []).length ∧ zRM cI ad cw' past fut hs pat (sLz (hs past) 0 []) (nI 0) dn ∧ ∀ j, (j < 37 ∨ 45 ≤ j) → cw' j = cw j)) args s 0 0 (zA B)) D vwCl B 7 N ad cwk 0 0 [(3, .int (nI m0)), (2, .int (nI k0)), (1, .int (nI t0)), (0, .ref (ad (37)))] 163 [] := by
        intro k0 m0 hk0 hm0 hkm hbest
        refine z_iload_n C dX4_snapshot_163 2 rfl ?_
        refine z_iload_n C dX4_snapshot_164 0 rfl ?_
        refine z_iadd C dX4_snapshot_165 ?_
        refine z_top (y := nI (t0 + m0)) (nI_add _ _) ?_
        refine z_aload_n C dX4_snapshot_166 3 rfl ?_
        refine z_calli (z_runV (As := []) (rest := [.int (nI (t0 + m0))]) C (c_M_length l D cI cR cL B N ad cwk hN q1 hk_22 (by omega) (k2)) (cwV 0 C.2.2.2.2.1 gX4_snapshot_X4_length rfl rfl rfl (by decide +kernel) ⟨Nat.le_of_ble_eq_true rfl, Nat.le_of_ble_eq_true rfl⟩) (by omega) q1 rfl rfl rfl rfl (Nat.le_of_ble_eq_true rfl) dX4_snapshot_167 ⟨Nat.le_of_ble_eq_true rfl, Nat.le_of_ble_eq_true rfl⟩) (fun r27 cw28 hp29 => ?_)
        refine z_cw hp29.2 ?_
        refine z_top hp29.1 ?_
        refine z_icmp_ne (tgt := 177) C dX4_snapshot_170 (by decide) (fun c30 => ?_) (fun c30 => ?_)
        · skip
          have he : t0 + m0 < (hs past).length := by have h9 : ¬ t0 + m0 = (hs past).length := fun h8 => c30 (by rw [h8]); omega
          have hon := sLz_on hT (by omega) hWc hk0 (by omega) hkm (fun j hj => hbest j (by omega)) (x := tf (240 * past + (t0 + m0))) (by rw [List.getElem?_drop]; exact k3 _ he)
          rw [hon.1, List.drop_drop] at hz
          refine z_iconst (v := nI 0) C dX4_snapshot_177 (by decide) ?_
          refine z_istore (lv' := [(4, .int (nI 0)), (3, .int (nI m0)), (2, .int (nI k0)), (1, .int (nI t0)), (0, .ref (ad (37)))]) C dX4_snapshot_178 (by decide) rfl ?_
          refine z_aload_n C dX4_snapshot_180 4 rfl ?_
          refine z_get (Cn := RX4) (T := TX4) (NF := 13) (ci := 4) (v := .ref (ad (42))) C qX4_snapshot_0 rfl 9 (by decide) (C.2.2.2.2.1 _ qX4_snapshot_3) (fun _ h9 => h9) dX4_snapshot_181 (37) (by omega) q1 rfl ?_
          refine z_aload_n C dX4_snapshot_184 4 rfl ?_
          refine z_get (Cn := RX4) (T := TX4) (NF := 13) (ci := 4) (v := .int (nI (wk.length))) C qX4_snapshot_0 rfl 10 (by decide) (C.2.2.2.2.1 _ qX4_snapshot_2) (fun _ h9 => h9) dX4_snapshot_185 (37) (by omega) q1 rfl ?_
          refine z_sipush (v := nI 257) C dX4_snapshot_188 (by decide) ?_
          refine z_iload_n C dX4_snapshot_191 2 rfl ?_
          refine z_imul C dX4_snapshot_192 ?_
          refine z_top (y := nI (257 * k0)) (pk_mul _ _) ?_
          refine z_iload C dX4_snapshot_193 0 rfl ?_
          refine z_if_eq (tgt := 204) C dX4_snapshot_195 (by decide) (fun c31 => ?_) (fun c31 => (c31 (by decide)).elim)
          refine z_aload_n C dX4_snapshot_204 4 rfl ?_
          refine z_iload_n C dX4_snapshot_205 3 rfl ?_
          refine z_iload_n C dX4_snapshot_206 1 rfl ?_
          refine z_iadd C dX4_snapshot_207 ?_
          refine z_top (y := nI (t0 + m0)) (nI_add _ _) ?_
          refine z_calli (z_runV (As := [.int (nI (t0 + m0))]) (rest := [.int (nI (257 * k0)), .int (nI (wk.length)), .ref (ad (42))]) C (c_M_charAt l D cI cR cL B N ad cwk hN q1 hk_21 (i := t0 + m0) (by omega)) (cwV 1 C.2.2.2.2.1 gX4_snapshot_X4_charAt rfl rfl rfl (by decide +kernel) ⟨Nat.le_of_ble_eq_true rfl, Nat.le_of_ble_eq_true rfl⟩) (by omega) q1 rfl rfl rfl rfl (Nat.le_of_ble_eq_true rfl) dX4_snapshot_208 ⟨Nat.le_of_ble_eq_true rfl, Nat.le_of_ble_eq_true rfl⟩) (fun r32 cw33 hp34 => ?_)
          refine z_cw hp34.2 ?_
          refine z_top hp34.1 ?_
          refine z_iadd C dX4_snapshot_211 ?_
          obtain ⟨cw35, ecw35⟩ : ∃ z : Nat → va_E, z = va_up (cwk) (42) (.inl (cI, 240, .inl (upd (d9) (wk.length) (((nI (257 * k0)) + (tf (240 * past + (t0 + m0)))))))) := ⟨_, rfl⟩
          refine z_iast C 0 rfl dX4_snapshot_212 (42) (by omega) q3 (wk.length) (rfl) (by omega) (by decide) ?_
          refine z_cw ecw35.symm ?_
          have hw_36 : cw35 (37) = .inr (4, [.int (nI 0), .ref (ad (38)), .ref (ad (39)), .int (nI (past)), .int (nI (fut)), .ref (ad (40)), .int (dn), .ref (ad (41)), .int (nI (pat.length)), .ref (ad (42)), .int (nI (wk.length)), .ref (ad (43)), .ref (ad (44))]) := by rw [ecw35, va_up_ne _ _ (by decide)]; exact q1
          have hw_37 : cw35 (42) = .inl (cI, 240, .inl (upd (d9) (wk.length) (((nI (257 * k0)) + (tf (240 * past + (t0 + m0))))))) := by rw [ecw35, va_up_self]
          have hw_38 : cw35 (43) = .inl (cI, 241, .inl (b9)) := by rw [ecw35, va_up_ne _ _ (by decide)]; exact q5
          have hw_39 : cw35 (44) = .inl (cI, 241, .inl (z9)) := by rw [ecw35, va_up_ne _ _ (by decide)]; exact q7
          have hw_40 : cw35 (38) = .inl (cI, 3120, .inl (tf)) := by rw [ecw35, va_up_ne _ _ (by decide)]; exact hk_21
          have hw_41 : cw35 (39) = .inl (cI, 13, .inl (lf)) := by rw [ecw35, va_up_ne _ _ (by decide)]; exact hk_22
          refine z_aload_n C dX4_snapshot_213 4 rfl ?_
          refine z_dup C dX4_snapshot_214 rfl ?_
          refine z_get (Cn := RX4) (T := TX4) (NF := 13) (ci := 4) (v := .int (nI (wk.length))) C qX4_snapshot_0 rfl 10 (by decide) (C.2.2.2.2.1 _ qX4_snapshot_2) (fun _ h9 => h9) dX4_snapshot_215 (37) (by omega) hw_36 rfl ?_
          refine z_iconst (v := nI 1) C dX4_snapshot_218 (by decide) ?_
          refine z_iadd C dX4_snapshot_219 ?_
          refine z_top (y := nI (wk.length + 1)) (nI_1 _) ?_
          obtain ⟨cw42, ecw42⟩ : ∃ z : Nat → va_E, z = va_up (cw35) (37) (.inr (4, [.int (nI 0), .ref (ad (38)), .ref (ad (39)), .int (nI (past)), .int (nI (fut)), .ref (ad (40)), .int (dn), .ref (ad (41)), .int (nI (pat.length)), .ref (ad (42)), .int (nI (wk.length + 1)), .ref (ad (43)), .ref (ad (44))])) := ⟨_, rfl⟩
          refine z_put (Cn := RX4) (T := TX4) (NF := 13) (ci := 4) (ty := .int) (v := .int (nI (wk.length + 1))) C qX4_snapshot_0 tyX4_ok nmX4 rfl 10 (by decide) (C.2.2.2.2.1 _ qX4_snapshot_2) (fun _ h9 => h9) rfl (by decide +kernel) dX4_snapshot_220 (37) (by omega) hw_36 rfl rfl (Nat.le_of_ble_eq_true rfl) ?_
          refine z_cw ecw42.symm ?_
          have hw_43 : cw42 (37) = .inr (4, [.int (nI 0), .ref (ad (38)), .ref (ad (39)), .int (nI (past)), .int (nI (fut)), .ref (ad (40)), .int (dn), .ref (ad (41)), .int (nI (pat.length)), .ref (ad (42)), .int (nI (wk.length + 1)), .ref (ad (43)), .ref (ad (44))]) := by rw [ecw42, va_up_self]
          have hw_44 : cw42 (42) = .inl (cI, 240, .inl (upd (d9) (wk.length) (((nI (257 * k0)) + (tf (240 * past + (t0 + m0))))))) := by rw [ecw42, va_up_ne _ _ (by decide)]; exact hw_37
          have hw_45 : cw42 (43) = .inl (cI, 241, .inl (b9)) := by rw [ecw42, va_up_ne _ _ (by decide)]; exact hw_38
          have hw_46 : cw42 (44) = .inl (cI, 241, .inl (z9)) := by rw [ecw42, va_up_ne _ _ (by decide)]; exact hw_39
          have hw_47 : cw42 (38) = .inl (cI, 3120, .inl (tf)) := by rw [ecw42, va_up_ne _ _ (by decide)]; exact hw_40
          have hw_48 : cw42 (39) = .inl (cI, 13, .inl (lf)) := by rw [ecw42, va_up_ne _ _ (by decide)]; exact hw_41
          refine z_aload_n C dX4_snapshot_223 4 rfl ?_
          refine z_get (Cn := RX4) (T := TX4) (NF := 13) (ci := 4) (v := .ref (ad (43))) C qX4_snapshot_0 rfl 11 (by decide) (C.2.2.2.2.1 _ qX4_snapshot_4) (fun _ h9 => h9) dX4_snapshot_224 (37) (by omega) hw_43 rfl ?_
          refine z_aload_n C dX4_snapshot_227 4 rfl ?_
          refine z_get (Cn := RX4) (T := TX4) (NF := 13) (ci := 4) (v := .int (nI (wk.length + 1))) C qX4_snapshot_0 rfl 10 (by decide) (C.2.2.2.2.1 _ qX4_snapshot_2) (fun _ h9 => h9) dX4_snapshot_228 (37) (by omega) hw_43 rfl ?_
          refine z_iload_n C dX4_snapshot_231 3 rfl ?_
          obtain ⟨cw49, ecw49⟩ : ∃ z : Nat → va_E, z = va_up (cw42) (43) (.inl (cI, 241, .inl (upd (b9) (wk.length + 1) ((nI t0))))) := ⟨_, rfl⟩
          refine z_iast C 0 rfl dX4_snapshot_232 (43) (by omega) hw_45 (wk.length + 1) (rfl) (by omega) (by decide) ?_
          refine z_cw ecw49.symm ?_
          have hw_50 : cw49 (37) = .inr (4, [.int (nI 0), .ref (ad (38)), .ref (ad (39)), .int (nI (past)), .int (nI (fut)), .ref (ad (40)), .int (dn), .ref (ad (41)), .int (nI (pat.length)), .ref (ad (42)), .int (nI (wk.length + 1)), .ref (ad (43)), .ref (ad (44))]) := by rw [ecw49, va_up_ne _ _ (by decide)]; exact hw_43
          have hw_51 : cw49 (42) = .inl (cI, 240, .inl (upd (d9) (wk.length) (((nI (257 * k0)) + (tf (240 * past + (t0 + m0))))))) := by rw [ecw49, va_up_ne _ _ (by decide)]; exact hw_44
          have hw_52 : cw49 (43) = .inl (cI, 241, .inl (upd (b9) (wk.length + 1) ((nI t0)))) := by rw [ecw49, va_up_self]
          have hw_53 : cw49 (44) = .inl (cI, 241, .inl (z9)) := by rw [ecw49, va_up_ne _ _ (by decide)]; exact hw_46
          have hw_54 : cw49 (38) = .inl (cI, 3120, .inl (tf)) := by rw [ecw49, va_up_ne _ _ (by decide)]; exact hw_47
          have hw_55 : cw49 (39) = .inl (cI, 13, .inl (lf)) := by rw [ecw49, va_up_ne _ _ (by decide)]; exact hw_48
          refine z_aload_n C dX4_snapshot_233 4 rfl ?_
          refine z_get (Cn := RX4) (T := TX4) (NF := 13) (ci := 4) (v := .ref (ad (44))) C qX4_snapshot_0 rfl 12 (by decide) (C.2.2.2.2.1 _ qX4_snapshot_5) (fun _ h9 => h9) dX4_snapshot_234 (37) (by omega) hw_50 rfl ?_
          refine z_aload_n C dX4_snapshot_237 4 rfl ?_
          refine z_get (Cn := RX4) (T := TX4) (NF := 13) (ci := 4) (v := .int (nI (wk.length + 1))) C qX4_snapshot_0 rfl 10 (by decide) (C.2.2.2.2.1 _ qX4_snapshot_2) (fun _ h9 => h9) dX4_snapshot_238 (37) (by omega) hw_50 rfl ?_
          refine z_iload C dX4_snapshot_241 0 rfl ?_
          refine z_if_eq (tgt := 250) C dX4_snapshot_243 (by decide) (fun c56 => ?_) (fun c56 => (c56 (by decide)).elim)
          refine z_iload_n C dX4_snapshot_250 1 rfl ?_
          refine z_iconst (v := nI 1) C dX4_snapshot_251 (by decide) ?_
          refine z_iadd C dX4_snapshot_252 ?_
          refine z_top (y := nI (m0 + 1)) (nI_1 _) ?_
          obtain ⟨cw57, ecw57⟩ : ∃ z : Nat → va_E, z = va_up (cw49) (44) (.inl (cI, 241, .inl (upd (z9) (wk.length + 1) ((nI (m0 + 1)))))) := ⟨_, rfl⟩
          refine z_iast C 0 rfl dX4_snapshot_253 (44) (by omega) hw_53 (wk.length + 1) (rfl) (by omega) (by decide) ?_
          refine z_cw ecw57.symm ?_
          have hw_58 : cw57 (37) = .inr (4, [.int (nI 0), .ref (ad (38)), .ref (ad (39)), .int (nI (past)), .int (nI (fut)), .ref (ad (40)), .int (dn), .ref (ad (41)), .int (nI (pat.length)), .ref (ad (42)), .int (nI (wk.length + 1)), .ref (ad (43)), .ref (ad (44))]) := by rw [ecw57, va_up_ne _ _ (by decide)]; exact hw_50
          have hw_59 : cw57 (42) = .inl (cI, 240, .inl (upd (d9) (wk.length) (((nI (257 * k0)) + (tf (240 * past + (t0 + m0))))))) := by rw [ecw57, va_up_ne _ _ (by decide)]; exact hw_51
          have hw_60 : cw57 (43) = .inl (cI, 241, .inl (upd (b9) (wk.length + 1) ((nI t0)))) := by rw [ecw57, va_up_ne _ _ (by decide)]; exact hw_52
          have hw_61 : cw57 (44) = .inl (cI, 241, .inl (upd (z9) (wk.length + 1) ((nI (m0 + 1))))) := by rw [ecw57, va_up_self]
          have hw_62 : cw57 (38) = .inl (cI, 3120, .inl (tf)) := by rw [ecw57, va_up_ne _ _ (by decide)]; exact hw_54
          have hw_63 : cw57 (39) = .inl (cI, 13, .inl (lf)) := by rw [ecw57, va_up_ne _ _ (by decide)]; exact hw_55
          refine z_iload_n C dX4_snapshot_254 3 rfl ?_
          refine z_aload_n C dX4_snapshot_255 4 rfl ?_
          refine z_get (Cn := RX4) (T := TX4) (NF := 13) (ci := 4) (v := .ref (ad (44))) C qX4_snapshot_0 rfl 12 (by decide) (C.2.2.2.2.1 _ qX4_snapshot_5) (fun _ h9 => h9) dX4_snapshot_256 (37) (by omega) hw_58 rfl ?_
          refine z_aload_n C dX4_snapshot_259 4 rfl ?_
          refine z_get (Cn := RX4) (T := TX4) (NF := 13) (ci := 4) (v := .int (nI (wk.length + 1))) C qX4_snapshot_0 rfl 10 (by decide) (C.2.2.2.2.1 _ qX4_snapshot_2) (fun _ h9 => h9) dX4_snapshot_260 (37) (by omega) hw_58 rfl ?_
          refine z_iald C 0 rfl dX4_snapshot_263 (44) (by omega) hw_61 (wk.length + 1) (rfl) (by omega) (by decide) ?_
          refine z_top (y := nI (m0 + 1)) (by rw [pk_us]) ?_
          refine z_iadd C dX4_snapshot_264 ?_
          refine z_top (y := nI (t0 + (m0 + 1))) (nI_add _ _) ?_
          refine z_istore_n (lv' := [(1, .int (nI (t0 + (m0 + 1)))), (4, .int (nI 0)), (3, .int (nI m0)), (2, .int (nI k0)), (0, .ref (ad (37)))]) C dX4_snapshot_265 rfl (by decide) rfl ?_
          refine z_goto (tgt := 12) C dX4_snapshot_266 (by decide) ?_
          refine z_lv (lv' := [(1, .int (nI (t0 + (m0 + 1)))), (0, .ref (ad (37)))]) [0, 4] rfl ?_
          have hQl : (((hs past).drop t0).take (m0 + 1)).length = m0 + 1 := by rw [List.length_take]; omega
          refine ih (t0 + (m0 + 1)) (P ++ [((hs past).drop t0).take (m0 + 1)]) (wk ++ [nI (257 * k0) + tf (240 * past + (t0 + m0))]) _ (by omega) (by omega) (by rw [flat_one, hPf, ← List.take_add]) (by rw [List.length_append, List.length_singleton]; omega) hon.2 hz (by rw [hw_58, len_snoc]) ⟨_, hw_59, zIs_add q4 _⟩ ⟨_, hw_60, fun a h1 => ?_⟩ ⟨_, hw_61, fun a h1 => ?_⟩ (fun j hj => (((fun j hj => by rw [ecw57, va_up_ne _ _ (by omega)]; rw [ecw49, va_up_ne _ _ (by omega)]; rw [ecw42, va_up_ne _ _ (by omega)]; rw [ecw35, va_up_ne _ _ (by omega)]) : ∀ j, (j ≠ 37 ∧ j ≠ 42 ∧ j ≠ 43 ∧ j ≠ 44) → _ = cwk j) j hj).trans (hfrm j hj))
          · rw [List.length_append, List.length_singleton] at h1
            by_cases h9 : a = P.length
            · rw [h9, ← hwl, pk_us, hwl, zSv_app (Nat.le_refl _), zSv_all (Nat.le_refl _), hfl]
            · rw [pk_un (by omega), zSv_app (by omega)]; exact q6 a (by omega)
          · rw [List.length_append, List.length_singleton] at h1
            by_cases h9 : a = P.length
            · rw [h9, ← hwl, pk_us, hwl, List.getD_eq_getElem?_getD, List.getElem?_append_right (Nat.le_refl _), Nat.sub_self]; show _ = nI (((hs past).drop t0).take (m0 + 1)).length; rw [hQl]
            · rw [pk_un (by omega), List.getD_eq_getElem?_getD, List.getElem?_append_left (by omega), ← List.getD_eq_getElem?_getD]; exact q8 a (by omega)
        · skip
          have he : t0 + m0 = (hs past).length := (nI_eq (by omega) (by omega)).mp c30
          rw [sLz_end hT (by omega) hWc hk0 (by omega) (by omega) hkm] at hz
          refine z_iconst (v := nI 1) C dX4_snapshot_173 (by decide) ?_
          refine z_goto (tgt := 178) C dX4_snapshot_174 (by decide) ?_
          refine z_istore (lv' := [(4, .int (nI 1)), (3, .int (nI m0)), (2, .int (nI k0)), (1, .int (nI t0)), (0, .ref (ad (37)))]) C dX4_snapshot_178 (by decide) rfl ?_
          refine z_aload_n C dX4_snapshot_180 4 rfl ?_
          refine z_get (Cn := RX4) (T := TX4) (NF := 13) (ci := 4) (v := .ref (ad (42))) C qX4_snapshot_0 rfl 9 (by decide) (C.2.2.2.2.1 _ qX4_snapshot_3) (fun _ h9 => h9) dX4_snapshot_181 (37) (by omega) q1 rfl ?_
          refine z_aload_n C dX4_snapshot_184 4 rfl ?_
          refine z_get (Cn := RX4) (T := TX4) (NF := 13) (ci := 4) (v := .int (nI (wk.length))) C qX4_snapshot_0 rfl 10 (by decide) (C.2.2.2.2.1 _ qX4_snapshot_2) (fun _ h9 => h9) dX4_snapshot_185 (37) (by omega) q1 rfl ?_
          refine z_sipush (v := nI 257) C dX4_snapshot_188 (by decide) ?_
          refine z_iload_n C dX4_snapshot_191 2 rfl ?_
          refine z_imul C dX4_snapshot_192 ?_
          refine z_top (y := nI (257 * k0)) (pk_mul _ _) ?_
          refine z_iload C dX4_snapshot_193 0 rfl ?_
          refine z_if_eq (tgt := 204) C dX4_snapshot_195 (by decide) (fun c64 => absurd c64 (by decide)) (fun c64 => ?_)
          refine z_sipush (v := nI 256) C dX4_snapshot_198 (by decide) ?_
          refine z_goto (tgt := 211) C dX4_snapshot_201 (by decide) ?_
          refine z_iadd C dX4_snapshot_211 ?_
          refine z_top (y := nI (257 * k0 + 256)) (nI_add _ _) ?_
          obtain ⟨cw65, ecw65⟩ : ∃ z : Nat → va_E, z = va_up (cwk) (42) (.inl (cI, 240, .inl (upd (d9) (wk.length) ((nI (257 * k0 + 256)))))) := ⟨_, rfl⟩
          refine z_iast C 0 rfl dX4_snapshot_212 (42) (by omega) q3 (wk.length) (rfl) (by omega) (by decide) ?_
          refine z_cw ecw65.symm ?_
          have hw_66 : cw65 (37) = .inr (4, [.int (nI 0), .ref (ad (38)), .ref (ad (39)), .int (nI (past)), .int (nI (fut)), .ref (ad (40)), .int (dn), .ref (ad (41)), .int (nI (pat.length)), .ref (ad (42)), .int (nI (wk.length)), .ref (ad (43)), .ref (ad (44))]) := by rw [ecw65, va_up_ne _ _ (by decide)]; exact q1
          have hw_67 : cw65 (42) = .inl (cI, 240, .inl (upd (d9) (wk.length) ((nI (257 * k0 + 256))))) := by rw [ecw65, va_up_self]
          have hw_68 : cw65 (43) = .inl (cI, 241, .inl (b9)) := by rw [ecw65, va_up_ne _ _ (by decide)]; exact q5
          have hw_69 : cw65 (44) = .inl (cI, 241, .inl (z9)) := by rw [ecw65, va_up_ne _ _ (by decide)]; exact q7
          have hw_70 : cw65 (38) = .inl (cI, 3120, .inl (tf)) := by rw [ecw65, va_up_ne _ _ (by decide)]; exact hk_21
          have hw_71 : cw65 (39) = .inl (cI, 13, .inl (lf)) := by rw [ecw65, va_up_ne _ _ (by decide)]; exact hk_22
          refine z_aload_n C dX4_snapshot_213 4 rfl ?_
          refine z_dup C dX4_snapshot_214 rfl ?_
          refine z_get (Cn := RX4) (T := TX4) (NF := 13) (ci := 4) (v := .int (nI (wk.length))) C qX4_snapshot_0 rfl 10 (by decide) (C.2.2.2.2.1 _ qX4_snapshot_2) (fun _ h9 => h9) dX4_snapshot_215 (37) (by omega) hw_66 rfl ?_
          refine z_iconst (v := nI 1) C dX4_snapshot_218 (by decide) ?_
          refine z_iadd C dX4_snapshot_219 ?_
          refine z_top (y := nI (wk.length + 1)) (nI_1 _) ?_
          obtain ⟨cw72, ecw72⟩ : ∃ z : Nat → va_E, z = va_up (cw65) (37) (.inr (4, [.int (nI 0), .ref (ad (38)), .ref (ad (39)), .int (nI (past)), .int (nI (fut)), .ref (ad (40)), .int (dn), .ref (ad (41)), .int (nI (pat.length)), .ref (ad (42)), .int (nI (wk.length + 1)), .ref (ad (43)), .ref (ad (44))])) := ⟨_, rfl⟩
          refine z_put (Cn := RX4) (T := TX4) (NF := 13) (ci := 4) (ty := .int) (v := .int (nI (wk.length + 1))) C qX4_snapshot_0 tyX4_ok nmX4 rfl 10 (by decide) (C.2.2.2.2.1 _ qX4_snapshot_2) (fun _ h9 => h9) rfl (by decide +kernel) dX4_snapshot_220 (37) (by omega) hw_66 rfl rfl (Nat.le_of_ble_eq_true rfl) ?_
          refine z_cw ecw72.symm ?_
          have hw_73 : cw72 (37) = .inr (4, [.int (nI 0), .ref (ad (38)), .ref (ad (39)), .int (nI (past)), .int (nI (fut)), .ref (ad (40)), .int (dn), .ref (ad (41)), .int (nI (pat.length)), .ref (ad (42)), .int (nI (wk.length + 1)), .ref (ad (43)), .ref (ad (44))]) := by rw [ecw72, va_up_self]
          have hw_74 : cw72 (42) = .inl (cI, 240, .inl (upd (d9) (wk.length) ((nI (257 * k0 + 256))))) := by rw [ecw72, va_up_ne _ _ (by decide)]; exact hw_67
          have hw_75 : cw72 (43) = .inl (cI, 241, .inl (b9)) := by rw [ecw72, va_up_ne _ _ (by decide)]; exact hw_68
          have hw_76 : cw72 (44) = .inl (cI, 241, .inl (z9)) := by rw [ecw72, va_up_ne _ _ (by decide)]; exact hw_69
          have hw_77 : cw72 (38) = .inl (cI, 3120, .inl (tf)) := by rw [ecw72, va_up_ne _ _ (by decide)]; exact hw_70
          have hw_78 : cw72 (39) = .inl (cI, 13, .inl (lf)) := by rw [ecw72, va_up_ne _ _ (by decide)]; exact hw_71
          refine z_aload_n C dX4_snapshot_223 4 rfl ?_
          refine z_get (Cn := RX4) (T := TX4) (NF := 13) (ci := 4) (v := .ref (ad (43))) C qX4_snapshot_0 rfl 11 (by decide) (C.2.2.2.2.1 _ qX4_snapshot_4) (fun _ h9 => h9) dX4_snapshot_224 (37) (by omega) hw_73 rfl ?_
          refine z_aload_n C dX4_snapshot_227 4 rfl ?_
          refine z_get (Cn := RX4) (T := TX4) (NF := 13) (ci := 4) (v := .int (nI (wk.length + 1))) C qX4_snapshot_0 rfl 10 (by decide) (C.2.2.2.2.1 _ qX4_snapshot_2) (fun _ h9 => h9) dX4_snapshot_228 (37) (by omega) hw_73 rfl ?_
          refine z_iload_n C dX4_snapshot_231 3 rfl ?_
          obtain ⟨cw79, ecw79⟩ : ∃ z : Nat → va_E, z = va_up (cw72) (43) (.inl (cI, 241, .inl (upd (b9) (wk.length + 1) ((nI t0))))) := ⟨_, rfl⟩
          refine z_iast C 0 rfl dX4_snapshot_232 (43) (by omega) hw_75 (wk.length + 1) (rfl) (by omega) (by decide) ?_
          refine z_cw ecw79.symm ?_
          have hw_80 : cw79 (37) = .inr (4, [.int (nI 0), .ref (ad (38)), .ref (ad (39)), .int (nI (past)), .int (nI (fut)), .ref (ad (40)), .int (dn), .ref (ad (41)), .int (nI (pat.length)), .ref (ad (42)), .int (nI (wk.length + 1)), .ref (ad (43)), .ref (ad (44))]) := by rw [ecw79, va_up_ne _ _ (by decide)]; exact hw_73
          have hw_81 : cw79 (42) = .inl (cI, 240, .inl (upd (d9) (wk.length) ((nI (257 * k0 + 256))))) := by rw [ecw79, va_up_ne _ _ (by decide)]; exact hw_74
          have hw_82 : cw79 (43) = .inl (cI, 241, .inl (upd (b9) (wk.length + 1) ((nI t0)))) := by rw [ecw79, va_up_self]
          have hw_83 : cw79 (44) = .inl (cI, 241, .inl (z9)) := by rw [ecw79, va_up_ne _ _ (by decide)]; exact hw_76
          have hw_84 : cw79 (38) = .inl (cI, 3120, .inl (tf)) := by rw [ecw79, va_up_ne _ _ (by decide)]; exact hw_77
          have hw_85 : cw79 (39) = .inl (cI, 13, .inl (lf)) := by rw [ecw79, va_up_ne _ _ (by decide)]; exact hw_78
          refine z_aload_n C dX4_snapshot_233 4 rfl ?_
          refine z_get (Cn := RX4) (T := TX4) (NF := 13) (ci := 4) (v := .ref (ad (44))) C qX4_snapshot_0 rfl 12 (by decide) (C.2.2.2.2.1 _ qX4_snapshot_5) (fun _ h9 => h9) dX4_snapshot_234 (37) (by omega) hw_80 rfl ?_
          refine z_aload_n C dX4_snapshot_237 4 rfl ?_
          refine z_get (Cn := RX4) (T := TX4) (NF := 13) (ci := 4) (v := .int (nI (wk.length + 1))) C qX4_snapshot_0 rfl 10 (by decide) (C.2.2.2.2.1 _ qX4_snapshot_2) (fun _ h9 => h9) dX4_snapshot_238 (37) (by omega) hw_80 rfl ?_
          refine z_iload C dX4_snapshot_241 0 rfl ?_
          refine z_if_eq (tgt := 250) C dX4_snapshot_243 (by decide) (fun c86 => absurd c86 (by decide)) (fun c86 => ?_)
          refine z_iload_n C dX4_snapshot_246 1 rfl ?_
          refine z_goto (tgt := 253) C dX4_snapshot_247 (by decide) ?_
          obtain ⟨cw87, ecw87⟩ : ∃ z : Nat → va_E, z = va_up (cw79) (44) (.inl (cI, 241, .inl (upd (z9) (wk.length + 1) ((nI m0))))) := ⟨_, rfl⟩
          refine z_iast C 0 rfl dX4_snapshot_253 (44) (by omega) hw_83 (wk.length + 1) (rfl) (by omega) (by decide) ?_
          refine z_cw ecw87.symm ?_
          have hw_88 : cw87 (37) = .inr (4, [.int (nI 0), .ref (ad (38)), .ref (ad (39)), .int (nI (past)), .int (nI (fut)), .ref (ad (40)), .int (dn), .ref (ad (41)), .int (nI (pat.length)), .ref (ad (42)), .int (nI (wk.length + 1)), .ref (ad (43)), .ref (ad (44))]) := by rw [ecw87, va_up_ne _ _ (by decide)]; exact hw_80
          have hw_89 : cw87 (42) = .inl (cI, 240, .inl (upd (d9) (wk.length) ((nI (257 * k0 + 256))))) := by rw [ecw87, va_up_ne _ _ (by decide)]; exact hw_81
          have hw_90 : cw87 (43) = .inl (cI, 241, .inl (upd (b9) (wk.length + 1) ((nI t0)))) := by rw [ecw87, va_up_ne _ _ (by decide)]; exact hw_82
          have hw_91 : cw87 (44) = .inl (cI, 241, .inl (upd (z9) (wk.length + 1) ((nI m0)))) := by rw [ecw87, va_up_self]
          have hw_92 : cw87 (38) = .inl (cI, 3120, .inl (tf)) := by rw [ecw87, va_up_ne _ _ (by decide)]; exact hw_84
          have hw_93 : cw87 (39) = .inl (cI, 13, .inl (lf)) := by rw [ecw87, va_up_ne _ _ (by decide)]; exact hw_85
          refine z_iload_n C dX4_snapshot_254 3 rfl ?_
          refine z_aload_n C dX4_snapshot_255 4 rfl ?_
          refine z_get (Cn := RX4) (T := TX4) (NF := 13) (ci := 4) (v := .ref (ad (44))) C qX4_snapshot_0 rfl 12 (by decide) (C.2.2.2.2.1 _ qX4_snapshot_5) (fun _ h9 => h9) dX4_snapshot_256 (37) (by omega) hw_88 rfl ?_
          refine z_aload_n C dX4_snapshot_259 4 rfl ?_
          refine z_get (Cn := RX4) (T := TX4) (NF := 13) (ci := 4) (v := .int (nI (wk.length + 1))) C qX4_snapshot_0 rfl 10 (by decide) (C.2.2.2.2.1 _ qX4_snapshot_2) (fun _ h9 => h9) dX4_snapshot_260 (37) (by omega) hw_88 rfl ?_
          refine z_iald C 0 rfl dX4_snapshot_263 (44) (by omega) hw_91 (wk.length + 1) (rfl) (by omega) (by decide) ?_
          refine z_top (y := nI m0) (by rw [pk_us]) ?_
          refine z_iadd C dX4_snapshot_264 ?_
          refine z_top (y := nI (t0 + m0)) (nI_add _ _) ?_
          refine z_istore_n (lv' := [(1, .int (nI (t0 + m0))), (4, .int (nI 1)), (3, .int (nI m0)), (2, .int (nI k0)), (0, .ref (ad (37)))]) C dX4_snapshot_265 rfl (by decide) rfl ?_
          refine z_goto (tgt := 12) C dX4_snapshot_266 (by decide) ?_
          refine z_iload_n C dX4_snapshot_12 0 rfl ?_
          refine z_aload_n C dX4_snapshot_13 4 rfl ?_
          refine z_calli (z_runV (As := []) (rest := [.int (nI (t0 + m0))]) C (c_M_length l D cI cR cL B N ad cw87 hN hw_88 hw_93 (by omega) (k2)) (cwV 0 C.2.2.2.2.1 gX4_snapshot_X4_length rfl rfl rfl (by decide +kernel) ⟨Nat.le_of_ble_eq_true rfl, Nat.le_of_ble_eq_true rfl⟩) (by omega) hw_88 rfl rfl rfl rfl (Nat.le_of_ble_eq_true rfl) dX4_snapshot_14 ⟨Nat.le_of_ble_eq_true rfl, Nat.le_of_ble_eq_true rfl⟩) (fun r94 cw95 hp96 => ?_)
          refine z_cw hp96.2 ?_
          refine z_top hp96.1 ?_
          refine z_icmp_ge (tgt := 269) C dX4_snapshot_17 (by decide) (fun c97 => ?_) (fun c97 => absurd (nI_le (by omega) (by omega)) c97)
          refine z_aload_n C dX4_snapshot_269 4 rfl ?_
          refine z_get (Cn := RX4) (T := TX4) (NF := 13) (ci := 4) (v := .int (nI (wk.length + 1))) C qX4_snapshot_0 rfl 10 (by decide) (C.2.2.2.2.1 _ qX4_snapshot_2) (fun _ h9 => h9) dX4_snapshot_270 (37) (by omega) hw_88 rfl ?_
          have hfr9 : ∀ j, (j ≠ 37 ∧ j ≠ 42 ∧ j ≠ 43 ∧ j ≠ 44) → cw87 j = cw j := (fun j hj => (((fun j hj => by rw [ecw87, va_up_ne _ _ (by omega)]; rw [ecw79, va_up_ne _ _ (by omega)]; rw [ecw72, va_up_ne _ _ (by omega)]; rw [ecw65, va_up_ne _ _ (by omega)]) : ∀ j, (j ≠ 37 ∧ j ≠ 42 ∧ j ≠ 43 ∧ j ≠ 44) → _ = cwk j) j hj).trans (hfrm j hj))
          exact z_iret C hr dX4_snapshot_273 (⟨by rw [← hz, len_snoc], by rw [← hz]; exact zRM_sn hM (by rw [hw_88, len_snoc]) ⟨by rw [len_snoc]; omega, _, hw_89, zIs_add q4 _⟩ ⟨_, hw_90⟩ ⟨_, hw_91⟩ hfr9, fun j hj => hfr9 j (by omega)⟩) (Nat.le_of_ble_eq_true rfl) (Nat.le_of_ble_eq_true rfl)
      refine z_iconst (v := nI 0) C dX4_snapshot_20 (by decide) ?_
      refine z_istore_n (lv' := [(2, .int (nI 0)), (1, .int (nI t0)), (0, .ref (ad (37)))]) C dX4_snapshot_21 rfl (by decide) rfl ?_
      refine z_iconst (v := nI 0) C dX4_snapshot_22 (by decide) ?_
      refine z_istore_n (lv' := [(3, .int (nI 0)), (2, .int (nI 0)), (1, .int (nI t0)), (0, .ref (ad (37)))]) C dX4_snapshot_23 rfl (by decide) rfl ?_
      refine z_iconst (v := nI 1) C dX4_snapshot_24 (by decide) ?_
      refine z_istore (lv' := [(4, .int (nI 1)), (3, .int (nI 0)), (2, .int (nI 0)), (1, .int (nI t0)), (0, .ref (ad (37)))]) C dX4_snapshot_25 (by decide) rfl ?_
      refine z_lv (lv' := [(4, .int (nI 1)), (3, .int (nI 0)), (2, .int (nI 0)), (1, .int (nI t0)), (0, .ref (ad (37)))]) [0, 1, 2, 3, 4] rfl ?_
      suffices mid : ∀ (nn w0 k0 m0 : Nat), P.length + 1 = w0 + nn → 1 ≤ w0 → k0 ≤ P.length → t0 + m0 ≤ (hs past).length → ph P k0 = ((hs past).drop t0).take m0 → (∀ j, j < w0 → ph P j = ((hs past).drop t0).take (ph P j).length → (ph P j).length ≤ m0) → zG p l e (headSpec wsX4_snapshot ({ frames := 1, cells := 0, slots := 0, locals := 21 } : Room)).room s m args below meth c (MQ below (zQi D vwCl B N ad (fun (v : Int32) (cw' : Nat → va_E) => v = nI (sLz (hs past) 0 []).length ∧ zRM cI ad cw' past fut hs pat (sLz (hs past) 0 []) (nI 0) dn ∧ ∀ j, (j < 37 ∨ 45 ≤ j) → cw' j = cw j)) args s 0 0 (zA B)) D vwCl B 7 N ad cwk 0 0 [(4, .int (nI w0)), (3, .int (nI m0)), (2, .int (nI k0)), (1, .int (nI t0)), (0, .ref (ad (37)))] 27 [] from mid P.length 1 0 0 (by omega) (Nat.le_refl _) (Nat.zero_le _) (by omega) (by rw [ph_zero, List.take_zero]) (fun j h1 h2 => by rw [show j = 0 by omega]; exact Nat.le_refl _)
      intro nn
      induction nn with
      | zero =>
        intro w0 k0 m0 hw0 hw1 hk0 hm0 hkm hbest
        refine z_iload C dX4_snapshot_27 0 rfl ?_
        refine z_aload_n C dX4_snapshot_29 4 rfl ?_
        refine z_get (Cn := RX4) (T := TX4) (NF := 13) (ci := 4) (v := .int (nI (wk.length))) C qX4_snapshot_0 rfl 10 (by decide) (C.2.2.2.2.1 _ qX4_snapshot_2) (fun _ h9 => h9) dX4_snapshot_30 (37) (by omega) q1 rfl ?_
        refine z_icmp_gt (tgt := 163) C dX4_snapshot_33 (by decide) (fun c98 => ?_) (fun c98 => ?_)
        · skip
          refine z_lv (lv' := [(3, .int (nI m0)), (2, .int (nI k0)), (1, .int (nI t0)), (0, .ref (ad (37)))]) [1, 2, 3, 4] rfl ?_
          exact tail k0 m0 hk0 hm0 hkm (fun j hj => hbest j (by omega))
        · skip
          exact absurd (nI_lt (by omega) (by omega)) c98
      | succ nn jh =>
        intro w0 k0 m0 hw0 hw1 hk0 hm0 hkm hbest
        refine z_iload C dX4_snapshot_27 0 rfl ?_
        refine z_aload_n C dX4_snapshot_29 4 rfl ?_
        refine z_get (Cn := RX4) (T := TX4) (NF := 13) (ci := 4) (v := .int (nI (wk.length))) C qX4_snapshot_0 rfl 10 (by decide) (C.2.2.2.2.1 _ qX4_snapshot_2) (fun _ h9 => h9) dX4_snapshot_30 (37) (by omega) q1 rfl ?_
        refine z_icmp_gt (tgt := 163) C dX4_snapshot_33 (by decide) (fun c99 => ?_) (fun c99 => ?_)
        · skip
          exact absurd ((nI_ltI (by omega) (by omega)).mp c99) (by omega)
        · skip
          obtain ⟨i9, rfl⟩ : ∃ z, w0 = z + 1 := ⟨w0 - 1, by omega⟩
          obtain ⟨ln, hln⟩ : ∃ z, z = (P.getD i9 []).length := ⟨_, rfl⟩
          have hpl : (ph P (i9 + 1)).length = ln := hln.symm
          have hsz : z9 (i9 + 1) = nI ln := by rw [hln]; exact q8 i9 (by omega)
          have hbg := q6 i9 (by omega)
          have hsn := zSv_next (P := P) (a := i9) (by omega)
          have hst := zSv_top (P := P) (i9 + 1)
          have hl240 : ln ≤ 240 := by omega
          have hfit : ph P (i9 + 1) = ((hs past).drop t0).take ln → t0 + ln ≤ (hs past).length := fun h9 => by have h8 := congrArg List.length h9; rw [hpl, List.length_take] at h8; omega
          have no128 : ¬ (m0 < ln ∧ ph P (i9 + 1) = ((hs past).drop t0).take ln) → zG p l e (headSpec wsX4_snapshot ({ frames := 1, cells := 0, slots := 0, locals := 21 } : Room)).room s m args below meth c (MQ below (zQi D vwCl B N ad (fun (v : Int32) (cw' : Nat → va_E) => v = nI (sLz (hs past) 0 []).length ∧ zRM cI ad cw' past fut hs pat (sLz (hs past) 0 []) (nI 0) dn ∧ ∀ j, (j < 37 ∨ 45 ≤ j) → cw' j = cw j)) args s 0 0 (zA B)) D vwCl B 7 N ad cwk 0 0 [(5, .int (nI 0)), (4, .int (nI (i9 + 1))), (3, .int (nI m0)), (2, .int (nI k0)), (1, .int (nI t0)), (0, .ref (ad (37)))] 128 [] := by
            intro hno
            refine z_iload C dX4_snapshot_128 0 rfl ?_
            refine z_if_eq (tgt := 138) C dX4_snapshot_130 (by decide) (fun c100 => ?_) (fun c100 => (c100 (by decide)).elim)
            refine z_iload_n C dX4_snapshot_138 3 rfl ?_
            refine z_istore_n (lv' := [(2, .int (nI k0)), (5, .int (nI 0)), (4, .int (nI (i9 + 1))), (3, .int (nI m0)), (1, .int (nI t0)), (0, .ref (ad (37)))]) C dX4_snapshot_139 rfl (by decide) rfl ?_
            refine z_iload C dX4_snapshot_140 1 rfl ?_
            refine z_if_eq (tgt := 155) C dX4_snapshot_142 (by decide) (fun c101 => ?_) (fun c101 => (c101 (by decide)).elim)
            refine z_iload_n C dX4_snapshot_155 3 rfl ?_
            refine z_istore_n (lv' := [(3, .int (nI m0)), (2, .int (nI k0)), (5, .int (nI 0)), (4, .int (nI (i9 + 1))), (1, .int (nI t0)), (0, .ref (ad (37)))]) C dX4_snapshot_156 rfl (by decide) rfl ?_
            refine z_iinc (x := nI (i9 + 1 + 1)) (lv' := [(4, .int (nI (i9 + 1 + 1))), (3, .int (nI m0)), (2, .int (nI k0)), (5, .int (nI 0)), (1, .int (nI t0)), (0, .ref (ad (37)))]) C dX4_snapshot_157 3 rfl (nI_1 _) (by decide) rfl ?_
            refine z_goto (tgt := 27) C dX4_snapshot_160 (by decide) ?_
            refine z_lv (lv' := [(4, .int (nI (i9 + 1 + 1))), (3, .int (nI m0)), (2, .int (nI k0)), (1, .int (nI t0)), (0, .ref (ad (37)))]) [0, 1, 2, 4, 5] rfl ?_
            exact jh (i9 + 1 + 1) k0 m0 (by omega) (by omega) hk0 hm0 hkm (fun j hj h9 => by rcases Nat.lt_succ_iff_lt_or_eq.mp hj with h8 | h8; exact hbest j h8 h9; rw [h8] at h9 ⊢; rw [hpl] at h9 ⊢; exact Nat.le_of_not_lt (fun h7 => hno ⟨h7, h9⟩))
          have yes128 : (m0 < ln ∧ ph P (i9 + 1) = ((hs past).drop t0).take ln) → zG p l e (headSpec wsX4_snapshot ({ frames := 1, cells := 0, slots := 0, locals := 21 } : Room)).room s m args below meth c (MQ below (zQi D vwCl B N ad (fun (v : Int32) (cw' : Nat → va_E) => v = nI (sLz (hs past) 0 []).length ∧ zRM cI ad cw' past fut hs pat (sLz (hs past) 0 []) (nI 0) dn ∧ ∀ j, (j < 37 ∨ 45 ≤ j) → cw' j = cw j)) args s 0 0 (zA B)) D vwCl B 7 N ad cwk 0 0 [(5, .int (nI 1)), (4, .int (nI (i9 + 1))), (3, .int (nI m0)), (2, .int (nI k0)), (1, .int (nI t0)), (0, .ref (ad (37)))] 128 [] := by
            intro hyes
            refine z_iload C dX4_snapshot_128 0 rfl ?_
            refine z_if_eq (tgt := 138) C dX4_snapshot_130 (by decide) (fun c102 => absurd c102 (by decide)) (fun c102 => ?_)
            refine z_iload C dX4_snapshot_133 1 rfl ?_
            refine z_goto (tgt := 139) C dX4_snapshot_135 (by decide) ?_
            refine z_istore_n (lv' := [(2, .int (nI (i9 + 1))), (5, .int (nI 1)), (4, .int (nI (i9 + 1))), (3, .int (nI m0)), (1, .int (nI t0)), (0, .ref (ad (37)))]) C dX4_snapshot_139 rfl (by decide) rfl ?_
            refine z_iload C dX4_snapshot_140 1 rfl ?_
            refine z_if_eq (tgt := 155) C dX4_snapshot_142 (by decide) (fun c103 => absurd c103 (by decide)) (fun c103 => ?_)
            refine z_aload_n C dX4_snapshot_145 5 rfl ?_
            refine z_get (Cn := RX4) (T := TX4) (NF := 13) (ci := 4) (v := .ref (ad (44))) C qX4_snapshot_0 rfl 12 (by decide) (C.2.2.2.2.1 _ qX4_snapshot_5) (fun _ h9 => h9) dX4_snapshot_146 (37) (by omega) q1 rfl ?_
            refine z_iload C dX4_snapshot_149 2 rfl ?_
            refine z_iald C 0 rfl dX4_snapshot_151 (44) (by omega) q7 (i9 + 1) (rfl) (by omega) (by decide) ?_
            refine z_top (y := nI ln) (hsz) ?_
            refine z_goto (tgt := 156) C dX4_snapshot_152 (by decide) ?_
            refine z_istore_n (lv' := [(3, .int (nI ln)), (2, .int (nI (i9 + 1))), (5, .int (nI 1)), (4, .int (nI (i9 + 1))), (1, .int (nI t0)), (0, .ref (ad (37)))]) C dX4_snapshot_156 rfl (by decide) rfl ?_
            refine z_iinc (x := nI (i9 + 1 + 1)) (lv' := [(4, .int (nI (i9 + 1 + 1))), (3, .int (nI ln)), (2, .int (nI (i9 + 1))), (5, .int (nI 1)), (1, .int (nI t0)), (0, .ref (ad (37)))]) C dX4_snapshot_157 3 rfl (nI_1 _) (by decide) rfl ?_
            refine z_goto (tgt := 27) C dX4_snapshot_160 (by decide) ?_
            refine z_lv (lv' := [(4, .int (nI (i9 + 1 + 1))), (3, .int (nI ln)), (2, .int (nI (i9 + 1))), (1, .int (nI t0)), (0, .ref (ad (37)))]) [0, 1, 2, 4, 5] rfl ?_
            exact jh (i9 + 1 + 1) (i9 + 1) ln (by omega) (by omega) (by omega) (hfit hyes.2) hyes.2 (fun j hj h9 => by rcases Nat.lt_succ_iff_lt_or_eq.mp hj with h8 | h8; exact Nat.le_trans (hbest j h8 h9) (Nat.le_of_lt hyes.1); rw [h8, hpl]; exact Nat.le_refl _)
          have out73 : ¬ (m0 < ln ∧ ph P (i9 + 1) = ((hs past).drop t0).take ln) → ∀ u, zG p l e (headSpec wsX4_snapshot ({ frames := 1, cells := 0, slots := 0, locals := 21 } : Room)).room s m args below meth c (MQ below (zQi D vwCl B N ad (fun (v : Int32) (cw' : Nat → va_E) => v = nI (sLz (hs past) 0 []).length ∧ zRM cI ad cw' past fut hs pat (sLz (hs past) 0 []) (nI 0) dn ∧ ∀ j, (j < 37 ∨ 45 ≤ j) → cw' j = cw j)) args s 0 0 (zA B)) D vwCl B 7 N ad cwk 0 0 [(6, .int (nI u)), (5, .int (nI 0)), (4, .int (nI (i9 + 1))), (3, .int (nI m0)), (2, .int (nI k0)), (1, .int (nI t0)), (0, .ref (ad (37)))] 73 [] := by
            intro hno u
            refine z_iload C dX4_snapshot_73 0 rfl ?_
            refine z_aload_n C dX4_snapshot_75 6 rfl ?_
            refine z_get (Cn := RX4) (T := TX4) (NF := 13) (ci := 4) (v := .ref (ad (44))) C qX4_snapshot_0 rfl 12 (by decide) (C.2.2.2.2.1 _ qX4_snapshot_5) (fun _ h9 => h9) dX4_snapshot_76 (37) (by omega) q1 rfl ?_
            refine z_iload C dX4_snapshot_79 2 rfl ?_
            refine z_iald C 0 rfl dX4_snapshot_81 (44) (by omega) q7 (i9 + 1) (rfl) (by omega) (by decide) ?_
            refine z_top (y := nI ln) (hsz) ?_
            refine z_icmp_ge (tgt := 128) C dX4_snapshot_82 (by decide) (fun c104 => ?_) (fun c104 => ?_)
            · skip
              refine z_lv (lv' := [(5, .int (nI 0)), (4, .int (nI (i9 + 1))), (3, .int (nI m0)), (2, .int (nI k0)), (1, .int (nI t0)), (0, .ref (ad (37)))]) [1, 2, 3, 4, 5, 6] rfl ?_
              exact no128 hno
            · skip
              refine z_iload C dX4_snapshot_85 1 rfl ?_
              refine z_if_eq (tgt := 128) C dX4_snapshot_87 (by decide) (fun c105 => ?_) (fun c105 => (c105 (by decide)).elim)
              refine z_lv (lv' := [(5, .int (nI 0)), (4, .int (nI (i9 + 1))), (3, .int (nI m0)), (2, .int (nI k0)), (1, .int (nI t0)), (0, .ref (ad (37)))]) [1, 2, 3, 4, 5, 6] rfl ?_
              exact no128 hno
          have inner : t0 + ln ≤ (hs past).length → m0 < ln → ∀ (rn u : Nat), ln = u + rn → (∀ a, a < u → tf (240 * past + (zSv P i9 + a)) = tf (240 * past + (t0 + a))) → zG p l e (headSpec wsX4_snapshot ({ frames := 1, cells := 0, slots := 0, locals := 21 } : Room)).room s m args below meth c (MQ below (zQi D vwCl B N ad (fun (v : Int32) (cw' : Nat → va_E) => v = nI (sLz (hs past) 0 []).length ∧ zRM cI ad cw' past fut hs pat (sLz (hs past) 0 []) (nI 0) dn ∧ ∀ j, (j < 37 ∨ 45 ≤ j) → cw' j = cw j)) args s 0 0 (zA B)) D vwCl B 7 N ad cwk 0 0 [(6, .int (nI u)), (5, .int (nI 1)), (4, .int (nI (i9 + 1))), (3, .int (nI m0)), (2, .int (nI k0)), (1, .int (nI t0)), (0, .ref (ad (37)))] 73 [] := by
            intro hft hml
            have hpm := ph_match k3 hPf ht0 (i := i9) (by omega) (by omega)
            rw [hpl] at hpm
            intro rn
            induction rn with
            | zero =>
              intro u hu heq
              refine z_iload C dX4_snapshot_73 0 rfl ?_
              refine z_aload_n C dX4_snapshot_75 6 rfl ?_
              refine z_get (Cn := RX4) (T := TX4) (NF := 13) (ci := 4) (v := .ref (ad (44))) C qX4_snapshot_0 rfl 12 (by decide) (C.2.2.2.2.1 _ qX4_snapshot_5) (fun _ h9 => h9) dX4_snapshot_76 (37) (by omega) q1 rfl ?_
              refine z_iload C dX4_snapshot_79 2 rfl ?_
              refine z_iald C 0 rfl dX4_snapshot_81 (44) (by omega) q7 (i9 + 1) (rfl) (by omega) (by decide) ?_
              refine z_top (y := nI ln) (hsz) ?_
              refine z_icmp_ge (tgt := 128) C dX4_snapshot_82 (by decide) (fun c106 => ?_) (fun c106 => ?_)
              · skip
                refine z_lv (lv' := [(5, .int (nI 1)), (4, .int (nI (i9 + 1))), (3, .int (nI m0)), (2, .int (nI k0)), (1, .int (nI t0)), (0, .ref (ad (37)))]) [1, 2, 3, 4, 5, 6] rfl ?_
                exact yes128 ⟨hml, hpm.mp (fun a ha => heq a (by omega))⟩
              · skip
                exact absurd (nI_le (by omega) (by omega)) c106
            | succ rn lh =>
              intro u hu heq
              refine z_iload C dX4_snapshot_73 0 rfl ?_
              refine z_aload_n C dX4_snapshot_75 6 rfl ?_
              refine z_get (Cn := RX4) (T := TX4) (NF := 13) (ci := 4) (v := .ref (ad (44))) C qX4_snapshot_0 rfl 12 (by decide) (C.2.2.2.2.1 _ qX4_snapshot_5) (fun _ h9 => h9) dX4_snapshot_76 (37) (by omega) q1 rfl ?_
              refine z_iload C dX4_snapshot_79 2 rfl ?_
              refine z_iald C 0 rfl dX4_snapshot_81 (44) (by omega) q7 (i9 + 1) (rfl) (by omega) (by decide) ?_
              refine z_top (y := nI ln) (hsz) ?_
              refine z_icmp_ge (tgt := 128) C dX4_snapshot_82 (by decide) (fun c107 => ?_) (fun c107 => ?_)
              · skip
                exact absurd ((nI_leI (by omega) (by omega)).mp c107) (by omega)
              · skip
                refine z_iload C dX4_snapshot_85 1 rfl ?_
                refine z_if_eq (tgt := 128) C dX4_snapshot_87 (by decide) (fun c108 => absurd c108 (by decide)) (fun c108 => ?_)
                refine z_aload_n C dX4_snapshot_90 6 rfl ?_
                refine z_aload_n C dX4_snapshot_91 6 rfl ?_
                refine z_get (Cn := RX4) (T := TX4) (NF := 13) (ci := 4) (v := .ref (ad (43))) C qX4_snapshot_0 rfl 11 (by decide) (C.2.2.2.2.1 _ qX4_snapshot_4) (fun _ h9 => h9) dX4_snapshot_92 (37) (by omega) q1 rfl ?_
                refine z_iload C dX4_snapshot_95 2 rfl ?_
                refine z_iald C 0 rfl dX4_snapshot_97 (43) (by omega) q5 (i9 + 1) (rfl) (by omega) (by decide) ?_
                refine z_top (y := nI (zSv P i9)) (hbg) ?_
                refine z_iload C dX4_snapshot_98 0 rfl ?_
                refine z_iadd C dX4_snapshot_100 ?_
                refine z_top (y := nI (zSv P i9 + u)) (nI_add _ _) ?_
                refine z_calli (z_runV (As := [.int (nI (zSv P i9 + u))]) (rest := []) C (c_M_charAt l D cI cR cL B N ad cwk hN q1 hk_21 (i := zSv P i9 + u) (by omega)) (cwV 1 C.2.2.2.2.1 gX4_snapshot_X4_charAt rfl rfl rfl (by decide +kernel) ⟨Nat.le_of_ble_eq_true rfl, Nat.le_of_ble_eq_true rfl⟩) (by omega) q1 rfl rfl rfl rfl (Nat.le_of_ble_eq_true rfl) dX4_snapshot_101 ⟨Nat.le_of_ble_eq_true rfl, Nat.le_of_ble_eq_true rfl⟩) (fun r109 cw110 hp111 => ?_)
                refine z_cw hp111.2 ?_
                refine z_top hp111.1 ?_
                refine z_aload_n C dX4_snapshot_104 6 rfl ?_
                refine z_iload_n C dX4_snapshot_105 5 rfl ?_
                refine z_iload C dX4_snapshot_106 0 rfl ?_
                refine z_iadd C dX4_snapshot_108 ?_
                refine z_top (y := nI (t0 + u)) (nI_add _ _) ?_
                refine z_calli (z_runV (As := [.int (nI (t0 + u))]) (rest := [.int (tf (240 * past + (zSv P i9 + u)))]) C (c_M_charAt l D cI cR cL B N ad cwk hN q1 hk_21 (i := t0 + u) (by omega)) (cwV 1 C.2.2.2.2.1 gX4_snapshot_X4_charAt rfl rfl rfl (by decide +kernel) ⟨Nat.le_of_ble_eq_true rfl, Nat.le_of_ble_eq_true rfl⟩) (by omega) q1 rfl rfl rfl rfl (Nat.le_of_ble_eq_true rfl) dX4_snapshot_109 ⟨Nat.le_of_ble_eq_true rfl, Nat.le_of_ble_eq_true rfl⟩) (fun r112 cw113 hp114 => ?_)
                refine z_cw hp114.2 ?_
                refine z_top hp114.1 ?_
                refine z_icmp_ne (tgt := 119) C dX4_snapshot_112 (by decide) (fun c115 => ?_) (fun c115 => ?_)
                · skip
                  refine z_iconst (v := nI 0) C dX4_snapshot_119 (by decide) ?_
                  refine z_istore (lv' := [(5, .int (nI 0)), (6, .int (nI u)), (4, .int (nI (i9 + 1))), (3, .int (nI m0)), (2, .int (nI k0)), (1, .int (nI t0)), (0, .ref (ad (37)))]) C dX4_snapshot_120 (by decide) rfl ?_
                  refine z_iinc (x := nI (u + 1)) (lv' := [(6, .int (nI (u + 1))), (5, .int (nI 0)), (4, .int (nI (i9 + 1))), (3, .int (nI m0)), (2, .int (nI k0)), (1, .int (nI t0)), (0, .ref (ad (37)))]) C dX4_snapshot_122 1 rfl (nI_1 u) (by decide) rfl ?_
                  refine z_goto (tgt := 73) C dX4_snapshot_125 (by decide) ?_
                  refine z_lv (lv' := [(6, .int (nI (u + 1))), (5, .int (nI 0)), (4, .int (nI (i9 + 1))), (3, .int (nI m0)), (2, .int (nI k0)), (1, .int (nI t0)), (0, .ref (ad (37)))]) [0, 1, 2, 3, 4, 5, 6] rfl ?_
                  exact out73 (fun h9 => c115 (hpm.mpr h9.2 u (by omega))) (u + 1)
                · skip
                  refine z_iconst (v := nI 1) C dX4_snapshot_115 (by decide) ?_
                  refine z_goto (tgt := 120) C dX4_snapshot_116 (by decide) ?_
                  refine z_istore (lv' := [(5, .int (nI 1)), (6, .int (nI u)), (4, .int (nI (i9 + 1))), (3, .int (nI m0)), (2, .int (nI k0)), (1, .int (nI t0)), (0, .ref (ad (37)))]) C dX4_snapshot_120 (by decide) rfl ?_
                  refine z_iinc (x := nI (u + 1)) (lv' := [(6, .int (nI (u + 1))), (5, .int (nI 1)), (4, .int (nI (i9 + 1))), (3, .int (nI m0)), (2, .int (nI k0)), (1, .int (nI t0)), (0, .ref (ad (37)))]) C dX4_snapshot_122 1 rfl (nI_1 u) (by decide) rfl ?_
                  refine z_goto (tgt := 73) C dX4_snapshot_125 (by decide) ?_
                  refine z_lv (lv' := [(6, .int (nI (u + 1))), (5, .int (nI 1)), (4, .int (nI (i9 + 1))), (3, .int (nI m0)), (2, .int (nI k0)), (1, .int (nI t0)), (0, .ref (ad (37)))]) [0, 1, 2, 3, 4, 5, 6] rfl ?_
                  exact lh (u + 1) (by omega) (fun a ha => by by_cases h9 : a = u; rw [h9]; exact c115; exact heq a (by omega))
          refine z_iload_n C dX4_snapshot_36 3 rfl ?_
          refine z_aload_n C dX4_snapshot_37 4 rfl ?_
          refine z_get (Cn := RX4) (T := TX4) (NF := 13) (ci := 4) (v := .ref (ad (44))) C qX4_snapshot_0 rfl 12 (by decide) (C.2.2.2.2.1 _ qX4_snapshot_5) (fun _ h9 => h9) dX4_snapshot_38 (37) (by omega) q1 rfl ?_
          refine z_iload C dX4_snapshot_41 0 rfl ?_
          refine z_iald C 0 rfl dX4_snapshot_43 (44) (by omega) q7 (i9 + 1) (rfl) (by omega) (by decide) ?_
          refine z_top (y := nI ln) (hsz) ?_
          refine z_iadd C dX4_snapshot_44 ?_
          refine z_top (y := nI (t0 + ln)) (nI_add _ _) ?_
          refine z_aload_n C dX4_snapshot_45 4 rfl ?_
          refine z_calli (z_runV (As := []) (rest := [.int (nI (t0 + ln))]) C (c_M_length l D cI cR cL B N ad cwk hN q1 hk_22 (by omega) (k2)) (cwV 0 C.2.2.2.2.1 gX4_snapshot_X4_length rfl rfl rfl (by decide +kernel) ⟨Nat.le_of_ble_eq_true rfl, Nat.le_of_ble_eq_true rfl⟩) (by omega) q1 rfl rfl rfl rfl (Nat.le_of_ble_eq_true rfl) dX4_snapshot_46 ⟨Nat.le_of_ble_eq_true rfl, Nat.le_of_ble_eq_true rfl⟩) (fun r116 cw117 hp118 => ?_)
          refine z_cw hp118.2 ?_
          refine z_top hp118.1 ?_
          refine z_icmp_gt (tgt := 67) C dX4_snapshot_49 (by decide) (fun c119 => ?_) (fun c119 => ?_)
          · skip
            have hbig : ¬ t0 + ln ≤ (hs past).length := Nat.not_le.mpr ((nI_ltI (by omega) (by omega)).mp c119)
            refine z_iconst (v := nI 0) C dX4_snapshot_67 (by decide) ?_
            refine z_istore (lv' := [(5, .int (nI 0)), (4, .int (nI (i9 + 1))), (3, .int (nI m0)), (2, .int (nI k0)), (1, .int (nI t0)), (0, .ref (ad (37)))]) C dX4_snapshot_68 (by decide) rfl ?_
            refine z_iconst (v := nI 0) C dX4_snapshot_70 (by decide) ?_
            refine z_istore (lv' := [(6, .int (nI 0)), (5, .int (nI 0)), (4, .int (nI (i9 + 1))), (3, .int (nI m0)), (2, .int (nI k0)), (1, .int (nI t0)), (0, .ref (ad (37)))]) C dX4_snapshot_71 (by decide) rfl ?_
            refine z_lv (lv' := [(6, .int (nI 0)), (5, .int (nI 0)), (4, .int (nI (i9 + 1))), (3, .int (nI m0)), (2, .int (nI k0)), (1, .int (nI t0)), (0, .ref (ad (37)))]) [0, 1, 2, 3, 4, 5, 6] rfl ?_
            exact out73 (fun h9 => hbig (hfit h9.2)) 0
          · skip
            have hft : t0 + ln ≤ (hs past).length := by rcases Nat.lt_or_ge (hs past).length (t0 + ln) with h9 | h9; exact absurd (nI_lt h9 (by omega)) c119; exact h9
            refine z_aload_n C dX4_snapshot_52 4 rfl ?_
            refine z_get (Cn := RX4) (T := TX4) (NF := 13) (ci := 4) (v := .ref (ad (44))) C qX4_snapshot_0 rfl 12 (by decide) (C.2.2.2.2.1 _ qX4_snapshot_5) (fun _ h9 => h9) dX4_snapshot_53 (37) (by omega) q1 rfl ?_
            refine z_iload C dX4_snapshot_56 0 rfl ?_
            refine z_iald C 0 rfl dX4_snapshot_58 (44) (by omega) q7 (i9 + 1) (rfl) (by omega) (by decide) ?_
            refine z_top (y := nI ln) (hsz) ?_
            refine z_iload_n C dX4_snapshot_59 1 rfl ?_
            refine z_icmp_le (tgt := 67) C dX4_snapshot_60 (by decide) (fun c120 => ?_) (fun c120 => ?_)
            · skip
              have hml : ¬ m0 < ln := Nat.not_lt.mpr ((nI_leI (by omega) (by omega)).mp c120)
              refine z_iconst (v := nI 0) C dX4_snapshot_67 (by decide) ?_
              refine z_istore (lv' := [(5, .int (nI 0)), (4, .int (nI (i9 + 1))), (3, .int (nI m0)), (2, .int (nI k0)), (1, .int (nI t0)), (0, .ref (ad (37)))]) C dX4_snapshot_68 (by decide) rfl ?_
              refine z_iconst (v := nI 0) C dX4_snapshot_70 (by decide) ?_
              refine z_istore (lv' := [(6, .int (nI 0)), (5, .int (nI 0)), (4, .int (nI (i9 + 1))), (3, .int (nI m0)), (2, .int (nI k0)), (1, .int (nI t0)), (0, .ref (ad (37)))]) C dX4_snapshot_71 (by decide) rfl ?_
              refine z_lv (lv' := [(6, .int (nI 0)), (5, .int (nI 0)), (4, .int (nI (i9 + 1))), (3, .int (nI m0)), (2, .int (nI k0)), (1, .int (nI t0)), (0, .ref (ad (37)))]) [0, 1, 2, 3, 4, 5, 6] rfl ?_
              exact out73 (fun h9 => hml h9.1) 0
            · skip
              have hml : m0 < ln := Nat.lt_of_not_le (fun h9 => c120 (nI_le h9 (by omega)))
              refine z_iconst (v := nI 1) C dX4_snapshot_63 (by decide) ?_
              refine z_goto (tgt := 68) C dX4_snapshot_64 (by decide) ?_
              refine z_istore (lv' := [(5, .int (nI 1)), (4, .int (nI (i9 + 1))), (3, .int (nI m0)), (2, .int (nI k0)), (1, .int (nI t0)), (0, .ref (ad (37)))]) C dX4_snapshot_68 (by decide) rfl ?_
              refine z_iconst (v := nI 0) C dX4_snapshot_70 (by decide) ?_
              refine z_istore (lv' := [(6, .int (nI 0)), (5, .int (nI 1)), (4, .int (nI (i9 + 1))), (3, .int (nI m0)), (2, .int (nI k0)), (1, .int (nI t0)), (0, .ref (ad (37)))]) C dX4_snapshot_71 (by decide) rfl ?_
              refine z_lv (lv' := [(6, .int (nI 0)), (5, .int (nI 1)), (4, .int (nI (i9 + 1))), (3, .int (nI m0)), (2, .int (nI k0)), (1, .int (nI t0)), (0, .ref (ad (37)))]) [0, 1, 2, 3, 4, 5, 6] rfl ?_
              exact inner hft hml ln 0 (by omega) (fun a ha => absurd ha (Nat.not_lt_zero _))

