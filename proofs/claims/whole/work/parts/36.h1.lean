theorem qL_insert_0 : Cond.classLink RL 13 "java/lang/IndexOutOfBoundsException" ∈ wsL_insert := by decide +kernel
theorem qL_insert_1 : Cond.classLink RL 15 "java/lang/IllegalArgumentException" ∈ wsL_insert := by decide +kernel
theorem qL_insert_2 : Cond.classLink RL 17 "java/lang/UnsupportedOperationException" ∈ wsL_insert := by decide +kernel
set_option maxHeartbeats 4000000 in
set_option maxRecDepth 100000 in
theorem c_L_insert (l : Launch) (D : va_G) (cI cR cL : ClassId) (B N : Nat) (ad : Nat → Nat) (cw : Nat → va_E) (hl8 : l.stackTraces = false) (hN : 45 < N) {past fut : Nat} {hs : Nat → List Int32} {pat ws dr : List Int32} (hX : zRX cI cR ad cw past fut hs pat ws dr) (x : Int32) (ch : Int32) {of : Nat → Int64} (e45 : cw (45) = .inl (cL, 1, .inr (.inl (of)))) : Met l yL_insert wsL_insert ({ frames := 8, cells := 3, slots := 18, locals := 147 } : Room) (va_Pc [.ref (ad (0)), .int (x), .int (ch), .ref (ad (45))] (zI D vwCl (zTy cI cR cL) B N ad cw)) (zQi D vwCl B N ad (fun (v : Int32) (cw' : Nat → va_E) => (∃ v0 cw1, (∃ q, q ≤ (hs past).length ∧ x = nI q ∧ (∃ q, q < 256 ∧ ch = nI q) ∧ (hs past).length + 1 ≤ 240 ∧ v0 = nI (sIns (hs past) q ch).length ∧ zRX cI cR ad cw1 (aPast past) 0 (aHs past hs (sIns (hs past) q ch)) pat ws (sIns (hs past) q ch) ∧ ∀ j, 37 ≤ j → cw1 j = cw j) ∧ v = nI 0 ∧ (∃ g9, cw' 45 = .inl (cL, 1, .inr (.inl (g9))) ∧ g9 0 = v0.toInt64) ∧ ∀ j, (j ≠ 45) → cw' j = cw1 j) ∨ (v = nI 1 ∧ (¬ (∃ q, q ≤ (hs past).length ∧ x = nI q)) ∧ cw' = cw) ∨ (v = nI 2 ∧ ((∃ q, q ≤ (hs past).length ∧ x = nI q) ∧ ¬ (∃ q, q < 256 ∧ ch = nI q)) ∧ cw' = cw) ∨ (v = nI 3 ∧ ((∃ q, q ≤ (hs past).length ∧ x = nI q) ∧ (∃ q, q < 256 ∧ ch = nI q) ∧ ¬ ((hs past).length + 1 ≤ 240)) ∧ cw' = cw))) 3 18 (zA B) := by
  refine z_ofH (cc := cL_insert) (maxL := 5) (ret := (some .int)) (by decide) rfl (Nat.le_of_ble_eq_true rfl) ?_
  intro p e s m args below meth c C hr htab
  refine z_lv (lv' := [(0, .ref (ad (0))), (1, .int (x)), (2, .int (ch)), (3, .ref (ad (45)))]) [0, 1, 2, 3] rfl ?_
  refine z_aload_n C dL_insert_0 3 rfl ?_
  refine z_iconst (v := nI 0) C dL_insert_1 (by decide) ?_
  refine z_aload_n C dL_insert_2 0 rfl ?_
  refine z_iload_n C dL_insert_3 1 rfl ?_
  refine z_iload_n C dL_insert_4 2 rfl ?_
  refine z_xcalli (z_xrunV (As := [.int (x), .int (ch)]) (rest := [.int (nI 0), .ref (ad (45))]) C (c_PT_insert l D cI cR cL B N ad cw hl8 hN hX x ch) (cwV 2 C.2.2.2.2.1 gL_insert_X3_insert rfl rfl rfl (by decide +kernel) ⟨Nat.le_of_ble_eq_true rfl, Nat.le_of_ble_eq_true rfl⟩) (by omega) hX.1 rfl rfl rfl rfl (Nat.le_of_ble_eq_true rfl) dL_insert_5 ⟨Nat.le_of_ble_eq_true rfl, Nat.le_of_ble_eq_true rfl⟩) (fun E4 hx5 => ?_) (fun r1 cw2 hp3 => ?_)
  · skip
    rcases hx5 with ⟨rfl, hc0⟩ | ⟨rfl, hc1⟩ | ⟨rfl, hc2⟩
    · skip
      refine z_catch (E := xIO) (name := xIO) C [] ⟨0, 10, 13, 13⟩ [⟨0, 10, 17, 15⟩, ⟨0, 10, 21, 17⟩] (htab.trans rfl) (fun z9 hz9 => absurd hz9 List.not_mem_nil) (by decide) (by decide) (C.2.2.2.2.1 _ qL_insert_0) (va_Nw.use rfl (C.2.2.2.2.2.2.2.2.2.2.2.2.2 (.castable xIO xIO) (by decide +kernel))) (fun q96 => ?_)
      refine z_astore (lv' := [(4, .ref (q96)), (0, .ref (ad (0))), (1, .int (x)), (2, .int (ch)), (3, .ref (ad (45)))]) C dL_insert_13 (by decide) rfl ?_
      refine z_iconst (v := nI 1) C dL_insert_15 (by decide) ?_
      exact z_iret C hr dL_insert_16 (Or.inr (Or.inl (⟨rfl, hc0, rfl⟩))) (Nat.le_of_ble_eq_true rfl) (Nat.le_of_ble_eq_true rfl)
    · skip
      refine z_catch (E := xIA) (name := xIA) C [⟨0, 10, 13, 13⟩] ⟨0, 10, 17, 15⟩ [⟨0, 10, 21, 17⟩] (htab.trans rfl) (fun z9 hz9 => by rcases List.mem_singleton.mp hz9 with rfl; exact ⟨by decide, _, (C.2.2.2.2.1 _ qL_insert_0), C.2.2.2.2.2.2.2.2.2.2.2.2.1 (xIA, xIO) (by decide +kernel)⟩) (by decide) (by decide) (C.2.2.2.2.1 _ qL_insert_1) (va_Nw.use rfl (C.2.2.2.2.2.2.2.2.2.2.2.2.2 (.castable xIA xIA) (by decide +kernel))) (fun q97 => ?_)
      refine z_astore (lv' := [(4, .ref (q97)), (0, .ref (ad (0))), (1, .int (x)), (2, .int (ch)), (3, .ref (ad (45)))]) C dL_insert_17 (by decide) rfl ?_
      refine z_iconst (v := nI 2) C dL_insert_19 (by decide) ?_
      exact z_iret C hr dL_insert_20 (Or.inr (Or.inr (Or.inl (⟨rfl, hc1, rfl⟩)))) (Nat.le_of_ble_eq_true rfl) (Nat.le_of_ble_eq_true rfl)
    · skip
      refine z_catch (E := xUO) (name := xUO) C [⟨0, 10, 13, 13⟩, ⟨0, 10, 17, 15⟩] ⟨0, 10, 21, 17⟩ [] (htab.trans rfl) (fun z9 hz9 => by rcases (List.mem_cons.mp hz9).imp id List.mem_singleton.mp with rfl | rfl; exact ⟨by decide, _, (C.2.2.2.2.1 _ qL_insert_0), C.2.2.2.2.2.2.2.2.2.2.2.2.1 (xUO, xIO) (by decide +kernel)⟩; exact ⟨by decide, _, (C.2.2.2.2.1 _ qL_insert_1), C.2.2.2.2.2.2.2.2.2.2.2.2.1 (xUO, xIA) (by decide +kernel)⟩) (by decide) (by decide) (C.2.2.2.2.1 _ qL_insert_2) (va_Nw.use rfl (C.2.2.2.2.2.2.2.2.2.2.2.2.2 (.castable xUO xUO) (by decide +kernel))) (fun q98 => ?_)
      refine z_astore (lv' := [(4, .ref (q98)), (0, .ref (ad (0))), (1, .int (x)), (2, .int (ch)), (3, .ref (ad (45)))]) C dL_insert_21 (by decide) rfl ?_
      refine z_iconst (v := nI 3) C dL_insert_23 (by decide) ?_
      exact z_iret C hr dL_insert_24 (Or.inr (Or.inr (Or.inr (⟨rfl, hc2, rfl⟩)))) (Nat.le_of_ble_eq_true rfl) (Nat.le_of_ble_eq_true rfl)
  · skip
    have f45 : cw2 45 = cw 45 := by revert hp3; intro h9; repeat (first | exact h9 45 (by omega) | (obtain ⟨_, h9⟩ := h9) )
    have e45' : cw2 45 = .inl (cL, 1, .inr (.inl (of))) := f45.trans e45
    refine z_i2l C dL_insert_8 rfl ?_
    obtain ⟨cw9, ecw9⟩ : ∃ z : Nat → va_E, z = va_up (cw2) (45) (.inl (cL, 1, .inr (.inl (vp_updL (of) 0 ((r1).toInt64))))) := ⟨_, rfl⟩
    refine z_last C 2 rfl dL_insert_9 (45) (by omega) e45' 0 rfl (by omega) (by decide) ?_
    refine z_cw ecw9.symm ?_
    have hw_10 : cw9 (45) = .inl (cL, 1, .inr (.inl (vp_updL (of) 0 ((r1).toInt64)))) := by rw [ecw9, va_up_self]
    refine z_goto (tgt := 25) C dL_insert_10 (by decide) ?_
    refine z_iconst (v := nI 0) C dL_insert_25 (by decide) ?_
    exact z_iret C hr dL_insert_26 (Or.inl ⟨r1, cw2, hp3, rfl, ⟨_, hw_10, rfl⟩, fun j hj => by rw [ecw9, va_up_ne _ _ (by omega)]⟩) (Nat.le_of_ble_eq_true rfl) (Nat.le_of_ble_eq_true rfl)

theorem qL_delete_0 : Cond.classLink RL 13 "java/lang/IndexOutOfBoundsException" ∈ wsL_delete := by decide +kernel
theorem qL_delete_1 : Cond.classLink RL 15 "java/lang/IllegalArgumentException" ∈ wsL_delete := by decide +kernel
set_option maxHeartbeats 4000000 in
set_option maxRecDepth 100000 in
theorem c_L_delete (l : Launch) (D : va_G) (cI cR cL : ClassId) (B N : Nat) (ad : Nat → Nat) (cw : Nat → va_E) (hl8 : l.stackTraces = false) (hN : 45 < N) {past fut : Nat} {hs : Nat → List Int32} {pat ws dr : List Int32} (hX : zRX cI cR ad cw past fut hs pat ws dr) (x : Int32) (y : Int32) {of : Nat → Int64} (e45 : cw (45) = .inl (cL, 1, .inr (.inl (of)))) : Met l yL_delete wsL_delete ({ frames := 8, cells := 2, slots := 12, locals := 147 } : Room) (va_Pc [.ref (ad (0)), .int (x), .int (y), .ref (ad (45))] (zI D vwCl (zTy cI cR cL) B N ad cw)) (zQi D vwCl B N ad (fun (v : Int32) (cw' : Nat → va_E) => (∃ v0 cw1, (∃ q k, q + k ≤ (hs past).length ∧ x = nI q ∧ y = nI k ∧ v0 = nI (sDel (hs past) q k).length ∧ zRX cI cR ad cw1 (aPast past) 0 (aHs past hs (sDel (hs past) q k)) pat ws (sDel (hs past) q k) ∧ ∀ j, 37 ≤ j → cw1 j = cw j) ∧ v = nI 0 ∧ (∃ g9, cw' 45 = .inl (cL, 1, .inr (.inl (g9))) ∧ g9 0 = v0.toInt64) ∧ ∀ j, (j ≠ 45) → cw' j = cw1 j) ∨ (v = nI 1 ∧ (¬ (∃ q, q ≤ (hs past).length ∧ x = nI q)) ∧ cw' = cw) ∨ (v = nI 2 ∧ (∃ q, q ≤ (hs past).length ∧ x = nI q ∧ ¬ (∃ k, k ≤ (hs past).length - q ∧ y = nI k)) ∧ cw' = cw))) 2 12 (zA B) := by
  refine z_ofH (cc := cL_delete) (maxL := 5) (ret := (some .int)) (by decide) rfl (Nat.le_of_ble_eq_true rfl) ?_
  intro p e s m args below meth c C hr htab
  refine z_lv (lv' := [(0, .ref (ad (0))), (1, .int (x)), (2, .int (y)), (3, .ref (ad (45)))]) [0, 1, 2, 3] rfl ?_
  refine z_aload_n C dL_delete_0 3 rfl ?_
  refine z_iconst (v := nI 0) C dL_delete_1 (by decide) ?_
  refine z_aload_n C dL_delete_2 0 rfl ?_
  refine z_iload_n C dL_delete_3 1 rfl ?_
  refine z_iload_n C dL_delete_4 2 rfl ?_
  refine z_xcalli (z_xrunV (As := [.int (x), .int (y)]) (rest := [.int (nI 0), .ref (ad (45))]) C (c_PT_delete l D cI cR cL B N ad cw hl8 hN hX x y) (cwV 2 C.2.2.2.2.1 gL_delete_X3_delete rfl rfl rfl (by decide +kernel) ⟨Nat.le_of_ble_eq_true rfl, Nat.le_of_ble_eq_true rfl⟩) (by omega) hX.1 rfl rfl rfl rfl (Nat.le_of_ble_eq_true rfl) dL_delete_5 ⟨Nat.le_of_ble_eq_true rfl, Nat.le_of_ble_eq_true rfl⟩) (fun E4 hx5 => ?_) (fun r1 cw2 hp3 => ?_)
  · skip
    rcases hx5 with ⟨rfl, hc0⟩ | ⟨rfl, hc1⟩
    · skip
      refine z_catch (E := xIO) (name := xIO) C [] ⟨0, 10, 13, 13⟩ [⟨0, 10, 17, 15⟩] (htab.trans rfl) (fun z9 hz9 => absurd hz9 List.not_mem_nil) (by decide) (by decide) (C.2.2.2.2.1 _ qL_delete_0) (va_Nw.use rfl (C.2.2.2.2.2.2.2.2.2.2.2.2.2 (.castable xIO xIO) (by decide +kernel))) (fun q96 => ?_)
      refine z_astore (lv' := [(4, .ref (q96)), (0, .ref (ad (0))), (1, .int (x)), (2, .int (y)), (3, .ref (ad (45)))]) C dL_delete_13 (by decide) rfl ?_
      refine z_iconst (v := nI 1) C dL_delete_15 (by decide) ?_
      exact z_iret C hr dL_delete_16 (Or.inr (Or.inl (⟨rfl, hc0, rfl⟩))) (Nat.le_of_ble_eq_true rfl) (Nat.le_of_ble_eq_true rfl)
    · skip
      refine z_catch (E := xIA) (name := xIA) C [⟨0, 10, 13, 13⟩] ⟨0, 10, 17, 15⟩ [] (htab.trans rfl) (fun z9 hz9 => by rcases List.mem_singleton.mp hz9 with rfl; exact ⟨by decide, _, (C.2.2.2.2.1 _ qL_delete_0), C.2.2.2.2.2.2.2.2.2.2.2.2.1 (xIA, xIO) (by decide +kernel)⟩) (by decide) (by decide) (C.2.2.2.2.1 _ qL_delete_1) (va_Nw.use rfl (C.2.2.2.2.2.2.2.2.2.2.2.2.2 (.castable xIA xIA) (by decide +kernel))) (fun q97 => ?_)
      refine z_astore (lv' := [(4, .ref (q97)), (0, .ref (ad (0))), (1, .int (x)), (2, .int (y)), (3, .ref (ad (45)))]) C dL_delete_17 (by decide) rfl ?_
      refine z_iconst (v := nI 2) C dL_delete_19 (by decide) ?_
      exact z_iret C hr dL_delete_20 (Or.inr (Or.inr (⟨rfl, hc1, rfl⟩))) (Nat.le_of_ble_eq_true rfl) (Nat.le_of_ble_eq_true rfl)
  · skip
    have f45 : cw2 45 = cw 45 := by revert hp3; intro h9; repeat (first | exact h9 45 (by omega) | (obtain ⟨_, h9⟩ := h9) )
    have e45' : cw2 45 = .inl (cL, 1, .inr (.inl (of))) := f45.trans e45
    refine z_i2l C dL_delete_8 rfl ?_
    obtain ⟨cw8, ecw8⟩ : ∃ z : Nat → va_E, z = va_up (cw2) (45) (.inl (cL, 1, .inr (.inl (vp_updL (of) 0 ((r1).toInt64))))) := ⟨_, rfl⟩
    refine z_last C 2 rfl dL_delete_9 (45) (by omega) e45' 0 rfl (by omega) (by decide) ?_
    refine z_cw ecw8.symm ?_
    have hw_9 : cw8 (45) = .inl (cL, 1, .inr (.inl (vp_updL (of) 0 ((r1).toInt64)))) := by rw [ecw8, va_up_self]
    refine z_goto (tgt := 21) C dL_delete_10 (by decide) ?_
    refine z_iconst (v := nI 0) C dL_delete_21 (by decide) ?_
    exact z_iret C hr dL_delete_22 (Or.inl ⟨r1, cw2, hp3, rfl, ⟨_, hw_9, rfl⟩, fun j hj => by rw [ecw8, va_up_ne _ _ (by omega)]⟩) (Nat.le_of_ble_eq_true rfl) (Nat.le_of_ble_eq_true rfl)

theorem qL_copy_0 : Cond.classLink RL 13 "java/lang/IndexOutOfBoundsException" ∈ wsL_copy := by decide +kernel
theorem qL_copy_1 : Cond.classLink RL 15 "java/lang/IllegalArgumentException" ∈ wsL_copy := by decide +kernel
theorem qL_copy_2 : Cond.classLink RL 17 "java/lang/UnsupportedOperationException" ∈ wsL_copy := by decide +kernel
set_option maxHeartbeats 4000000 in
set_option maxRecDepth 100000 in
theorem c_L_copy (l : Launch) (D : va_G) (cI cR cL : ClassId) (B N : Nat) (ad : Nat → Nat) (cw : Nat → va_E) (hl8 : l.stackTraces = false) (hN : 45 < N) {past fut : Nat} {hs : Nat → List Int32} {pat ws dr : List Int32} (hX : zRX cI cR ad cw past fut hs pat ws dr) (x : Int32) (y : Int32) (z : Int32) {of : Nat → Int64} (e45 : cw (45) = .inl (cL, 1, .inr (.inl (of)))) : Met l yL_copy wsL_copy ({ frames := 8, cells := 4, slots := 24, locals := 148 } : Room) (va_Pc [.ref (ad (0)), .int (x), .int (y), .int (z), .ref (ad (45))] (zI D vwCl (zTy cI cR cL) B N ad cw)) (zQi D vwCl B N ad (fun (v : Int32) (cw' : Nat → va_E) => (∃ v0 cw1, (∃ q k u, q + k ≤ (hs past).length ∧ u ≤ (hs past).length ∧ (hs past).length + k ≤ 240 ∧ x = nI q ∧ y = nI k ∧ z = nI u ∧ v0 = nI (sCopy (hs past) q k u).length ∧ zRX cI cR ad cw1 (aPast past) 0 (aHs past hs (sCopy (hs past) q k u)) pat ws (sCopy (hs past) q k u) ∧ ∀ j, 37 ≤ j → cw1 j = cw j) ∧ v = nI 0 ∧ (∃ g9, cw' 45 = .inl (cL, 1, .inr (.inl (g9))) ∧ g9 0 = v0.toInt64) ∧ ∀ j, (j ≠ 45) → cw' j = cw1 j) ∨ (v = nI 1 ∧ (¬ ((∃ q, q ≤ (hs past).length ∧ x = nI q) ∧ (∃ u, u ≤ (hs past).length ∧ z = nI u))) ∧ cw' = cw) ∨ (v = nI 2 ∧ ((∃ u, u ≤ (hs past).length ∧ z = nI u) ∧ ∃ q, q ≤ (hs past).length ∧ x = nI q ∧ ¬ (∃ k, k ≤ (hs past).length - q ∧ y = nI k)) ∧ cw' = cw) ∨ (v = nI 3 ∧ ((∃ u, u ≤ (hs past).length ∧ z = nI u) ∧ ∃ q k, q + k ≤ (hs past).length ∧ x = nI q ∧ y = nI k ∧ ¬ ((hs past).length + k ≤ 240)) ∧ cw' = cw))) 4 24 (zA B) := by
  refine z_ofH (cc := cL_copy) (maxL := 6) (ret := (some .int)) (by decide) rfl (Nat.le_of_ble_eq_true rfl) ?_
  intro p e s m args below meth c C hr htab
  refine z_lv (lv' := [(0, .ref (ad (0))), (1, .int (x)), (2, .int (y)), (3, .int (z)), (4, .ref (ad (45)))]) [0, 1, 2, 3, 4] rfl ?_
  refine z_aload C dL_copy_0 4 rfl ?_
  refine z_iconst (v := nI 0) C dL_copy_2 (by decide) ?_
  refine z_aload_n C dL_copy_3 0 rfl ?_
  refine z_iload_n C dL_copy_4 1 rfl ?_
  refine z_iload_n C dL_copy_5 2 rfl ?_
  refine z_iload_n C dL_copy_6 3 rfl ?_
  refine z_xcalli (z_xrunV (As := [.int (x), .int (y), .int (z)]) (rest := [.int (nI 0), .ref (ad (45))]) C (c_PT_copy l D cI cR cL B N ad cw hl8 hN hX x y z) (cwV 3 C.2.2.2.2.1 gL_copy_X3_copy rfl rfl rfl (by decide +kernel) ⟨Nat.le_of_ble_eq_true rfl, Nat.le_of_ble_eq_true rfl⟩) (by omega) hX.1 rfl rfl rfl rfl (Nat.le_of_ble_eq_true rfl) dL_copy_7 ⟨Nat.le_of_ble_eq_true rfl, Nat.le_of_ble_eq_true rfl⟩) (fun E4 hx5 => ?_) (fun r1 cw2 hp3 => ?_)
  · skip
    rcases hx5 with ⟨rfl, hc0⟩ | ⟨rfl, hc1⟩ | ⟨rfl, hc2⟩
    · skip
      refine z_catch (E := xIO) (name := xIO) C [] ⟨0, 12, 15, 13⟩ [⟨0, 12, 19, 15⟩, ⟨0, 12, 23, 17⟩] (htab.trans rfl) (fun z9 hz9 => absurd hz9 List.not_mem_nil) (by decide) (by decide) (C.2.2.2.2.1 _ qL_copy_0) (va_Nw.use rfl (C.2.2.2.2.2.2.2.2.2.2.2.2.2 (.castable xIO xIO) (by decide +kernel))) (fun q96 => ?_)
      refine z_astore (lv' := [(5, .ref (q96)), (0, .ref (ad (0))), (1, .int (x)), (2, .int (y)), (3, .int (z)), (4, .ref (ad (45)))]) C dL_copy_15 (by decide) rfl ?_
      refine z_iconst (v := nI 1) C dL_copy_17 (by decide) ?_
      exact z_iret C hr dL_copy_18 (Or.inr (Or.inl (⟨rfl, hc0, rfl⟩))) (Nat.le_of_ble_eq_true rfl) (Nat.le_of_ble_eq_true rfl)
    · skip
      refine z_catch (E := xIA) (name := xIA) C [⟨0, 12, 15, 13⟩] ⟨0, 12, 19, 15⟩ [⟨0, 12, 23, 17⟩] (htab.trans rfl) (fun z9 hz9 => by rcases List.mem_singleton.mp hz9 with rfl; exact ⟨by decide, _, (C.2.2.2.2.1 _ qL_copy_0), C.2.2.2.2.2.2.2.2.2.2.2.2.1 (xIA, xIO) (by decide +kernel)⟩) (by decide) (by decide) (C.2.2.2.2.1 _ qL_copy_1) (va_Nw.use rfl (C.2.2.2.2.2.2.2.2.2.2.2.2.2 (.castable xIA xIA) (by decide +kernel))) (fun q97 => ?_)
      refine z_astore (lv' := [(5, .ref (q97)), (0, .ref (ad (0))), (1, .int (x)), (2, .int (y)), (3, .int (z)), (4, .ref (ad (45)))]) C dL_copy_19 (by decide) rfl ?_
      refine z_iconst (v := nI 2) C dL_copy_21 (by decide) ?_
      exact z_iret C hr dL_copy_22 (Or.inr (Or.inr (Or.inl (⟨rfl, hc1, rfl⟩)))) (Nat.le_of_ble_eq_true rfl) (Nat.le_of_ble_eq_true rfl)
    · skip
      refine z_catch (E := xUO) (name := xUO) C [⟨0, 12, 15, 13⟩, ⟨0, 12, 19, 15⟩] ⟨0, 12, 23, 17⟩ [] (htab.trans rfl) (fun z9 hz9 => by rcases (List.mem_cons.mp hz9).imp id List.mem_singleton.mp with rfl | rfl; exact ⟨by decide, _, (C.2.2.2.2.1 _ qL_copy_0), C.2.2.2.2.2.2.2.2.2.2.2.2.1 (xUO, xIO) (by decide +kernel)⟩; exact ⟨by decide, _, (C.2.2.2.2.1 _ qL_copy_1), C.2.2.2.2.2.2.2.2.2.2.2.2.1 (xUO, xIA) (by decide +kernel)⟩) (by decide) (by decide) (C.2.2.2.2.1 _ qL_copy_2) (va_Nw.use rfl (C.2.2.2.2.2.2.2.2.2.2.2.2.2 (.castable xUO xUO) (by decide +kernel))) (fun q98 => ?_)
      refine z_astore (lv' := [(5, .ref (q98)), (0, .ref (ad (0))), (1, .int (x)), (2, .int (y)), (3, .int (z)), (4, .ref (ad (45)))]) C dL_copy_23 (by decide) rfl ?_
      refine z_iconst (v := nI 3) C dL_copy_25 (by decide) ?_
      exact z_iret C hr dL_copy_26 (Or.inr (Or.inr (Or.inr (⟨rfl, hc2, rfl⟩)))) (Nat.le_of_ble_eq_true rfl) (Nat.le_of_ble_eq_true rfl)
  · skip
    have f45 : cw2 45 = cw 45 := by revert hp3; intro h9; repeat (first | exact h9 45 (by omega) | (obtain ⟨_, h9⟩ := h9) )
    have e45' : cw2 45 = .inl (cL, 1, .inr (.inl (of))) := f45.trans e45
    refine z_i2l C dL_copy_10 rfl ?_
    obtain ⟨cw9, ecw9⟩ : ∃ z : Nat → va_E, z = va_up (cw2) (45) (.inl (cL, 1, .inr (.inl (vp_updL (of) 0 ((r1).toInt64))))) := ⟨_, rfl⟩
    refine z_last C 2 rfl dL_copy_11 (45) (by omega) e45' 0 rfl (by omega) (by decide) ?_
    refine z_cw ecw9.symm ?_
    have hw_10 : cw9 (45) = .inl (cL, 1, .inr (.inl (vp_updL (of) 0 ((r1).toInt64)))) := by rw [ecw9, va_up_self]
    refine z_goto (tgt := 27) C dL_copy_12 (by decide) ?_
    refine z_iconst (v := nI 0) C dL_copy_27 (by decide) ?_
    exact z_iret C hr dL_copy_28 (Or.inl ⟨r1, cw2, hp3, rfl, ⟨_, hw_10, rfl⟩, fun j hj => by rw [ecw9, va_up_ne _ _ (by omega)]⟩) (Nat.le_of_ble_eq_true rfl) (Nat.le_of_ble_eq_true rfl)

theorem qL_at_0 : Cond.classLink RL 13 "java/lang/IndexOutOfBoundsException" ∈ wsL_at := by decide +kernel
set_option maxHeartbeats 4000000 in
set_option maxRecDepth 100000 in
theorem c_L_at (l : Launch) (D : va_G) (cI cR cL : ClassId) (B N : Nat) (ad : Nat → Nat) (cw : Nat → va_E) (hl8 : l.stackTraces = false) (hN : 45 < N) {past fut : Nat} {hs : Nat → List Int32} {pat ws dr : List Int32} (hX : zRX cI cR ad cw past fut hs pat ws dr) (x : Int32) {of : Nat → Int64} (e45 : cw (45) = .inl (cL, 1, .inr (.inl (of)))) : Met l yL_at wsL_at ({ frames := 7, cells := 1, slots := 6, locals := 117 } : Room) (va_Pc [.ref (ad (0)), .int (x), .ref (ad (45))] (zI D vwCl (zTy cI cR cL) B N ad cw)) (zQi D vwCl B N ad (fun (v : Int32) (cw' : Nat → va_E) => (∃ v0 cw1, (∃ q, q < (hs past).length ∧ x = nI q ∧ (hs past)[q]? = some v0 ∧ cw1 = cw) ∧ v = nI 0 ∧ (∃ g9, cw' 45 = .inl (cL, 1, .inr (.inl (g9))) ∧ g9 0 = v0.toInt64) ∧ ∀ j, (j ≠ 45) → cw' j = cw1 j) ∨ (v = nI 1 ∧ (¬ (∃ q, q < (hs past).length ∧ x = nI q)) ∧ cw' = cw))) 1 6 (zA B) := by
  refine z_ofH (cc := cL_at) (maxL := 4) (ret := (some .int)) (by decide) rfl (Nat.le_of_ble_eq_true rfl) ?_
  intro p e s m args below meth c C hr htab
  refine z_lv (lv' := [(0, .ref (ad (0))), (1, .int (x)), (2, .ref (ad (45)))]) [0, 1, 2] rfl ?_
  refine z_aload_n C dL_at_0 2 rfl ?_
  refine z_iconst (v := nI 0) C dL_at_1 (by decide) ?_
  refine z_aload_n C dL_at_2 0 rfl ?_
  refine z_iload_n C dL_at_3 1 rfl ?_
  refine z_xcalli (z_xrunV (As := [.int (x)]) (rest := [.int (nI 0), .ref (ad (45))]) C (c_PT_at l D cI cR cL B N ad cw hl8 hN hX x) (cwV 1 C.2.2.2.2.1 gL_at_X3_at rfl rfl rfl (by decide +kernel) ⟨Nat.le_of_ble_eq_true rfl, Nat.le_of_ble_eq_true rfl⟩) (by omega) hX.1 rfl rfl rfl rfl (Nat.le_of_ble_eq_true rfl) dL_at_4 ⟨Nat.le_of_ble_eq_true rfl, Nat.le_of_ble_eq_true rfl⟩) (fun E4 hx5 => ?_) (fun r1 cw2 hp3 => ?_)
  · skip
    rcases hx5 with ⟨rfl, hc0⟩
    · skip
      refine z_catch (E := xIO) (name := xIO) C [] ⟨0, 9, 12, 13⟩ [] (htab.trans rfl) (fun z9 hz9 => absurd hz9 List.not_mem_nil) (by decide) (by decide) (C.2.2.2.2.1 _ qL_at_0) (va_Nw.use rfl (C.2.2.2.2.2.2.2.2.2.2.2.2.2 (.castable xIO xIO) (by decide +kernel))) (fun q96 => ?_)
      refine z_astore_n (lv' := [(3, .ref (q96)), (0, .ref (ad (0))), (1, .int (x)), (2, .ref (ad (45)))]) C dL_at_12 rfl (by decide) rfl ?_
      refine z_iconst (v := nI 1) C dL_at_13 (by decide) ?_
      exact z_iret C hr dL_at_14 (Or.inr (⟨rfl, hc0, rfl⟩)) (Nat.le_of_ble_eq_true rfl) (Nat.le_of_ble_eq_true rfl)
  · skip
    have e45' : cw2 45 = .inl (cL, 1, .inr (.inl (of))) := by obtain ⟨_, _, _, _, h9⟩ := hp3; rw [h9]; exact e45
    refine z_i2l C dL_at_7 rfl ?_
    obtain ⟨cw7, ecw7⟩ : ∃ z : Nat → va_E, z = va_up (cw2) (45) (.inl (cL, 1, .inr (.inl (vp_updL (of) 0 ((r1).toInt64))))) := ⟨_, rfl⟩
    refine z_last C 2 rfl dL_at_8 (45) (by omega) e45' 0 rfl (by omega) (by decide) ?_
    refine z_cw ecw7.symm ?_
    have hw_8 : cw7 (45) = .inl (cL, 1, .inr (.inl (vp_updL (of) 0 ((r1).toInt64)))) := by rw [ecw7, va_up_self]
    refine z_goto (tgt := 15) C dL_at_9 (by decide) ?_
    refine z_iconst (v := nI 0) C dL_at_15 (by decide) ?_
    exact z_iret C hr dL_at_16 (Or.inl ⟨r1, cw2, hp3, rfl, ⟨_, hw_8, rfl⟩, fun j hj => by rw [ecw7, va_up_ne _ _ (by omega)]⟩) (Nat.le_of_ble_eq_true rfl) (Nat.le_of_ble_eq_true rfl)

theorem qL_undo_0 : Cond.classLink RL 34 "java/lang/IllegalStateException" ∈ wsL_undo := by decide +kernel
set_option maxHeartbeats 4000000 in
set_option maxRecDepth 100000 in
theorem c_L_undo (l : Launch) (D : va_G) (cI cR cL : ClassId) (B N : Nat) (ad : Nat → Nat) (cw : Nat → va_E) (hl8 : l.stackTraces = false) (hN : 45 < N) {past fut : Nat} {hs : Nat → List Int32} {pat ws dr : List Int32} (hX : zRX cI cR ad cw past fut hs pat ws dr) {of : Nat → Int64} (e45 : cw (45) = .inl (cL, 1, .inr (.inl (of)))) : Met l yL_undo wsL_undo ({ frames := 7, cells := 1, slots := 6, locals := 115 } : Room) (va_Pc [.ref (ad (0)), .ref (ad (45))] (zI D vwCl (zTy cI cR cL) B N ad cw)) (zQi D vwCl B N ad (fun (v : Int32) (cw' : Nat → va_E) => (∃ v0 cw1, (∃ pv, past = pv + 1 ∧ v0 = nI (hs pv).length ∧ zRX cI cR ad cw1 pv (fut + 1) hs pat ws dr ∧ ∀ j, 37 ≤ j → cw1 j = cw j) ∧ v = nI 0 ∧ (∃ g9, cw' 45 = .inl (cL, 1, .inr (.inl (g9))) ∧ g9 0 = v0.toInt64) ∧ ∀ j, (j ≠ 45) → cw' j = cw1 j) ∨ (v = nI 1 ∧ (past = 0) ∧ cw' = cw))) 1 6 (zA B) := by
  refine z_ofH (cc := cL_undo) (maxL := 3) (ret := (some .int)) (by decide) rfl (Nat.le_of_ble_eq_true rfl) ?_
  intro p e s m args below meth c C hr htab
  refine z_lv (lv' := [(0, .ref (ad (0))), (1, .ref (ad (45)))]) [0, 1] rfl ?_
  refine z_aload_n C dL_undo_0 1 rfl ?_
  refine z_iconst (v := nI 0) C dL_undo_1 (by decide) ?_
  refine z_aload_n C dL_undo_2 0 rfl ?_
  refine z_xcalli (z_xrunV (As := []) (rest := [.int (nI 0), .ref (ad (45))]) C (c_PT_undo l D cI cR cL B N ad cw hl8 hN hX) (cwV 0 C.2.2.2.2.1 gL_undo_X3_undo rfl rfl rfl (by decide +kernel) ⟨Nat.le_of_ble_eq_true rfl, Nat.le_of_ble_eq_true rfl⟩) (by omega) hX.1 rfl rfl rfl rfl (Nat.le_of_ble_eq_true rfl) dL_undo_3 ⟨Nat.le_of_ble_eq_true rfl, Nat.le_of_ble_eq_true rfl⟩) (fun E4 hx5 => ?_) (fun r1 cw2 hp3 => ?_)
  · skip
    rcases hx5 with ⟨rfl, hc0⟩
    · skip
      refine z_catch (E := xIS) (name := xIS) C [] ⟨0, 8, 11, 34⟩ [] (htab.trans rfl) (fun z9 hz9 => absurd hz9 List.not_mem_nil) (by decide) (by decide) (C.2.2.2.2.1 _ qL_undo_0) (va_Nw.use rfl (C.2.2.2.2.2.2.2.2.2.2.2.2.2 (.castable xIS xIS) (by decide +kernel))) (fun q96 => ?_)
      refine z_astore_n (lv' := [(2, .ref (q96)), (0, .ref (ad (0))), (1, .ref (ad (45)))]) C dL_undo_11 rfl (by decide) rfl ?_
      refine z_iconst (v := nI 1) C dL_undo_12 (by decide) ?_
      exact z_iret C hr dL_undo_13 (Or.inr (⟨rfl, hc0, rfl⟩)) (Nat.le_of_ble_eq_true rfl) (Nat.le_of_ble_eq_true rfl)
  · skip
    have f45 : cw2 45 = cw 45 := by revert hp3; intro h9; repeat (first | exact h9 45 (by omega) | (obtain ⟨_, h9⟩ := h9) )
    have e45' : cw2 45 = .inl (cL, 1, .inr (.inl (of))) := f45.trans e45
    refine z_i2l C dL_undo_6 rfl ?_
    obtain ⟨cw7, ecw7⟩ : ∃ z : Nat → va_E, z = va_up (cw2) (45) (.inl (cL, 1, .inr (.inl (vp_updL (of) 0 ((r1).toInt64))))) := ⟨_, rfl⟩
    refine z_last C 2 rfl dL_undo_7 (45) (by omega) e45' 0 rfl (by omega) (by decide) ?_
    refine z_cw ecw7.symm ?_
    have hw_8 : cw7 (45) = .inl (cL, 1, .inr (.inl (vp_updL (of) 0 ((r1).toInt64)))) := by rw [ecw7, va_up_self]
    refine z_goto (tgt := 14) C dL_undo_8 (by decide) ?_
    refine z_iconst (v := nI 0) C dL_undo_14 (by decide) ?_
    exact z_iret C hr dL_undo_15 (Or.inl ⟨r1, cw2, hp3, rfl, ⟨_, hw_8, rfl⟩, fun j hj => by rw [ecw7, va_up_ne _ _ (by omega)]⟩) (Nat.le_of_ble_eq_true rfl) (Nat.le_of_ble_eq_true rfl)

theorem qL_redo_0 : Cond.classLink RL 34 "java/lang/IllegalStateException" ∈ wsL_redo := by decide +kernel
set_option maxHeartbeats 4000000 in
set_option maxRecDepth 100000 in
theorem c_L_redo (l : Launch) (D : va_G) (cI cR cL : ClassId) (B N : Nat) (ad : Nat → Nat) (cw : Nat → va_E) (hl8 : l.stackTraces = false) (hN : 45 < N) {past fut : Nat} {hs : Nat → List Int32} {pat ws dr : List Int32} (hX : zRX cI cR ad cw past fut hs pat ws dr) {of : Nat → Int64} (e45 : cw (45) = .inl (cL, 1, .inr (.inl (of)))) : Met l yL_redo wsL_redo ({ frames := 7, cells := 1, slots := 6, locals := 115 } : Room) (va_Pc [.ref (ad (0)), .ref (ad (45))] (zI D vwCl (zTy cI cR cL) B N ad cw)) (zQi D vwCl B N ad (fun (v : Int32) (cw' : Nat → va_E) => (∃ v0 cw1, (∃ qv, fut = qv + 1 ∧ v0 = nI (hs (past + 1)).length ∧ zRX cI cR ad cw1 (past + 1) qv hs pat ws dr ∧ ∀ j, 37 ≤ j → cw1 j = cw j) ∧ v = nI 0 ∧ (∃ g9, cw' 45 = .inl (cL, 1, .inr (.inl (g9))) ∧ g9 0 = v0.toInt64) ∧ ∀ j, (j ≠ 45) → cw' j = cw1 j) ∨ (v = nI 1 ∧ (fut = 0) ∧ cw' = cw))) 1 6 (zA B) := by
  refine z_ofH (cc := cL_redo) (maxL := 3) (ret := (some .int)) (by decide) rfl (Nat.le_of_ble_eq_true rfl) ?_
  intro p e s m args below meth c C hr htab
  refine z_lv (lv' := [(0, .ref (ad (0))), (1, .ref (ad (45)))]) [0, 1] rfl ?_
  refine z_aload_n C dL_redo_0 1 rfl ?_
  refine z_iconst (v := nI 0) C dL_redo_1 (by decide) ?_
  refine z_aload_n C dL_redo_2 0 rfl ?_
  refine z_xcalli (z_xrunV (As := []) (rest := [.int (nI 0), .ref (ad (45))]) C (c_PT_redo l D cI cR cL B N ad cw hl8 hN hX) (cwV 0 C.2.2.2.2.1 gL_redo_X3_redo rfl rfl rfl (by decide +kernel) ⟨Nat.le_of_ble_eq_true rfl, Nat.le_of_ble_eq_true rfl⟩) (by omega) hX.1 rfl rfl rfl rfl (Nat.le_of_ble_eq_true rfl) dL_redo_3 ⟨Nat.le_of_ble_eq_true rfl, Nat.le_of_ble_eq_true rfl⟩) (fun E4 hx5 => ?_) (fun r1 cw2 hp3 => ?_)
  · skip
    rcases hx5 with ⟨rfl, hc0⟩
    · skip
      refine z_catch (E := xIS) (name := xIS) C [] ⟨0, 8, 11, 34⟩ [] (htab.trans rfl) (fun z9 hz9 => absurd hz9 List.not_mem_nil) (by decide) (by decide) (C.2.2.2.2.1 _ qL_redo_0) (va_Nw.use rfl (C.2.2.2.2.2.2.2.2.2.2.2.2.2 (.castable xIS xIS) (by decide +kernel))) (fun q96 => ?_)
      refine z_astore_n (lv' := [(2, .ref (q96)), (0, .ref (ad (0))), (1, .ref (ad (45)))]) C dL_redo_11 rfl (by decide) rfl ?_
      refine z_iconst (v := nI 1) C dL_redo_12 (by decide) ?_
      exact z_iret C hr dL_redo_13 (Or.inr (⟨rfl, hc0, rfl⟩)) (Nat.le_of_ble_eq_true rfl) (Nat.le_of_ble_eq_true rfl)
  · skip
    have f45 : cw2 45 = cw 45 := by revert hp3; intro h9; repeat (first | exact h9 45 (by omega) | (obtain ⟨_, h9⟩ := h9) )
    have e45' : cw2 45 = .inl (cL, 1, .inr (.inl (of))) := f45.trans e45
    refine z_i2l C dL_redo_6 rfl ?_
    obtain ⟨cw7, ecw7⟩ : ∃ z : Nat → va_E, z = va_up (cw2) (45) (.inl (cL, 1, .inr (.inl (vp_updL (of) 0 ((r1).toInt64))))) := ⟨_, rfl⟩
    refine z_last C 2 rfl dL_redo_7 (45) (by omega) e45' 0 rfl (by omega) (by decide) ?_
    refine z_cw ecw7.symm ?_
    have hw_8 : cw7 (45) = .inl (cL, 1, .inr (.inl (vp_updL (of) 0 ((r1).toInt64)))) := by rw [ecw7, va_up_self]
    refine z_goto (tgt := 14) C dL_redo_8 (by decide) ?_
    refine z_iconst (v := nI 0) C dL_redo_14 (by decide) ?_
    exact z_iret C hr dL_redo_15 (Or.inl ⟨r1, cw2, hp3, rfl, ⟨_, hw_8, rfl⟩, fun j hj => by rw [ecw7, va_up_ne _ _ (by omega)]⟩) (Nat.le_of_ble_eq_true rfl) (Nat.le_of_ble_eq_true rfl)

theorem qL_pattern_0 : Cond.classLink RL 15 "java/lang/IllegalArgumentException" ∈ wsL_pattern := by decide +kernel
theorem qL_pattern_1 : Cond.classLink RL 17 "java/lang/UnsupportedOperationException" ∈ wsL_pattern := by decide +kernel
set_option maxHeartbeats 4000000 in
set_option maxRecDepth 100000 in
theorem c_L_pattern (l : Launch) (D : va_G) (cI cR cL : ClassId) (B N : Nat) (ad : Nat → Nat) (cw : Nat → va_E) (hl8 : l.stackTraces = false) (hN : 45 < N) {past fut : Nat} {hs : Nat → List Int32} {pat ws dr : List Int32} (hX : zRX cI cR ad cw past fut hs pat ws dr) (x : Int32) {of : Nat → Int64} (e45 : cw (45) = .inl (cL, 1, .inr (.inl (of)))) : Met l yL_pattern wsL_pattern ({ frames := 8, cells := 2, slots := 12, locals := 136 } : Room) (va_Pc [.ref (ad (0)), .int (x), .ref (ad (45))] (zI D vwCl (zTy cI cR cL) B N ad cw)) (zQi D vwCl B N ad (fun (v : Int32) (cw' : Nat → va_E) => (∃ v0 cw1, ((∃ q, q < 256 ∧ x = nI q) ∧ pat.length < 16 ∧ v0 = nI (pat ++ [x]).length ∧ zRX cI cR ad cw1 past fut hs (pat ++ [x]) ws dr ∧ ∀ j, 37 ≤ j → cw1 j = cw j) ∧ v = nI 0 ∧ (∃ g9, cw' 45 = .inl (cL, 1, .inr (.inl (g9))) ∧ g9 0 = v0.toInt64) ∧ ∀ j, (j ≠ 45) → cw' j = cw1 j) ∨ (v = nI 1 ∧ (¬ (∃ q, q < 256 ∧ x = nI q)) ∧ cw' = cw) ∨ (v = nI 2 ∧ ((∃ q, q < 256 ∧ x = nI q) ∧ ¬ (pat.length < 16)) ∧ cw' = cw))) 2 12 (zA B) := by
  refine z_ofH (cc := cL_pattern) (maxL := 4) (ret := (some .int)) (by decide) rfl (Nat.le_of_ble_eq_true rfl) ?_
  intro p e s m args below meth c C hr htab
  refine z_lv (lv' := [(0, .ref (ad (0))), (1, .int (x)), (2, .ref (ad (45)))]) [0, 1, 2] rfl ?_
  refine z_aload_n C dL_pattern_0 2 rfl ?_
  refine z_iconst (v := nI 0) C dL_pattern_1 (by decide) ?_
  refine z_aload_n C dL_pattern_2 0 rfl ?_
  refine z_iload_n C dL_pattern_3 1 rfl ?_
  refine z_xcalli (z_xrunV (As := [.int (x)]) (rest := [.int (nI 0), .ref (ad (45))]) C (c_PT_pattern l D cI cR cL B N ad cw hl8 hN hX x) (cwV 1 C.2.2.2.2.1 gL_pattern_X3_pattern rfl rfl rfl (by decide +kernel) ⟨Nat.le_of_ble_eq_true rfl, Nat.le_of_ble_eq_true rfl⟩) (by omega) hX.1 rfl rfl rfl rfl (Nat.le_of_ble_eq_true rfl) dL_pattern_4 ⟨Nat.le_of_ble_eq_true rfl, Nat.le_of_ble_eq_true rfl⟩) (fun E4 hx5 => ?_) (fun r1 cw2 hp3 => ?_)
  · skip
    rcases hx5 with ⟨rfl, hc0⟩ | ⟨rfl, hc1⟩
    · skip
      refine z_catch (E := xIA) (name := xIA) C [] ⟨0, 9, 12, 15⟩ [⟨0, 9, 15, 17⟩] (htab.trans rfl) (fun z9 hz9 => absurd hz9 List.not_mem_nil) (by decide) (by decide) (C.2.2.2.2.1 _ qL_pattern_0) (va_Nw.use rfl (C.2.2.2.2.2.2.2.2.2.2.2.2.2 (.castable xIA xIA) (by decide +kernel))) (fun q96 => ?_)
      refine z_astore_n (lv' := [(3, .ref (q96)), (0, .ref (ad (0))), (1, .int (x)), (2, .ref (ad (45)))]) C dL_pattern_12 rfl (by decide) rfl ?_
      refine z_iconst (v := nI 1) C dL_pattern_13 (by decide) ?_
      exact z_iret C hr dL_pattern_14 (Or.inr (Or.inl (⟨rfl, hc0, rfl⟩))) (Nat.le_of_ble_eq_true rfl) (Nat.le_of_ble_eq_true rfl)
    · skip
      refine z_catch (E := xUO) (name := xUO) C [⟨0, 9, 12, 15⟩] ⟨0, 9, 15, 17⟩ [] (htab.trans rfl) (fun z9 hz9 => by rcases List.mem_singleton.mp hz9 with rfl; exact ⟨by decide, _, (C.2.2.2.2.1 _ qL_pattern_0), C.2.2.2.2.2.2.2.2.2.2.2.2.1 (xUO, xIA) (by decide +kernel)⟩) (by decide) (by decide) (C.2.2.2.2.1 _ qL_pattern_1) (va_Nw.use rfl (C.2.2.2.2.2.2.2.2.2.2.2.2.2 (.castable xUO xUO) (by decide +kernel))) (fun q97 => ?_)
      refine z_astore_n (lv' := [(3, .ref (q97)), (0, .ref (ad (0))), (1, .int (x)), (2, .ref (ad (45)))]) C dL_pattern_15 rfl (by decide) rfl ?_
      refine z_iconst (v := nI 2) C dL_pattern_16 (by decide) ?_
      exact z_iret C hr dL_pattern_17 (Or.inr (Or.inr (⟨rfl, hc1, rfl⟩))) (Nat.le_of_ble_eq_true rfl) (Nat.le_of_ble_eq_true rfl)
  · skip
    have f45 : cw2 45 = cw 45 := by revert hp3; intro h9; repeat (first | exact h9 45 (by omega) | (obtain ⟨_, h9⟩ := h9) )
    have e45' : cw2 45 = .inl (cL, 1, .inr (.inl (of))) := f45.trans e45
    refine z_i2l C dL_pattern_7 rfl ?_
    obtain ⟨cw8, ecw8⟩ : ∃ z : Nat → va_E, z = va_up (cw2) (45) (.inl (cL, 1, .inr (.inl (vp_updL (of) 0 ((r1).toInt64))))) := ⟨_, rfl⟩
    refine z_last C 2 rfl dL_pattern_8 (45) (by omega) e45' 0 rfl (by omega) (by decide) ?_
    refine z_cw ecw8.symm ?_
    have hw_9 : cw8 (45) = .inl (cL, 1, .inr (.inl (vp_updL (of) 0 ((r1).toInt64)))) := by rw [ecw8, va_up_self]
    refine z_goto (tgt := 18) C dL_pattern_9 (by decide) ?_
    refine z_iconst (v := nI 0) C dL_pattern_18 (by decide) ?_
    exact z_iret C hr dL_pattern_19 (Or.inl ⟨r1, cw2, hp3, rfl, ⟨_, hw_9, rfl⟩, fun j hj => by rw [ecw8, va_up_ne _ _ (by omega)]⟩) (Nat.le_of_ble_eq_true rfl) (Nat.le_of_ble_eq_true rfl)

theorem qL_find_0 : Cond.classLink RL 13 "java/lang/IndexOutOfBoundsException" ∈ wsL_find := by decide +kernel
set_option maxHeartbeats 4000000 in
set_option maxRecDepth 100000 in
theorem c_L_find (l : Launch) (D : va_G) (cI cR cL : ClassId) (B N : Nat) (ad : Nat → Nat) (cw : Nat → va_E) (hl8 : l.stackTraces = false) (hN : 45 < N) {past fut : Nat} {hs : Nat → List Int32} {pat ws dr : List Int32} (hX : zRX cI cR ad cw past fut hs pat ws dr) (x : Int32) {of : Nat → Int64} (e45 : cw (45) = .inl (cL, 1, .inr (.inl (of)))) : Met l yL_find wsL_find ({ frames := 8, cells := 1, slots := 6, locals := 139 } : Room) (va_Pc [.ref (ad (0)), .int (x), .ref (ad (45))] (zI D vwCl (zTy cI cR cL) B N ad cw)) (zQi D vwCl B N ad (fun (v : Int32) (cw' : Nat → va_E) => (∃ v0 cw1, (∃ q, q ≤ (hs past).length ∧ x = nI q ∧ sFind (hs past) pat q v0 ∧ cw1 = cw) ∧ v = nI 0 ∧ (∃ g9, cw' 45 = .inl (cL, 1, .inr (.inl (g9))) ∧ g9 0 = v0.toInt64) ∧ ∀ j, (j ≠ 45) → cw' j = cw1 j) ∨ (v = nI 1 ∧ (¬ (∃ q, q ≤ (hs past).length ∧ x = nI q)) ∧ cw' = cw))) 1 6 (zA B) := by
  refine z_ofH (cc := cL_find) (maxL := 4) (ret := (some .int)) (by decide) rfl (Nat.le_of_ble_eq_true rfl) ?_
  intro p e s m args below meth c C hr htab
  refine z_lv (lv' := [(0, .ref (ad (0))), (1, .int (x)), (2, .ref (ad (45)))]) [0, 1, 2] rfl ?_
  refine z_aload_n C dL_find_0 2 rfl ?_
  refine z_iconst (v := nI 0) C dL_find_1 (by decide) ?_
  refine z_aload_n C dL_find_2 0 rfl ?_
  refine z_iload_n C dL_find_3 1 rfl ?_
  refine z_xcalli (z_xrunV (As := [.int (x)]) (rest := [.int (nI 0), .ref (ad (45))]) C (c_PT_find l D cI cR cL B N ad cw hl8 hN hX x) (cwV 1 C.2.2.2.2.1 gL_find_X3_find rfl rfl rfl (by decide +kernel) ⟨Nat.le_of_ble_eq_true rfl, Nat.le_of_ble_eq_true rfl⟩) (by omega) hX.1 rfl rfl rfl rfl (Nat.le_of_ble_eq_true rfl) dL_find_4 ⟨Nat.le_of_ble_eq_true rfl, Nat.le_of_ble_eq_true rfl⟩) (fun E4 hx5 => ?_) (fun r1 cw2 hp3 => ?_)
  · skip
    rcases hx5 with ⟨rfl, hc0⟩
    · skip
      refine z_catch (E := xIO) (name := xIO) C [] ⟨0, 9, 12, 13⟩ [] (htab.trans rfl) (fun z9 hz9 => absurd hz9 List.not_mem_nil) (by decide) (by decide) (C.2.2.2.2.1 _ qL_find_0) (va_Nw.use rfl (C.2.2.2.2.2.2.2.2.2.2.2.2.2 (.castable xIO xIO) (by decide +kernel))) (fun q96 => ?_)
      refine z_astore_n (lv' := [(3, .ref (q96)), (0, .ref (ad (0))), (1, .int (x)), (2, .ref (ad (45)))]) C dL_find_12 rfl (by decide) rfl ?_
      refine z_iconst (v := nI 1) C dL_find_13 (by decide) ?_
      exact z_iret C hr dL_find_14 (Or.inr (⟨rfl, hc0, rfl⟩)) (Nat.le_of_ble_eq_true rfl) (Nat.le_of_ble_eq_true rfl)
  · skip
    have e45' : cw2 45 = .inl (cL, 1, .inr (.inl (of))) := by obtain ⟨_, _, _, _, h9⟩ := hp3; rw [h9]; exact e45
    refine z_i2l C dL_find_7 rfl ?_
    obtain ⟨cw7, ecw7⟩ : ∃ z : Nat → va_E, z = va_up (cw2) (45) (.inl (cL, 1, .inr (.inl (vp_updL (of) 0 ((r1).toInt64))))) := ⟨_, rfl⟩
    refine z_last C 2 rfl dL_find_8 (45) (by omega) e45' 0 rfl (by omega) (by decide) ?_
    refine z_cw ecw7.symm ?_
    have hw_8 : cw7 (45) = .inl (cL, 1, .inr (.inl (vp_updL (of) 0 ((r1).toInt64)))) := by rw [ecw7, va_up_self]
    refine z_goto (tgt := 15) C dL_find_9 (by decide) ?_
    refine z_iconst (v := nI 0) C dL_find_15 (by decide) ?_
    exact z_iret C hr dL_find_16 (Or.inl ⟨r1, cw2, hp3, rfl, ⟨_, hw_8, rfl⟩, fun j hj => by rw [ecw7, va_up_ne _ _ (by omega)]⟩) (Nat.le_of_ble_eq_true rfl) (Nat.le_of_ble_eq_true rfl)

theorem qL_replace_0 : Cond.classLink RL 15 "java/lang/IllegalArgumentException" ∈ wsL_replace := by decide +kernel
theorem qL_replace_1 : Cond.classLink RL 34 "java/lang/IllegalStateException" ∈ wsL_replace := by decide +kernel
set_option maxHeartbeats 4000000 in
set_option maxRecDepth 100000 in
theorem c_L_replace (l : Launch) (D : va_G) (cI cR cL : ClassId) (B N : Nat) (ad : Nat → Nat) (cw : Nat → va_E) (hl8 : l.stackTraces = false) (hN : 45 < N) {past fut : Nat} {hs : Nat → List Int32} {pat ws dr : List Int32} (hX : zRX cI cR ad cw past fut hs pat ws dr) (x : Int32) {of : Nat → Int64} (e45 : cw (45) = .inl (cL, 1, .inr (.inl (of)))) : Met l yL_replace wsL_replace ({ frames := 8, cells := 2, slots := 12, locals := 146 } : Room) (va_Pc [.ref (ad (0)), .int (x), .ref (ad (45))] (zI D vwCl (zTy cI cR cL) B N ad cw)) (zQi D vwCl B N ad (fun (v : Int32) (cw' : Nat → va_E) => (∃ v0 cw1, ((∃ q, q < 256 ∧ x = nI q) ∧ 0 < pat.length ∧ v0 = nI (sRep (hs past) pat x (hs past).length 0 [] 0).2 ∧ zRX cI cR ad cw1 (aPast past) 0 (aHs past hs (sRep (hs past) pat x (hs past).length 0 [] 0).1) pat ws (sRep (hs past) pat x (hs past).length 0 [] 0).1 ∧ ∀ j, 37 ≤ j → cw1 j = cw j) ∧ v = nI 0 ∧ (∃ g9, cw' 45 = .inl (cL, 1, .inr (.inl (g9))) ∧ g9 0 = v0.toInt64) ∧ ∀ j, (j ≠ 45) → cw' j = cw1 j) ∨ (v = nI 1 ∧ (¬ (∃ q, q < 256 ∧ x = nI q)) ∧ cw' = cw) ∨ (v = nI 2 ∧ ((∃ q, q < 256 ∧ x = nI q) ∧ ¬ (0 < pat.length)) ∧ cw' = cw))) 2 12 (zA B) := by
  refine z_ofH (cc := cL_replace) (maxL := 4) (ret := (some .int)) (by decide) rfl (Nat.le_of_ble_eq_true rfl) ?_
  intro p e s m args below meth c C hr htab
  refine z_lv (lv' := [(0, .ref (ad (0))), (1, .int (x)), (2, .ref (ad (45)))]) [0, 1, 2] rfl ?_
  refine z_aload_n C dL_replace_0 2 rfl ?_
  refine z_iconst (v := nI 0) C dL_replace_1 (by decide) ?_
  refine z_aload_n C dL_replace_2 0 rfl ?_
  refine z_iload_n C dL_replace_3 1 rfl ?_
  refine z_xcalli (z_xrunV (As := [.int (x)]) (rest := [.int (nI 0), .ref (ad (45))]) C (c_PT_replace l D cI cR cL B N ad cw hl8 hN hX x) (cwV 1 C.2.2.2.2.1 gL_replace_X3_replace rfl rfl rfl (by decide +kernel) ⟨Nat.le_of_ble_eq_true rfl, Nat.le_of_ble_eq_true rfl⟩) (by omega) hX.1 rfl rfl rfl rfl (Nat.le_of_ble_eq_true rfl) dL_replace_4 ⟨Nat.le_of_ble_eq_true rfl, Nat.le_of_ble_eq_true rfl⟩) (fun E4 hx5 => ?_) (fun r1 cw2 hp3 => ?_)
  · skip
    rcases hx5 with ⟨rfl, hc0⟩ | ⟨rfl, hc1⟩
    · skip
      refine z_catch (E := xIA) (name := xIA) C [] ⟨0, 9, 12, 15⟩ [⟨0, 9, 15, 34⟩] (htab.trans rfl) (fun z9 hz9 => absurd hz9 List.not_mem_nil) (by decide) (by decide) (C.2.2.2.2.1 _ qL_replace_0) (va_Nw.use rfl (C.2.2.2.2.2.2.2.2.2.2.2.2.2 (.castable xIA xIA) (by decide +kernel))) (fun q96 => ?_)
      refine z_astore_n (lv' := [(3, .ref (q96)), (0, .ref (ad (0))), (1, .int (x)), (2, .ref (ad (45)))]) C dL_replace_12 rfl (by decide) rfl ?_
      refine z_iconst (v := nI 1) C dL_replace_13 (by decide) ?_
      exact z_iret C hr dL_replace_14 (Or.inr (Or.inl (⟨rfl, hc0, rfl⟩))) (Nat.le_of_ble_eq_true rfl) (Nat.le_of_ble_eq_true rfl)
    · skip
      refine z_catch (E := xIS) (name := xIS) C [⟨0, 9, 12, 15⟩] ⟨0, 9, 15, 34⟩ [] (htab.trans rfl) (fun z9 hz9 => by rcases List.mem_singleton.mp hz9 with rfl; exact ⟨by decide, _, (C.2.2.2.2.1 _ qL_replace_0), C.2.2.2.2.2.2.2.2.2.2.2.2.1 (xIS, xIA) (by decide +kernel)⟩) (by decide) (by decide) (C.2.2.2.2.1 _ qL_replace_1) (va_Nw.use rfl (C.2.2.2.2.2.2.2.2.2.2.2.2.2 (.castable xIS xIS) (by decide +kernel))) (fun q97 => ?_)
      refine z_astore_n (lv' := [(3, .ref (q97)), (0, .ref (ad (0))), (1, .int (x)), (2, .ref (ad (45)))]) C dL_replace_15 rfl (by decide) rfl ?_
      refine z_iconst (v := nI 2) C dL_replace_16 (by decide) ?_
      exact z_iret C hr dL_replace_17 (Or.inr (Or.inr (⟨rfl, hc1, rfl⟩))) (Nat.le_of_ble_eq_true rfl) (Nat.le_of_ble_eq_true rfl)
  · skip
    have f45 : cw2 45 = cw 45 := by revert hp3; intro h9; repeat (first | exact h9 45 (by omega) | (obtain ⟨_, h9⟩ := h9) )
    have e45' : cw2 45 = .inl (cL, 1, .inr (.inl (of))) := f45.trans e45
    refine z_i2l C dL_replace_7 rfl ?_
    obtain ⟨cw8, ecw8⟩ : ∃ z : Nat → va_E, z = va_up (cw2) (45) (.inl (cL, 1, .inr (.inl (vp_updL (of) 0 ((r1).toInt64))))) := ⟨_, rfl⟩
    refine z_last C 2 rfl dL_replace_8 (45) (by omega) e45' 0 rfl (by omega) (by decide) ?_
    refine z_cw ecw8.symm ?_
    have hw_9 : cw8 (45) = .inl (cL, 1, .inr (.inl (vp_updL (of) 0 ((r1).toInt64)))) := by rw [ecw8, va_up_self]
    refine z_goto (tgt := 18) C dL_replace_9 (by decide) ?_
    refine z_iconst (v := nI 0) C dL_replace_18 (by decide) ?_
    exact z_iret C hr dL_replace_19 (Or.inl ⟨r1, cw2, hp3, rfl, ⟨_, hw_9, rfl⟩, fun j hj => by rw [ecw8, va_up_ne _ _ (by omega)]⟩) (Nat.le_of_ble_eq_true rfl) (Nat.le_of_ble_eq_true rfl)

theorem qL_word_0 : Cond.classLink RL 13 "java/lang/IndexOutOfBoundsException" ∈ wsL_word := by decide +kernel
set_option maxHeartbeats 4000000 in
set_option maxRecDepth 100000 in
theorem c_L_word (l : Launch) (D : va_G) (cI cR cL : ClassId) (B N : Nat) (ad : Nat → Nat) (cw : Nat → va_E) (hl8 : l.stackTraces = false) (hN : 45 < N) {past fut : Nat} {hs : Nat → List Int32} {pat ws dr : List Int32} (hX : zRX cI cR ad cw past fut hs pat ws dr) (x : Int32) {of : Nat → Int64} (e45 : cw (45) = .inl (cL, 1, .inr (.inl (of)))) : Met l yL_word wsL_word ({ frames := 8, cells := 1, slots := 6, locals := 137 } : Room) (va_Pc [.ref (ad (0)), .int (x), .ref (ad (45))] (zI D vwCl (zTy cI cR cL) B N ad cw)) (zQi D vwCl B N ad (fun (v : Int32) (cw' : Nat → va_E) => (∃ v0 cw1, (∃ q, q < ws.length ∧ x = nI q ∧ ws[q]? = some v0 ∧ cw1 = cw) ∧ v = nI 0 ∧ (∃ g9, cw' 45 = .inl (cL, 1, .inr (.inl (g9))) ∧ g9 0 = v0.toInt64) ∧ ∀ j, (j ≠ 45) → cw' j = cw1 j) ∨ (v = nI 1 ∧ (¬ (∃ q, q < ws.length ∧ x = nI q)) ∧ cw' = cw))) 1 6 (zA B) := by
  refine z_ofH (cc := cL_word) (maxL := 4) (ret := (some .int)) (by decide) rfl (Nat.le_of_ble_eq_true rfl) ?_
  intro p e s m args below meth c C hr htab
  refine z_lv (lv' := [(0, .ref (ad (0))), (1, .int (x)), (2, .ref (ad (45)))]) [0, 1, 2] rfl ?_
  refine z_aload_n C dL_word_0 2 rfl ?_
  refine z_iconst (v := nI 0) C dL_word_1 (by decide) ?_
  refine z_aload_n C dL_word_2 0 rfl ?_
  refine z_iload_n C dL_word_3 1 rfl ?_
  refine z_xcalli (z_xrunV (As := [.int (x)]) (rest := [.int (nI 0), .ref (ad (45))]) C (c_PT_word l D cI cR cL B N ad cw hl8 hN hX x) (cwV 1 C.2.2.2.2.1 gL_word_X3_word rfl rfl rfl (by decide +kernel) ⟨Nat.le_of_ble_eq_true rfl, Nat.le_of_ble_eq_true rfl⟩) (by omega) hX.1 rfl rfl rfl rfl (Nat.le_of_ble_eq_true rfl) dL_word_4 ⟨Nat.le_of_ble_eq_true rfl, Nat.le_of_ble_eq_true rfl⟩) (fun E4 hx5 => ?_) (fun r1 cw2 hp3 => ?_)
  · skip
    rcases hx5 with ⟨rfl, hc0⟩
    · skip
      refine z_catch (E := xIO) (name := xIO) C [] ⟨0, 9, 12, 13⟩ [] (htab.trans rfl) (fun z9 hz9 => absurd hz9 List.not_mem_nil) (by decide) (by decide) (C.2.2.2.2.1 _ qL_word_0) (va_Nw.use rfl (C.2.2.2.2.2.2.2.2.2.2.2.2.2 (.castable xIO xIO) (by decide +kernel))) (fun q96 => ?_)
      refine z_astore_n (lv' := [(3, .ref (q96)), (0, .ref (ad (0))), (1, .int (x)), (2, .ref (ad (45)))]) C dL_word_12 rfl (by decide) rfl ?_
      refine z_iconst (v := nI 1) C dL_word_13 (by decide) ?_
      exact z_iret C hr dL_word_14 (Or.inr (⟨rfl, hc0, rfl⟩)) (Nat.le_of_ble_eq_true rfl) (Nat.le_of_ble_eq_true rfl)
  · skip
    have e45' : cw2 45 = .inl (cL, 1, .inr (.inl (of))) := by obtain ⟨_, _, _, _, h9⟩ := hp3; rw [h9]; exact e45
    refine z_i2l C dL_word_7 rfl ?_
    obtain ⟨cw7, ecw7⟩ : ∃ z : Nat → va_E, z = va_up (cw2) (45) (.inl (cL, 1, .inr (.inl (vp_updL (of) 0 ((r1).toInt64))))) := ⟨_, rfl⟩
    refine z_last C 2 rfl dL_word_8 (45) (by omega) e45' 0 rfl (by omega) (by decide) ?_
    refine z_cw ecw7.symm ?_
    have hw_8 : cw7 (45) = .inl (cL, 1, .inr (.inl (vp_updL (of) 0 ((r1).toInt64)))) := by rw [ecw7, va_up_self]
    refine z_goto (tgt := 15) C dL_word_9 (by decide) ?_
    refine z_iconst (v := nI 0) C dL_word_15 (by decide) ?_
    exact z_iret C hr dL_word_16 (Or.inl ⟨r1, cw2, hp3, rfl, ⟨_, hw_8, rfl⟩, fun j hj => by rw [ecw7, va_up_ne _ _ (by omega)]⟩) (Nat.le_of_ble_eq_true rfl) (Nat.le_of_ble_eq_true rfl)

theorem qL_poke_0 : Cond.classLink RL 13 "java/lang/IndexOutOfBoundsException" ∈ wsL_poke := by decide +kernel
set_option maxHeartbeats 4000000 in
set_option maxRecDepth 100000 in
theorem c_L_poke (l : Launch) (D : va_G) (cI cR cL : ClassId) (B N : Nat) (ad : Nat → Nat) (cw : Nat → va_E) (hl8 : l.stackTraces = false) (hN : 45 < N) {past fut : Nat} {hs : Nat → List Int32} {pat ws dr : List Int32} (hX : zRX cI cR ad cw past fut hs pat ws dr) (x : Int32) (y : Int32) {of : Nat → Int64} (e45 : cw (45) = .inl (cL, 1, .inr (.inl (of)))) : Met l yL_poke wsL_poke ({ frames := 8, cells := 1, slots := 6, locals := 139 } : Room) (va_Pc [.ref (ad (0)), .int (x), .int (y), .ref (ad (45))] (zI D vwCl (zTy cI cR cL) B N ad cw)) (zQi D vwCl B N ad (fun (v : Int32) (cw' : Nat → va_E) => (∃ v0 cw1, (∃ q, q < ws.length ∧ x = nI q ∧ ws[q]? = some v0 ∧ zRX cI cR ad cw1 past fut hs pat (ws.set q y) dr ∧ ∀ j, 37 ≤ j → cw1 j = cw j) ∧ v = nI 0 ∧ (∃ g9, cw' 45 = .inl (cL, 1, .inr (.inl (g9))) ∧ g9 0 = v0.toInt64) ∧ ∀ j, (j ≠ 45) → cw' j = cw1 j) ∨ (v = nI 1 ∧ (¬ (∃ q, q < ws.length ∧ x = nI q)) ∧ cw' = cw))) 1 6 (zA B) := by
  refine z_ofH (cc := cL_poke) (maxL := 5) (ret := (some .int)) (by decide) rfl (Nat.le_of_ble_eq_true rfl) ?_
  intro p e s m args below meth c C hr htab
  refine z_lv (lv' := [(0, .ref (ad (0))), (1, .int (x)), (2, .int (y)), (3, .ref (ad (45)))]) [0, 1, 2, 3] rfl ?_
  refine z_aload_n C dL_poke_0 3 rfl ?_
  refine z_iconst (v := nI 0) C dL_poke_1 (by decide) ?_
  refine z_aload_n C dL_poke_2 0 rfl ?_
  refine z_iload_n C dL_poke_3 1 rfl ?_
  refine z_iload_n C dL_poke_4 2 rfl ?_
  refine z_xcalli (z_xrunV (As := [.int (x), .int (y)]) (rest := [.int (nI 0), .ref (ad (45))]) C (c_PT_poke l D cI cR cL B N ad cw hl8 hN hX x y) (cwV 2 C.2.2.2.2.1 gL_poke_X3_poke rfl rfl rfl (by decide +kernel) ⟨Nat.le_of_ble_eq_true rfl, Nat.le_of_ble_eq_true rfl⟩) (by omega) hX.1 rfl rfl rfl rfl (Nat.le_of_ble_eq_true rfl) dL_poke_5 ⟨Nat.le_of_ble_eq_true rfl, Nat.le_of_ble_eq_true rfl⟩) (fun E4 hx5 => ?_) (fun r1 cw2 hp3 => ?_)
  · skip
    rcases hx5 with ⟨rfl, hc0⟩
    · skip
      refine z_catch (E := xIO) (name := xIO) C [] ⟨0, 10, 13, 13⟩ [] (htab.trans rfl) (fun z9 hz9 => absurd hz9 List.not_mem_nil) (by decide) (by decide) (C.2.2.2.2.1 _ qL_poke_0) (va_Nw.use rfl (C.2.2.2.2.2.2.2.2.2.2.2.2.2 (.castable xIO xIO) (by decide +kernel))) (fun q96 => ?_)
      refine z_astore (lv' := [(4, .ref (q96)), (0, .ref (ad (0))), (1, .int (x)), (2, .int (y)), (3, .ref (ad (45)))]) C dL_poke_13 (by decide) rfl ?_
      refine z_iconst (v := nI 1) C dL_poke_15 (by decide) ?_
      exact z_iret C hr dL_poke_16 (Or.inr (⟨rfl, hc0, rfl⟩)) (Nat.le_of_ble_eq_true rfl) (Nat.le_of_ble_eq_true rfl)
  · skip
    have f45 : cw2 45 = cw 45 := by revert hp3; intro h9; repeat (first | exact h9 45 (by omega) | (obtain ⟨_, h9⟩ := h9) )
    have e45' : cw2 45 = .inl (cL, 1, .inr (.inl (of))) := f45.trans e45
    refine z_i2l C dL_poke_8 rfl ?_
    obtain ⟨cw7, ecw7⟩ : ∃ z : Nat → va_E, z = va_up (cw2) (45) (.inl (cL, 1, .inr (.inl (vp_updL (of) 0 ((r1).toInt64))))) := ⟨_, rfl⟩
    refine z_last C 2 rfl dL_poke_9 (45) (by omega) e45' 0 rfl (by omega) (by decide) ?_
    refine z_cw ecw7.symm ?_
    have hw_8 : cw7 (45) = .inl (cL, 1, .inr (.inl (vp_updL (of) 0 ((r1).toInt64)))) := by rw [ecw7, va_up_self]
    refine z_goto (tgt := 17) C dL_poke_10 (by decide) ?_
    refine z_iconst (v := nI 0) C dL_poke_17 (by decide) ?_
    exact z_iret C hr dL_poke_18 (Or.inl ⟨r1, cw2, hp3, rfl, ⟨_, hw_8, rfl⟩, fun j hj => by rw [ecw7, va_up_ne _ _ (by omega)]⟩) (Nat.le_of_ble_eq_true rfl) (Nat.le_of_ble_eq_true rfl)

