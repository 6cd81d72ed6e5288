theorem dif_iff {f : Nat → Int32} {xs : List Int32} (h : zIs f xs) {i : Nat} (hi : i < xs.length) : xs.getD i 0 ∈ xs.take i ↔ ∃ a, a < i ∧ f a = f i := by
  rw [zIs_getD h hi, List.mem_iff_getElem?]
  constructor
  · intro ⟨a, ha⟩
    rw [List.getElem?_take] at ha
    by_cases h1 : a < i
    · rw [if_pos h1, h a (by omega)] at ha
      exact ⟨a, h1, Option.some.inj ha⟩
    · rw [if_neg h1] at ha
      exact absurd ha (by simp)
  · intro ⟨a, h1, h2⟩
    refine ⟨a, ?_⟩
    rw [List.getElem?_take, if_pos h1, h a (by omega), h2]
theorem qX4_told_0 : ∀ w ∈ wsX40, w ∈ wsX4_told := by decide +kernel
theorem qX4_told_1 : Cond.fieldLink RX4 31 "PieceTextModel" "thrown" "I" ∈ wsX4_told := by decide +kernel
theorem qX4_told_2 : Cond.fieldLink RX4 35 "PieceTextModel" "past" "I" ∈ wsX4_told := by decide +kernel
theorem qX4_told_3 : Cond.fieldLink RX4 45 "PieceTextModel" "future" "I" ∈ wsX4_told := by decide +kernel
theorem qX4_told_4 : Cond.fieldLink RX4 69 "PieceTextModel" "patternSize" "I" ∈ wsX4_told := by decide +kernel
theorem qX4_told_5 : Cond.fieldLink RX4 76 "PieceTextModel" "wordCount" "I" ∈ wsX4_told := by decide +kernel
set_option maxHeartbeats 4000000 in
set_option maxRecDepth 100000 in
theorem c_M_told (l : Launch) (D : va_G) (cI cR cL : ClassId) (B N : Nat) (ad : Nat → Nat) (cw : Nat → va_E) (hN : 45 < N) {past fut : Nat} {hs : Nat → List Int32} {pat ws : List Int32} {th dn : Int32} (hM : zRM cI ad cw past fut hs pat ws th dn) (x : Int32) : Met l yX4_told wsX4_told ({ frames := 1, cells := 0, slots := 0, locals := 21 } : Room) (va_Pc [.ref (ad (37)), .int (x)] (zI D vwCl (zTy cI cR cL) B N ad cw)) (zQi D vwCl B N ad (fun (v : Int32) (cw' : Nat → va_E) => v = sTold x past fut hs pat ws ∧ zRM cI ad cw' past fut hs pat ws (nI 0) dn ∧ ∀ j, (j < 37 ∨ 45 ≤ j) → cw' j = cw j)) 0 0 (zA B) := by
  obtain ⟨m1, ⟨m2, tf, lf, m3, m4, m5⟩, ⟨df, m6⟩, ⟨m7, pf, m8, m9⟩, ⟨m10, wf, m11, m12⟩, ⟨bf, m13⟩, zf, m14⟩ := id hM
  obtain ⟨k1, k2, k3⟩ := m5 past (by omega)
  refine z_ofW (cc := cX4_told) (maxL := 6) (ret := (some .int)) (by decide) rfl (Nat.le_of_ble_eq_true rfl) ?_
  intro p e s m args below meth c C hr hnm
  refine z_lv (lv' := [(0, .ref (ad (37))), (1, .int (x))]) [0, 1] rfl ?_
  refine z_aload_n C dX4_told_0 0 rfl ?_
  refine z_iconst (v := nI 0) C dX4_told_1 (by decide) ?_
  obtain ⟨cw1, ecw1⟩ : ∃ z : Nat → va_E, z = va_up (cw) (37) (.inr (4, [.int (nI 0), .ref (ad (38)), .ref (ad (39)), .int (nI (past)), .int (nI (fut)), .ref (ad (40)), .int (dn), .ref (ad (41)), .int (nI (pat.length)), .ref (ad (42)), .int (nI (ws.length)), .ref (ad (43)), .ref (ad (44))])) := ⟨_, rfl⟩
  refine z_put (Cn := RX4) (T := TX4) (NF := 13) (ci := 4) (ty := .int) (v := .int (nI 0)) C qX4_told_0 tyX4_ok nmX4 rfl 0 (by decide) (C.2.2.2.2.1 _ qX4_told_1) (fun _ h9 => h9) rfl (by decide +kernel) dX4_told_2 (37) (by omega) m1 rfl rfl (Nat.le_of_ble_eq_true rfl) ?_
  refine z_cw ecw1.symm ?_
  have hw_2 : cw1 (37) = .inr (4, [.int (nI 0), .ref (ad (38)), .ref (ad (39)), .int (nI (past)), .int (nI (fut)), .ref (ad (40)), .int (dn), .ref (ad (41)), .int (nI (pat.length)), .ref (ad (42)), .int (nI (ws.length)), .ref (ad (43)), .ref (ad (44))]) := by rw [ecw1, va_up_self]
  have hw_3 : cw1 (38) = .inl (cI, 3120, .inl (tf)) := by rw [ecw1, va_up_ne _ _ (by decide)]; exact m3
  have hw_4 : cw1 (39) = .inl (cI, 13, .inl (lf)) := by rw [ecw1, va_up_ne _ _ (by decide)]; exact m4
  refine z_iload_n C dX4_told_5 1 rfl ?_
  refine z_iconst (v := nI 5) C dX4_told_6 (by decide) ?_
  have hM2 := zRM_obj hM hw_2 (fun j hj => by rw [ecw1, va_up_ne _ _ (by omega)])
  refine z_icmp_ne (tgt := 87) C dX4_told_7 (by decide) (fun c5 => ?_) (fun c5 => ?_)
  · skip
    have x5 : ¬ x = nI 5 := c5
    refine z_iload_n C dX4_told_87 1 rfl ?_
    refine z_if_ne (tgt := 98) C dX4_told_88 (by decide) (fun c6 => ?_) (fun c6 => ?_)
    rotate_left
    · skip
      have xe : x = nI 0 := c6
      refine z_aload_n C dX4_told_91 0 rfl ?_
      refine z_calli (z_runV (As := []) (rest := []) C (c_M_length l D cI cR cL B N ad cw1 hN hw_2 hw_4 (by omega) (k2)) (cwV 0 C.2.2.2.2.1 gX4_told_X4_length rfl rfl rfl (by decide +kernel) ⟨Nat.le_of_ble_eq_true rfl, Nat.le_of_ble_eq_true rfl⟩) (by omega) hw_2 rfl rfl rfl rfl (Nat.le_of_ble_eq_true rfl) dX4_told_92 ⟨Nat.le_of_ble_eq_true rfl, Nat.le_of_ble_eq_true rfl⟩) (fun r7 cw8 hp9 => ?_)
      refine z_cw hp9.2 ?_
      refine z_top hp9.1 ?_
      refine z_goto (tgt := 147) C dX4_told_95 (by decide) ?_
      exact z_iret C hr dX4_told_147 (⟨by unfold sTold; rw [if_pos xe], hM2, fun j hj => ((fun j hj => by rw [ecw1, va_up_ne _ _ (by omega)]) : ∀ j, (j ≠ 37) → _ = cw j) j (by omega)⟩) (Nat.le_of_ble_eq_true rfl) (Nat.le_of_ble_eq_true rfl)
    have x0 : ¬ x = nI 0 := c6
    refine z_iload_n C dX4_told_98 1 rfl ?_
    refine z_iconst (v := nI 1) C dX4_told_99 (by decide) ?_
    refine z_icmp_ne (tgt := 110) C dX4_told_100 (by decide) (fun c10 => ?_) (fun c10 => ?_)
    rotate_left
    · skip
      have xe : x = nI 1 := c10
      refine z_aload_n C dX4_told_103 0 rfl ?_
      refine z_get (Cn := RX4) (T := TX4) (NF := 13) (ci := 4) (v := .int (nI (past))) C qX4_told_0 rfl 3 (by decide) (C.2.2.2.2.1 _ qX4_told_2) (fun _ h9 => h9) dX4_told_104 (37) (by omega) hw_2 rfl ?_
      refine z_goto (tgt := 147) C dX4_told_107 (by decide) ?_
      exact z_iret C hr dX4_told_147 (⟨by unfold sTold; rw [if_neg x0, if_pos xe], hM2, fun j hj => ((fun j hj => by rw [ecw1, va_up_ne _ _ (by omega)]) : ∀ j, (j ≠ 37) → _ = cw j) j (by omega)⟩) (Nat.le_of_ble_eq_true rfl) (Nat.le_of_ble_eq_true rfl)
    have x1 : ¬ x = nI 1 := c10
    refine z_iload_n C dX4_told_110 1 rfl ?_
    refine z_iconst (v := nI 2) C dX4_told_111 (by decide) ?_
    refine z_icmp_ne (tgt := 122) C dX4_told_112 (by decide) (fun c11 => ?_) (fun c11 => ?_)
    rotate_left
    · skip
      have xe : x = nI 2 := c11
      refine z_aload_n C dX4_told_115 0 rfl ?_
      refine z_get (Cn := RX4) (T := TX4) (NF := 13) (ci := 4) (v := .int (nI (fut))) C qX4_told_0 rfl 4 (by decide) (C.2.2.2.2.1 _ qX4_told_3) (fun _ h9 => h9) dX4_told_116 (37) (by omega) hw_2 rfl ?_
      refine z_goto (tgt := 147) C dX4_told_119 (by decide) ?_
      exact z_iret C hr dX4_told_147 (⟨by unfold sTold; rw [if_neg x0, if_neg x1, if_pos xe], hM2, fun j hj => ((fun j hj => by rw [ecw1, va_up_ne _ _ (by omega)]) : ∀ j, (j ≠ 37) → _ = cw j) j (by omega)⟩) (Nat.le_of_ble_eq_true rfl) (Nat.le_of_ble_eq_true rfl)
    have x2 : ¬ x = nI 2 := c11
    refine z_iload_n C dX4_told_122 1 rfl ?_
    refine z_iconst (v := nI 3) C dX4_told_123 (by decide) ?_
    refine z_icmp_ne (tgt := 134) C dX4_told_124 (by decide) (fun c12 => ?_) (fun c12 => ?_)
    rotate_left
    · skip
      have xe : x = nI 3 := c12
      refine z_aload_n C dX4_told_127 0 rfl ?_
      refine z_get (Cn := RX4) (T := TX4) (NF := 13) (ci := 4) (v := .int (nI (pat.length))) C qX4_told_0 rfl 8 (by decide) (C.2.2.2.2.1 _ qX4_told_4) (fun _ h9 => h9) dX4_told_128 (37) (by omega) hw_2 rfl ?_
      refine z_goto (tgt := 147) C dX4_told_131 (by decide) ?_
      exact z_iret C hr dX4_told_147 (⟨by unfold sTold; rw [if_neg x0, if_neg x1, if_neg x2, if_pos xe], hM2, fun j hj => ((fun j hj => by rw [ecw1, va_up_ne _ _ (by omega)]) : ∀ j, (j ≠ 37) → _ = cw j) j (by omega)⟩) (Nat.le_of_ble_eq_true rfl) (Nat.le_of_ble_eq_true rfl)
    have x3 : ¬ x = nI 3 := c12
    refine z_iload_n C dX4_told_134 1 rfl ?_
    refine z_iconst (v := nI 4) C dX4_told_135 (by decide) ?_
    refine z_icmp_ne (tgt := 146) C dX4_told_136 (by decide) (fun c13 => ?_) (fun c13 => ?_)
    rotate_left
    · skip
      have xe : x = nI 4 := c13
      refine z_aload_n C dX4_told_139 0 rfl ?_
      refine z_get (Cn := RX4) (T := TX4) (NF := 13) (ci := 4) (v := .int (nI (ws.length))) C qX4_told_0 rfl 10 (by decide) (C.2.2.2.2.1 _ qX4_told_5) (fun _ h9 => h9) dX4_told_140 (37) (by omega) hw_2 rfl ?_
      refine z_goto (tgt := 147) C dX4_told_143 (by decide) ?_
      exact z_iret C hr dX4_told_147 (⟨by unfold sTold; rw [if_neg x0, if_neg x1, if_neg x2, if_neg x3, if_pos xe], hM2, fun j hj => ((fun j hj => by rw [ecw1, va_up_ne _ _ (by omega)]) : ∀ j, (j ≠ 37) → _ = cw j) j (by omega)⟩) (Nat.le_of_ble_eq_true rfl) (Nat.le_of_ble_eq_true rfl)
    have x4 : ¬ x = nI 4 := c13
    refine z_iconst (v := -1) C dX4_told_146 (by decide) ?_
    exact z_iret C hr dX4_told_147 (⟨by unfold sTold; rw [if_neg x0, if_neg x1, if_neg x2, if_neg x3, if_neg x4, if_neg x5], hM2, fun j hj => ((fun j hj => by rw [ecw1, va_up_ne _ _ (by omega)]) : ∀ j, (j ≠ 37) → _ = cw j) j (by omega)⟩) (Nat.le_of_ble_eq_true rfl) (Nat.le_of_ble_eq_true rfl)
  · skip
    have xe : x = nI 5 := c5
    refine z_iconst (v := nI 0) C dX4_told_10 (by decide) ?_
    refine z_istore_n (lv' := [(2, .int (nI 0)), (0, .ref (ad (37))), (1, .int (x))]) C dX4_told_11 rfl (by decide) rfl ?_
    refine z_iconst (v := nI 0) C dX4_told_12 (by decide) ?_
    refine z_istore_n (lv' := [(3, .int (nI 0)), (2, .int (nI 0)), (0, .ref (ad (37))), (1, .int (x))]) C dX4_told_13 rfl (by decide) rfl ?_
    refine z_lv (lv' := [(3, .int (nI 0)), (2, .int (nI 0)), (0, .ref (ad (37))), (1, .int (x))]) [0, 1, 2, 3] rfl ?_
    suffices loop : ∀ (mm i : Nat), (hs past).length = i + mm → zG p l e (headSpec wsX4_told ({ frames := 1, cells := 0, slots := 0, locals := 21 } : Room)).room s m args below meth c (MQ below (zQi D vwCl B N ad (fun (v : Int32) (cw' : Nat → va_E) => v = sTold x past fut hs pat ws ∧ zRM cI ad cw' past fut hs pat ws (nI 0) dn ∧ ∀ j, (j < 37 ∨ 45 ≤ j) → cw' j = cw j)) args s 0 0 (zA B)) D vwCl B 6 N ad cw1 0 0 [(3, .int (nI i)), (2, .int (nI (dif (hs past) i))), (0, .ref (ad (37))), (1, .int (x))] 14 [] from loop (hs past).length 0 (by omega)
    intro mm
    induction mm with
    | zero =>
      intro i hi
      refine z_iload_n C dX4_told_14 0 rfl ?_
      refine z_aload_n C dX4_told_15 2 rfl ?_
      refine z_calli (z_runV (As := []) (rest := [.int (nI i)]) C (c_M_length l D cI cR cL B N ad cw1 hN hw_2 hw_4 (by omega) (k2)) (cwV 0 C.2.2.2.2.1 gX4_told_X4_length rfl rfl rfl (by decide +kernel) ⟨Nat.le_of_ble_eq_true rfl, Nat.le_of_ble_eq_true rfl⟩) (by omega) hw_2 rfl rfl rfl rfl (Nat.le_of_ble_eq_true rfl) dX4_told_16 ⟨Nat.le_of_ble_eq_true rfl, Nat.le_of_ble_eq_true rfl⟩) (fun r14 cw15 hp16 => ?_)
      refine z_cw hp16.2 ?_
      refine z_top hp16.1 ?_
      refine z_icmp_ge (tgt := 85) C dX4_told_19 (by decide) (fun c17 => ?_) (fun c17 => ?_)
      · skip
        refine z_iload_n C dX4_told_85 1 rfl ?_
        exact z_iret C hr dX4_told_86 (⟨by unfold sTold; rw [xe, if_neg (by decide), if_neg (by decide), if_neg (by decide), if_neg (by decide), if_neg (by decide), if_pos rfl, show (hs past).length = i by omega], hM2, fun j hj => ((fun j hj => by rw [ecw1, va_up_ne _ _ (by omega)]) : ∀ j, (j ≠ 37) → _ = cw j) j (by omega)⟩) (Nat.le_of_ble_eq_true rfl) (Nat.le_of_ble_eq_true rfl)
      · skip
        exact absurd (nI_le (by omega) (by omega)) c17
    | succ mm ih =>
      intro i hi
      refine z_iload_n C dX4_told_14 0 rfl ?_
      refine z_aload_n C dX4_told_15 2 rfl ?_
      refine z_calli (z_runV (As := []) (rest := [.int (nI i)]) C (c_M_length l D cI cR cL B N ad cw1 hN hw_2 hw_4 (by omega) (k2)) (cwV 0 C.2.2.2.2.1 gX4_told_X4_length rfl rfl rfl (by decide +kernel) ⟨Nat.le_of_ble_eq_true rfl, Nat.le_of_ble_eq_true rfl⟩) (by omega) hw_2 rfl rfl rfl rfl (Nat.le_of_ble_eq_true rfl) dX4_told_16 ⟨Nat.le_of_ble_eq_true rfl, Nat.le_of_ble_eq_true rfl⟩) (fun r18 cw19 hp20 => ?_)
      refine z_cw hp20.2 ?_
      refine z_top hp20.1 ?_
      refine z_icmp_ge (tgt := 85) C dX4_told_19 (by decide) (fun c21 => ?_) (fun c21 => ?_)
      · skip
        exact absurd ((nI_leI (by omega) (by omega)).mp c21) (by omega)
      · skip
        have hdi := dif_iff k3 (show i < (hs past).length by omega)
        refine z_iconst (v := nI 1) C dX4_told_22 (by decide) ?_
        refine z_istore (lv' := [(4, .int (nI 1)), (3, .int (nI i)), (2, .int (nI (dif (hs past) i))), (0, .ref (ad (37))), (1, .int (x))]) C dX4_told_23 (by decide) rfl ?_
        refine z_iconst (v := nI 0) C dX4_told_25 (by decide) ?_
        refine z_istore (lv' := [(5, .int (nI 0)), (4, .int (nI 1)), (3, .int (nI i)), (2, .int (nI (dif (hs past) i))), (0, .ref (ad (37))), (1, .int (x))]) C dX4_told_26 (by decide) rfl ?_
        refine z_lv (lv' := [(5, .int (nI 0)), (4, .int (nI 1)), (3, .int (nI i)), (2, .int (nI (dif (hs past) i))), (0, .ref (ad (37))), (1, .int (x))]) [0, 1, 2, 3, 4, 5] rfl ?_
        suffices inner : ∀ (nn u fi : Nat), i = u + nn → ((fi = 1 ∧ ∀ a, a < u → tf (240 * past + a) ≠ tf (240 * past + i)) ∨ (fi = 0 ∧ ∃ a, a < u ∧ tf (240 * past + a) = tf (240 * past + i))) → zG p l e (headSpec wsX4_told ({ frames := 1, cells := 0, slots := 0, locals := 21 } : Room)).room s m args below meth c (MQ below (zQi D vwCl B N ad (fun (v : Int32) (cw' : Nat → va_E) => v = sTold x past fut hs pat ws ∧ zRM cI ad cw' past fut hs pat ws (nI 0) dn ∧ ∀ j, (j < 37 ∨ 45 ≤ j) → cw' j = cw j)) args s 0 0 (zA B)) D vwCl B 6 N ad cw1 0 0 [(5, .int (nI u)), (4, .int (nI fi)), (3, .int (nI i)), (2, .int (nI (dif (hs past) i))), (0, .ref (ad (37))), (1, .int (x))] 28 [] from inner i 0 1 (by omega) (Or.inl ⟨rfl, fun a ha => absurd ha (by omega)⟩)
        intro nn
        induction nn with
        | zero =>
          intro u fi hu hfi
          refine z_iload C dX4_told_28 0 rfl ?_
          refine z_iload_n C dX4_told_30 2 rfl ?_
          refine z_icmp_ge (tgt := 66) C dX4_told_31 (by decide) (fun c22 => ?_) (fun c22 => ?_)
          · skip
            have eu : u = i := by omega
            rcases hfi with ⟨rfl, hfi⟩ | ⟨rfl, hfi⟩
            · skip
              have hd1 : dif (hs past) (i + 1) = dif (hs past) i + 1 := by rw [dif, if_neg (fun h9 => by obtain ⟨a, h1, h2⟩ := hdi.mp h9; exact hfi a (by omega) h2)]
              refine z_iload C dX4_told_66 1 rfl ?_
              refine z_if_eq (tgt := 77) C dX4_told_68 (by decide) (fun c23 => absurd c23 (by decide)) (fun c23 => ?_)
              refine z_iload_n C dX4_told_71 3 rfl ?_
              refine z_iconst (v := nI 1) C dX4_told_72 (by decide) ?_
              refine z_iadd C dX4_told_73 ?_
              refine z_top (y := nI (dif (hs past) (i + 1))) (by rw [hd1]; exact nI_1 _) ?_
              refine z_goto (tgt := 78) C dX4_told_74 (by decide) ?_
              refine z_istore_n (lv' := [(2, .int (nI (dif (hs past) (i + 1)))), (5, .int (nI u)), (4, .int (nI 1)), (3, .int (nI i)), (0, .ref (ad (37))), (1, .int (x))]) C dX4_told_78 rfl (by decide) rfl ?_
              refine z_iinc (x := nI (i + 1)) (lv' := [(3, .int (nI (i + 1))), (2, .int (nI (dif (hs past) (i + 1)))), (5, .int (nI u)), (4, .int (nI 1)), (0, .ref (ad (37))), (1, .int (x))]) C dX4_told_79 3 rfl (nI_1 i) (by decide) rfl ?_
              refine z_goto (tgt := 14) C dX4_told_82 (by decide) ?_
              have ihx := ih (i + 1) (by omega)
              refine z_lv (lv' := [(3, .int (nI (i + 1))), (2, .int (nI (dif (hs past) (i + 1)))), (0, .ref (ad (37))), (1, .int (x))]) [0, 1, 4, 5] rfl ?_
              exact ihx
            · skip
              have hd1 : dif (hs past) (i + 1) = dif (hs past) i := by rw [dif, if_pos (hdi.mpr (by obtain ⟨a, h1, h2⟩ := hfi; exact ⟨a, by omega, h2⟩))]; rfl
              refine z_iload C dX4_told_66 1 rfl ?_
              refine z_if_eq (tgt := 77) C dX4_told_68 (by decide) (fun c24 => ?_) (fun c24 => (c24 (by decide)).elim)
              refine z_iload_n C dX4_told_77 3 rfl ?_
              refine z_istore_n (lv' := [(2, .int (nI (dif (hs past) i))), (5, .int (nI u)), (4, .int (nI 0)), (3, .int (nI i)), (0, .ref (ad (37))), (1, .int (x))]) C dX4_told_78 rfl (by decide) rfl ?_
              refine z_iinc (x := nI (i + 1)) (lv' := [(3, .int (nI (i + 1))), (2, .int (nI (dif (hs past) i))), (5, .int (nI u)), (4, .int (nI 0)), (0, .ref (ad (37))), (1, .int (x))]) C dX4_told_79 3 rfl (nI_1 i) (by decide) rfl ?_
              refine z_goto (tgt := 14) C dX4_told_82 (by decide) ?_
              have ihx := ih (i + 1) (by omega)
              rw [hd1] at ihx
              refine z_lv (lv' := [(3, .int (nI (i + 1))), (2, .int (nI (dif (hs past) i))), (0, .ref (ad (37))), (1, .int (x))]) [0, 1, 4, 5] rfl ?_
              exact ihx
          · skip
            exact absurd (nI_le (by omega) (by omega)) c22
        | succ nn jh =>
          intro u fi hu hfi
          refine z_iload C dX4_told_28 0 rfl ?_
          refine z_iload_n C dX4_told_30 2 rfl ?_
          refine z_icmp_ge (tgt := 66) C dX4_told_31 (by decide) (fun c25 => ?_) (fun c25 => ?_)
          · skip
            exact absurd ((nI_leI (by omega) (by omega)).mp c25) (by omega)
          · skip
            rcases hfi with ⟨rfl, hfi⟩ | ⟨rfl, hfi⟩
            · skip
              refine z_iload C dX4_told_34 1 rfl ?_
              refine z_if_eq (tgt := 57) C dX4_told_36 (by decide) (fun c26 => absurd c26 (by decide)) (fun c26 => ?_)
              refine z_aload_n C dX4_told_39 4 rfl ?_
              refine z_iload C dX4_told_40 0 rfl ?_
              refine z_calli (z_runV (As := [.int (nI (u))]) (rest := []) C (c_M_charAt l D cI cR cL B N ad cw1 hN hw_2 hw_3 (i := u) (by omega)) (cwV 1 C.2.2.2.2.1 gX4_told_X4_charAt rfl rfl rfl (by decide +kernel) ⟨Nat.le_of_ble_eq_true rfl, Nat.le_of_ble_eq_true rfl⟩) (by omega) hw_2 rfl rfl rfl rfl (Nat.le_of_ble_eq_true rfl) dX4_told_42 ⟨Nat.le_of_ble_eq_true rfl, Nat.le_of_ble_eq_true rfl⟩) (fun r27 cw28 hp29 => ?_)
              refine z_cw hp29.2 ?_
              refine z_top hp29.1 ?_
              refine z_aload_n C dX4_told_45 4 rfl ?_
              refine z_iload_n C dX4_told_46 2 rfl ?_
              refine z_calli (z_runV (As := [.int (nI (i))]) (rest := [.int (tf (240 * past + u))]) C (c_M_charAt l D cI cR cL B N ad cw1 hN hw_2 hw_3 (i := i) (by omega)) (cwV 1 C.2.2.2.2.1 gX4_told_X4_charAt rfl rfl rfl (by decide +kernel) ⟨Nat.le_of_ble_eq_true rfl, Nat.le_of_ble_eq_true rfl⟩) (by omega) hw_2 rfl rfl rfl rfl (Nat.le_of_ble_eq_true rfl) dX4_told_47 ⟨Nat.le_of_ble_eq_true rfl, Nat.le_of_ble_eq_true rfl⟩) (fun r30 cw31 hp32 => ?_)
              refine z_cw hp32.2 ?_
              refine z_top hp32.1 ?_
              refine z_icmp_eq (tgt := 57) C dX4_told_50 (by decide) (fun c33 => ?_) (fun c33 => ?_)
              · skip
                refine z_iconst (v := nI 0) C dX4_told_57 (by decide) ?_
                refine z_istore (lv' := [(4, .int (nI 0)), (5, .int (nI u)), (3, .int (nI i)), (2, .int (nI (dif (hs past) i))), (0, .ref (ad (37))), (1, .int (x))]) C dX4_told_58 (by decide) rfl ?_
                refine z_iinc (x := nI (u + 1)) (lv' := [(5, .int (nI (u + 1))), (4, .int (nI 0)), (3, .int (nI i)), (2, .int (nI (dif (hs past) i))), (0, .ref (ad (37))), (1, .int (x))]) C dX4_told_60 1 rfl (nI_1 u) (by decide) rfl ?_
                refine z_goto (tgt := 28) C dX4_told_63 (by decide) ?_
                refine z_lv (lv' := [(5, .int (nI (u + 1))), (4, .int (nI 0)), (3, .int (nI i)), (2, .int (nI (dif (hs past) i))), (0, .ref (ad (37))), (1, .int (x))]) [0, 1, 2, 3, 4, 5] rfl ?_
                exact jh (u + 1) 0 (by omega) (Or.inr ⟨rfl, u, by omega, c33⟩)
              · skip
                refine z_iconst (v := nI 1) C dX4_told_53 (by decide) ?_
                refine z_goto (tgt := 58) C dX4_told_54 (by decide) ?_
                refine z_istore (lv' := [(4, .int (nI 1)), (5, .int (nI u)), (3, .int (nI i)), (2, .int (nI (dif (hs past) i))), (0, .ref (ad (37))), (1, .int (x))]) C dX4_told_58 (by decide) rfl ?_
                refine z_iinc (x := nI (u + 1)) (lv' := [(5, .int (nI (u + 1))), (4, .int (nI 1)), (3, .int (nI i)), (2, .int (nI (dif (hs past) i))), (0, .ref (ad (37))), (1, .int (x))]) C dX4_told_60 1 rfl (nI_1 u) (by decide) rfl ?_
                refine z_goto (tgt := 28) C dX4_told_63 (by decide) ?_
                refine z_lv (lv' := [(5, .int (nI (u + 1))), (4, .int (nI 1)), (3, .int (nI i)), (2, .int (nI (dif (hs past) i))), (0, .ref (ad (37))), (1, .int (x))]) [0, 1, 2, 3, 4, 5] rfl ?_
                exact jh (u + 1) 1 (by omega) (Or.inl ⟨rfl, fun a ha => by by_cases h9 : a = u; rw [h9]; exact c33; exact hfi a (by omega)⟩)
            · skip
              refine z_iload C dX4_told_34 1 rfl ?_
              refine z_if_eq (tgt := 57) C dX4_told_36 (by decide) (fun c34 => ?_) (fun c34 => (c34 (by decide)).elim)
              refine z_iconst (v := nI 0) C dX4_told_57 (by decide) ?_
              refine z_istore (lv' := [(4, .int (nI 0)), (5, .int (nI u)), (3, .int (nI i)), (2, .int (nI (dif (hs past) i))), (0, .ref (ad (37))), (1, .int (x))]) C dX4_told_58 (by decide) rfl ?_
              refine z_iinc (x := nI (u + 1)) (lv' := [(5, .int (nI (u + 1))), (4, .int (nI 0)), (3, .int (nI i)), (2, .int (nI (dif (hs past) i))), (0, .ref (ad (37))), (1, .int (x))]) C dX4_told_60 1 rfl (nI_1 u) (by decide) rfl ?_
              refine z_goto (tgt := 28) C dX4_told_63 (by decide) ?_
              refine z_lv (lv' := [(5, .int (nI (u + 1))), (4, .int (nI 0)), (3, .int (nI i)), (2, .int (nI (dif (hs past) i))), (0, .ref (ad (37))), (1, .int (x))]) [0, 1, 2, 3, 4, 5] rfl ?_
              exact jh (u + 1) 0 (by omega) (Or.inr ⟨rfl, by obtain ⟨a, h1, h2⟩ := hfi; exact ⟨a, by omega, h2⟩⟩)

