theorem qX1_size_0 : ∀ w ∈ wsX10, w ∈ wsX1_size := by decide +kernel
theorem qX1_size_1 : Cond.fieldLink RX1 18 "PieceText$Phrases" "count" "I" ∈ wsX1_size := by decide +kernel
set_option maxHeartbeats 4000000 in
set_option maxRecDepth 100000 in
theorem c_Phr_size (l : Launch) (D : va_G) (cI cR cL : ClassId) (B N : Nat) (ad : Nat → Nat) (cw : Nat → va_E) {n : Nat} (h33 : 33 < N) (eo : cw 31 = .inr (1, [.ref (ad (32)), .ref (ad (33)), .int (nI n)])) : Met l yX1_size wsX1_size ({ frames := 0, cells := 0, slots := 0, locals := 0 } : Room) (va_Pc [.ref (ad (31))] (zI D vwCl (zTy cI cR cL) B N ad cw)) (zQi D vwCl B N ad (fun (v : Int32) (cw' : Nat → va_E) => v = nI n ∧ cw' = cw)) 0 0 (zA B) := by
  refine z_ofW (cc := cX1_size) (maxL := 1) (ret := (some .int)) (by decide) rfl (Nat.le_of_ble_eq_true rfl) ?_
  intro p e s m args below meth c C hr hnm
  refine z_lv (lv' := [(0, .ref (ad (31)))]) [0] rfl ?_
  refine z_aload_n C dX1_size_0 0 rfl ?_
  refine z_get (Cn := RX1) (T := TX1) (NF := 3) (ci := 1) (v := .int (nI n)) C qX1_size_0 rfl 2 (by decide) (C.2.2.2.2.1 _ qX1_size_1) (fun _ h9 => h9) dX1_size_1 (31) (by omega) eo rfl ?_
  exact z_iret C hr dX1_size_4 (⟨rfl, rfl⟩) (Nat.le_of_ble_eq_true rfl) (Nat.le_of_ble_eq_true rfl)

theorem qX1_get_0 : ∀ w ∈ wsX10, w ∈ wsX1_get := by decide +kernel
theorem qX1_get_1 : Cond.fieldLink RX1 9 "PieceText$Phrases" "words" "[I" ∈ wsX1_get := by decide +kernel
set_option maxHeartbeats 4000000 in
set_option maxRecDepth 100000 in
theorem c_Phr_get (l : Launch) (D : va_G) (cI cR cL : ClassId) (B N : Nat) (ad : Nat → Nat) (cw : Nat → va_E) {n : Nat} (h33 : 33 < N) (eo : cw 31 = .inr (1, [.ref (ad (32)), .ref (ad (33)), .int (nI n)])) {wf : Nat → Int32} (ew : cw 32 = .inl (cI, 240, .inl (wf))) {j : Nat} (hj : j < 240) : Met l yX1_get wsX1_get ({ frames := 0, cells := 0, slots := 0, locals := 0 } : Room) (va_Pc [.ref (ad (31)), .int (nI j)] (zI D vwCl (zTy cI cR cL) B N ad cw)) (zQi D vwCl B N ad (fun (v : Int32) (cw' : Nat → va_E) => v = wf j ∧ cw' = cw)) 0 0 (zA B) := by
  refine z_ofW (cc := cX1_get) (maxL := 2) (ret := (some .int)) (by decide) rfl (Nat.le_of_ble_eq_true rfl) ?_
  intro p e s m args below meth c C hr hnm
  refine z_lv (lv' := [(0, .ref (ad (31))), (1, .int (nI j))]) [0, 1] rfl ?_
  refine z_aload_n C dX1_get_0 0 rfl ?_
  refine z_get (Cn := RX1) (T := TX1) (NF := 3) (ci := 1) (v := .ref (ad (32))) C qX1_get_0 rfl 0 (by decide) (C.2.2.2.2.1 _ qX1_get_1) (fun _ h9 => h9) dX1_get_1 (31) (by omega) eo rfl ?_
  refine z_iload_n C dX1_get_4 1 rfl ?_
  refine z_iald C 0 rfl dX1_get_5 (32) (by omega) ew (j) (rfl) (hj) (by decide) ?_
  exact z_iret C hr dX1_get_6 (⟨rfl, rfl⟩) (Nat.le_of_ble_eq_true rfl) (Nat.le_of_ble_eq_true rfl)

theorem qX1_set_0 : ∀ w ∈ wsX10, w ∈ wsX1_set := by decide +kernel
theorem qX1_set_1 : Cond.fieldLink RX1 9 "PieceText$Phrases" "words" "[I" ∈ wsX1_set := by decide +kernel
set_option maxHeartbeats 4000000 in
set_option maxRecDepth 100000 in
theorem c_Phr_set (l : Launch) (D : va_G) (cI cR cL : ClassId) (B N : Nat) (ad : Nat → Nat) (cw : Nat → va_E) {n : Nat} (h33 : 33 < N) (eo : cw 31 = .inr (1, [.ref (ad (32)), .ref (ad (33)), .int (nI n)])) {wf : Nat → Int32} (ew : cw 32 = .inl (cI, 240, .inl (wf))) {j : Nat} (hj : j < 240) (x : Int32) : Met l yX1_set wsX1_set ({ frames := 0, cells := 0, slots := 0, locals := 0 } : Room) (va_Pc [.ref (ad (31)), .int (nI j), .int (x)] (zI D vwCl (zTy cI cR cL) B N ad cw)) (zQv D vwCl B N ad (fun (cw' : Nat → va_E) => cw' = va_up cw 32 (.inl (cI, 240, .inl (upd wf j x))))) 0 0 (zA B) := by
  refine z_ofW (cc := cX1_set) (maxL := 3) (ret := none) (by decide) rfl (Nat.le_of_ble_eq_true rfl) ?_
  intro p e s m args below meth c C hr hnm
  refine z_lv (lv' := [(0, .ref (ad (31))), (1, .int (nI j)), (2, .int (x))]) [0, 1, 2] rfl ?_
  refine z_aload_n C dX1_set_0 0 rfl ?_
  refine z_get (Cn := RX1) (T := TX1) (NF := 3) (ci := 1) (v := .ref (ad (32))) C qX1_set_0 rfl 0 (by decide) (C.2.2.2.2.1 _ qX1_set_1) (fun _ h9 => h9) dX1_set_1 (31) (by omega) eo rfl ?_
  refine z_iload_n C dX1_set_4 1 rfl ?_
  refine z_iload_n C dX1_set_5 2 rfl ?_
  obtain ⟨cw1, ecw1⟩ : ∃ z : Nat → va_E, z = va_up (cw) (32) (.inl (cI, 240, .inl (upd (wf) (j) ((x))))) := ⟨_, rfl⟩
  refine z_iast C 0 rfl dX1_set_6 (32) (by omega) ew (j) (rfl) (hj) (by decide) ?_
  refine z_cw ecw1.symm ?_
  have hw_2 : cw1 (31) = .inr (1, [.ref (ad (32)), .ref (ad (33)), .int (nI n)]) := by rw [ecw1, va_up_ne _ _ (by decide)]; exact eo
  have hw_3 : cw1 (32) = .inl (cI, 240, .inl (upd (wf) (j) ((x)))) := by rw [ecw1, va_up_self]
  exact z_vret C hr dX1_set_7 (ecw1) (Nat.le_of_ble_eq_true rfl) (Nat.le_of_ble_eq_true rfl)

theorem qX1_forget_0 : ∀ w ∈ wsX10, w ∈ wsX1_forget := by decide +kernel
theorem qX1_forget_1 : Cond.fieldLink RX1 18 "PieceText$Phrases" "count" "I" ∈ wsX1_forget := by decide +kernel
set_option maxHeartbeats 4000000 in
set_option maxRecDepth 100000 in
theorem c_Phr_forget (l : Launch) (D : va_G) (cI cR cL : ClassId) (B N : Nat) (ad : Nat → Nat) (cw : Nat → va_E) {n : Nat} (h33 : 33 < N) (eo : cw 31 = .inr (1, [.ref (ad (32)), .ref (ad (33)), .int (nI n)])) : Met l yX1_forget wsX1_forget ({ frames := 0, cells := 0, slots := 0, locals := 0 } : Room) (va_Pc [.ref (ad (31))] (zI D vwCl (zTy cI cR cL) B N ad cw)) (zQv D vwCl B N ad (fun (cw' : Nat → va_E) => cw' = va_up cw 31 (.inr (1, [.ref (ad (32)), .ref (ad (33)), .int (nI 0)])))) 0 0 (zA B) := by
  refine z_ofW (cc := cX1_forget) (maxL := 1) (ret := none) (by decide) rfl (Nat.le_of_ble_eq_true rfl) ?_
  intro p e s m args below meth c C hr hnm
  refine z_lv (lv' := [(0, .ref (ad (31)))]) [0] rfl ?_
  refine z_aload_n C dX1_forget_0 0 rfl ?_
  refine z_iconst (v := nI 0) C dX1_forget_1 (by decide) ?_
  obtain ⟨cw1, ecw1⟩ : ∃ z : Nat → va_E, z = va_up (cw) (31) (.inr (1, [.ref (ad (32)), .ref (ad (33)), .int (nI 0)])) := ⟨_, rfl⟩
  refine z_put (Cn := RX1) (T := TX1) (NF := 3) (ci := 1) (ty := .int) (v := .int (nI 0)) C qX1_forget_0 tyX1_ok nmX1 rfl 2 (by decide) (C.2.2.2.2.1 _ qX1_forget_1) (fun _ h9 => h9) rfl (by decide +kernel) dX1_forget_2 (31) (by omega) eo rfl rfl (Nat.le_of_ble_eq_true rfl) ?_
  refine z_cw ecw1.symm ?_
  have hw_2 : cw1 (31) = .inr (1, [.ref (ad (32)), .ref (ad (33)), .int (nI 0)]) := by rw [ecw1, va_up_self]
  exact z_vret C hr dX1_forget_5 (ecw1) (Nat.le_of_ble_eq_true rfl) (Nat.le_of_ble_eq_true rfl)

theorem qX1_addWord_0 : ∀ w ∈ wsX10, w ∈ wsX1_addWord := by decide +kernel
theorem qX1_addWord_1 : Cond.fieldLink RX1 9 "PieceText$Phrases" "words" "[I" ∈ wsX1_addWord := by decide +kernel
theorem qX1_addWord_2 : Cond.fieldLink RX1 18 "PieceText$Phrases" "count" "I" ∈ wsX1_addWord := by decide +kernel
set_option maxHeartbeats 4000000 in
set_option maxRecDepth 100000 in
theorem c_Phr_addWord (l : Launch) (D : va_G) (cI cR cL : ClassId) (B N : Nat) (ad : Nat → Nat) (cw : Nat → va_E) {n : Nat} (h33 : 33 < N) (eo : cw 31 = .inr (1, [.ref (ad (32)), .ref (ad (33)), .int (nI n)])) {wf : Nat → Int32} (ew : cw 32 = .inl (cI, 240, .inl (wf))) (hn : n < 240) (x : Int32) : Met l yX1_addWord wsX1_addWord ({ frames := 0, cells := 0, slots := 0, locals := 0 } : Room) (va_Pc [.ref (ad (31)), .int (x)] (zI D vwCl (zTy cI cR cL) B N ad cw)) (zQv D vwCl B N ad (fun (cw' : Nat → va_E) => cw' = va_up (va_up cw 32 (.inl (cI, 240, .inl (upd wf n x)))) 31 (.inr (1, [.ref (ad (32)), .ref (ad (33)), .int (nI (n + 1))])))) 0 0 (zA B) := by
  refine z_ofW (cc := cX1_addWord) (maxL := 2) (ret := none) (by decide) rfl (Nat.le_of_ble_eq_true rfl) ?_
  intro p e s m args below meth c C hr hnm
  refine z_lv (lv' := [(0, .ref (ad (31))), (1, .int (x))]) [0, 1] rfl ?_
  refine z_aload_n C dX1_addWord_0 0 rfl ?_
  refine z_get (Cn := RX1) (T := TX1) (NF := 3) (ci := 1) (v := .ref (ad (32))) C qX1_addWord_0 rfl 0 (by decide) (C.2.2.2.2.1 _ qX1_addWord_1) (fun _ h9 => h9) dX1_addWord_1 (31) (by omega) eo rfl ?_
  refine z_aload_n C dX1_addWord_4 0 rfl ?_
  refine z_get (Cn := RX1) (T := TX1) (NF := 3) (ci := 1) (v := .int (nI n)) C qX1_addWord_0 rfl 2 (by decide) (C.2.2.2.2.1 _ qX1_addWord_2) (fun _ h9 => h9) dX1_addWord_5 (31) (by omega) eo rfl ?_
  refine z_iload_n C dX1_addWord_8 1 rfl ?_
  obtain ⟨cw1, ecw1⟩ : ∃ z : Nat → va_E, z = va_up (cw) (32) (.inl (cI, 240, .inl (upd (wf) (n) ((x))))) := ⟨_, rfl⟩
  refine z_iast C 0 rfl dX1_addWord_9 (32) (by omega) ew (n) (rfl) (hn) (by decide) ?_
  refine z_cw ecw1.symm ?_
  have hw_2 : cw1 (31) = .inr (1, [.ref (ad (32)), .ref (ad (33)), .int (nI n)]) := by rw [ecw1, va_up_ne _ _ (by decide)]; exact eo
  have hw_3 : cw1 (32) = .inl (cI, 240, .inl (upd (wf) (n) ((x)))) := by rw [ecw1, va_up_self]
  refine z_aload_n C dX1_addWord_10 0 rfl ?_
  refine z_dup C dX1_addWord_11 rfl ?_
  refine z_get (Cn := RX1) (T := TX1) (NF := 3) (ci := 1) (v := .int (nI n)) C qX1_addWord_0 rfl 2 (by decide) (C.2.2.2.2.1 _ qX1_addWord_2) (fun _ h9 => h9) dX1_addWord_12 (31) (by omega) hw_2 rfl ?_
  refine z_iconst (v := nI 1) C dX1_addWord_15 (by decide) ?_
  refine z_iadd C dX1_addWord_16 ?_
  refine z_top (y := nI (n + 1)) (nI_1 n) ?_
  obtain ⟨cw4, ecw4⟩ : ∃ z : Nat → va_E, z = va_up (cw1) (31) (.inr (1, [.ref (ad (32)), .ref (ad (33)), .int (nI (n + 1))])) := ⟨_, rfl⟩
  refine z_put (Cn := RX1) (T := TX1) (NF := 3) (ci := 1) (ty := .int) (v := .int (nI (n + 1))) C qX1_addWord_0 tyX1_ok nmX1 rfl 2 (by decide) (C.2.2.2.2.1 _ qX1_addWord_2) (fun _ h9 => h9) rfl (by decide +kernel) dX1_addWord_17 (31) (by omega) hw_2 rfl rfl (Nat.le_of_ble_eq_true rfl) ?_
  refine z_cw ecw4.symm ?_
  have hw_5 : cw4 (31) = .inr (1, [.ref (ad (32)), .ref (ad (33)), .int (nI (n + 1))]) := by rw [ecw4, va_up_self]
  have hw_6 : cw4 (32) = .inl (cI, 240, .inl (upd (wf) (n) ((x)))) := by rw [ecw4, va_up_ne _ _ (by decide)]; exact hw_3
  exact z_vret C hr dX1_addWord_20 (by rw [ecw4, ecw1]) (Nat.le_of_ble_eq_true rfl) (Nat.le_of_ble_eq_true rfl)

theorem qX1_numberOf_0 : ∀ w ∈ wsX10, w ∈ wsX1_numberOf := by decide +kernel
theorem qX1_numberOf_1 : Cond.fieldLink RX1 18 "PieceText$Phrases" "count" "I" ∈ wsX1_numberOf := by decide +kernel
theorem qX1_numberOf_2 : Cond.fieldLink RX1 9 "PieceText$Phrases" "words" "[I" ∈ wsX1_numberOf := by decide +kernel
set_option maxHeartbeats 4000000 in
set_option maxRecDepth 100000 in
theorem c_Phr_numberOf (l : Launch) (D : va_G) (cI cR cL : ClassId) (B N : Nat) (ad : Nat → Nat) (cw : Nat → va_E) {n : Nat} (h33 : 33 < N) (eo : cw 31 = .inr (1, [.ref (ad (32)), .ref (ad (33)), .int (nI n)])) {wf : Nat → Int32} (ew : cw 32 = .inl (cI, 240, .inl (wf))) {s0 : Nat} (hs : s0 ≤ n) (hn : n ≤ 240) (x : Int32) : Met l yX1_numberOf wsX1_numberOf ({ frames := 0, cells := 0, slots := 0, locals := 0 } : Room) (va_Pc [.ref (ad (31)), .int (x), .int (nI s0)] (zI D vwCl (zTy cI cR cL) B N ad cw)) (zQi D vwCl B N ad (fun (v : Int32) (cw' : Nat → va_E) => ((∃ i, s0 ≤ i ∧ i < n ∧ wf i = x ∧ (∀ j, s0 ≤ j → j < i → wf j ≠ x) ∧ v = nI (i + 1)) ∨ ((∀ j, s0 ≤ j → j < n → wf j ≠ x) ∧ v = nI 0)) ∧ cw' = cw)) 0 0 (zA B) := by
  refine z_ofW (cc := cX1_numberOf) (maxL := 4) (ret := (some .int)) (by decide) rfl (Nat.le_of_ble_eq_true rfl) ?_
  intro p e s m args below meth c C hr hnm
  refine z_lv (lv' := [(0, .ref (ad (31))), (1, .int (x)), (2, .int (nI s0))]) [0, 1, 2] rfl ?_
  refine z_iload_n C dX1_numberOf_0 2 rfl ?_
  refine z_istore_n (lv' := [(3, .int (nI s0)), (0, .ref (ad (31))), (1, .int (x)), (2, .int (nI s0))]) C dX1_numberOf_1 rfl (by decide) rfl ?_
  suffices loop : ∀ (t i : Nat), n = i + t → s0 ≤ i → (∀ j, s0 ≤ j → j < i → wf j ≠ x) → zG p l e (headSpec wsX1_numberOf ({ frames := 0, cells := 0, slots := 0, locals := 0 } : Room)).room s m args below meth c (MQ below (zQi D vwCl B N ad (fun (v : Int32) (cw' : Nat → va_E) => ((∃ i, s0 ≤ i ∧ i < n ∧ wf i = x ∧ (∀ j, s0 ≤ j → j < i → wf j ≠ x) ∧ v = nI (i + 1)) ∨ ((∀ j, s0 ≤ j → j < n → wf j ≠ x) ∧ v = nI 0)) ∧ cw' = cw)) args s 0 0 (zA B)) D vwCl B 4 N ad cw 0 0 [(3, .int (nI i)), (0, .ref (ad (31))), (1, .int (x)), (2, .int (nI s0))] 2 [] from loop (n - s0) s0 (by omega) (Nat.le_refl _) (fun j h1 h2 => absurd h1 (by omega))
  intro t
  induction t with
  | zero =>
    intro i hi hsi hpre
    refine z_iload_n C dX1_numberOf_2 0 rfl ?_
    refine z_aload_n C dX1_numberOf_3 1 rfl ?_
    refine z_get (Cn := RX1) (T := TX1) (NF := 3) (ci := 1) (v := .int (nI n)) C qX1_numberOf_0 rfl 2 (by decide) (C.2.2.2.2.1 _ qX1_numberOf_1) (fun _ h9 => h9) dX1_numberOf_4 (31) (by omega) eo rfl ?_
    refine z_icmp_ge (tgt := 30) C dX1_numberOf_7 (by decide) (fun c1 => ?_) (fun c1 => ?_)
    · skip
      refine z_iconst (v := nI 0) C dX1_numberOf_30 (by decide) ?_
      exact z_iret C hr dX1_numberOf_31 (⟨Or.inr ⟨fun j h1 h2 => hpre j h1 (by omega), rfl⟩, rfl⟩) (Nat.le_of_ble_eq_true rfl) (Nat.le_of_ble_eq_true rfl)
    · skip
      exact absurd (nI_le (by omega) (by omega)) c1
  | succ t ih =>
    intro i hi hsi hpre
    refine z_iload_n C dX1_numberOf_2 0 rfl ?_
    refine z_aload_n C dX1_numberOf_3 1 rfl ?_
    refine z_get (Cn := RX1) (T := TX1) (NF := 3) (ci := 1) (v := .int (nI n)) C qX1_numberOf_0 rfl 2 (by decide) (C.2.2.2.2.1 _ qX1_numberOf_1) (fun _ h9 => h9) dX1_numberOf_4 (31) (by omega) eo rfl ?_
    refine z_icmp_ge (tgt := 30) C dX1_numberOf_7 (by decide) (fun c2 => ?_) (fun c2 => ?_)
    · skip
      exact absurd ((nI_leI (by omega) (by omega)).mp c2) (by omega)
    · skip
      refine z_aload_n C dX1_numberOf_10 1 rfl ?_
      refine z_get (Cn := RX1) (T := TX1) (NF := 3) (ci := 1) (v := .ref (ad (32))) C qX1_numberOf_0 rfl 0 (by decide) (C.2.2.2.2.1 _ qX1_numberOf_2) (fun _ h9 => h9) dX1_numberOf_11 (31) (by omega) eo rfl ?_
      refine z_iload_n C dX1_numberOf_14 0 rfl ?_
      refine z_iald C 0 rfl dX1_numberOf_15 (32) (by omega) ew (i) (rfl) (by omega) (by decide) ?_
      refine z_iload_n C dX1_numberOf_16 2 rfl ?_
      refine z_icmp_ne (tgt := 24) C dX1_numberOf_17 (by decide) (fun c3 => ?_) (fun c3 => ?_)
      · skip
        refine z_iinc (x := nI (i + 1)) (lv' := [(3, .int (nI (i + 1))), (0, .ref (ad (31))), (1, .int (x)), (2, .int (nI s0))]) C dX1_numberOf_24 0 rfl (nI_1 i) (by decide) rfl ?_
        refine z_goto (tgt := 2) C dX1_numberOf_27 (by decide) ?_
        refine z_lv (lv' := [(3, .int (nI (i + 1))), (0, .ref (ad (31))), (1, .int (x)), (2, .int (nI s0))]) [0, 1, 2, 3] rfl ?_
        exact ih (i + 1) (by omega) (by omega) (fun j h1 h2 => by rcases Nat.lt_succ_iff_lt_or_eq.mp h2 with h | h; exact hpre j h1 h; rw [h]; exact c3)
      · skip
        refine z_iload_n C dX1_numberOf_20 0 rfl ?_
        refine z_iconst (v := nI 1) C dX1_numberOf_21 (by decide) ?_
        refine z_iadd C dX1_numberOf_22 ?_
        refine z_top (y := nI (i + 1)) (nI_1 i) ?_
        exact z_iret C hr dX1_numberOf_23 (⟨Or.inl ⟨i, hsi, by omega, c3, hpre, rfl⟩, rfl⟩) (Nat.le_of_ble_eq_true rfl) (Nat.le_of_ble_eq_true rfl)

def zFine (w : Int32) (j n : Nat) : Prop := 0 ≤ w ∧ w.toNatClampNeg / 257 ≤ j ∧ (w.toNatClampNeg % 257 ≠ 256 ∨ (j + 1 = n ∧ 0 < w.toNatClampNeg / 257))
theorem zFine_of {u j n : Nat} (hu : u < 2 ^ 31) : zFine (nI u) j n ↔ (u / 257 ≤ j ∧ (u % 257 ≠ 256 ∨ (j + 1 = n ∧ 0 < u / 257))) := by
  unfold zFine
  rw [nI_clamp hu]
  exact ⟨fun h => h.2, fun h => ⟨nI_pos' hu, h⟩⟩
theorem zNeg {w : Int32} (h : w < 0) : ¬ 0 ≤ w := by
  intro h2
  rw [Int32.lt_iff_toInt_lt] at h
  rw [Int32.le_iff_toInt_le] at h2
  omega
theorem qX1_isPhrase_0 : ∀ w ∈ wsX10, w ∈ wsX1_isPhrase := by decide +kernel
theorem qX1_isPhrase_1 : Cond.fieldLink RX1 9 "PieceText$Phrases" "words" "[I" ∈ wsX1_isPhrase := by decide +kernel
theorem qX1_isPhrase_2 : Cond.fieldLink RX1 18 "PieceText$Phrases" "count" "I" ∈ wsX1_isPhrase := by decide +kernel
set_option maxHeartbeats 4000000 in
set_option maxRecDepth 100000 in
theorem c_Phr_isPhrase (l : Launch) (D : va_G) (cI cR cL : ClassId) (B N : Nat) (ad : Nat → Nat) (cw : Nat → va_E) {n : Nat} (h33 : 33 < N) (eo : cw 31 = .inr (1, [.ref (ad (32)), .ref (ad (33)), .int (nI n)])) {wf : Nat → Int32} (ew : cw 32 = .inl (cI, 240, .inl (wf))) {j : Nat} (hj : j < n) (hn : n ≤ 240) : Met l yX1_isPhrase wsX1_isPhrase ({ frames := 0, cells := 0, slots := 0, locals := 0 } : Room) (va_Pc [.ref (ad (31)), .int (nI j)] (zI D vwCl (zTy cI cR cL) B N ad cw)) (zQi D vwCl B N ad (fun (v : Int32) (cw' : Nat → va_E) => ((v = nI 1 ∧ zFine (wf j) j n) ∨ (v = nI 0 ∧ ¬ zFine (wf j) j n)) ∧ cw' = cw)) 0 0 (zA B) := by
  refine z_ofW (cc := cX1_isPhrase) (maxL := 3) (ret := (some .boolean)) (by decide) rfl (Nat.le_of_ble_eq_true rfl) ?_
  intro p e s m args below meth c C hr hnm
  refine z_lv (lv' := [(0, .ref (ad (31))), (1, .int (nI j))]) [0, 1] rfl ?_
  refine z_aload_n C dX1_isPhrase_0 0 rfl ?_
  refine z_get (Cn := RX1) (T := TX1) (NF := 3) (ci := 1) (v := .ref (ad (32))) C qX1_isPhrase_0 rfl 0 (by decide) (C.2.2.2.2.1 _ qX1_isPhrase_1) (fun _ h9 => h9) dX1_isPhrase_1 (31) (by omega) eo rfl ?_
  refine z_iload_n C dX1_isPhrase_4 1 rfl ?_
  refine z_iald C 0 rfl dX1_isPhrase_5 (32) (by omega) ew (j) (rfl) (by omega) (by decide) ?_
  refine z_istore_n (lv' := [(2, .int (wf (j))), (0, .ref (ad (31))), (1, .int (nI j))]) C dX1_isPhrase_6 rfl (by decide) rfl ?_
  refine z_iload_n C dX1_isPhrase_7 0 rfl ?_
  refine z_if_lt (tgt := 20) C dX1_isPhrase_8 (by decide) (fun c1 => ?_) (fun c1 => ?_)
  · skip
    refine z_iconst (v := nI 0) C dX1_isPhrase_20 (by decide) ?_
    exact z_zret C hr (by decide) dX1_isPhrase_21 (⟨Or.inr ⟨rfl, fun h => zNeg c1 h.1⟩, rfl⟩) (Nat.le_of_ble_eq_true rfl) (Nat.le_of_ble_eq_true rfl)
  · skip
    obtain ⟨u, hu, hwu⟩ := nI_of c1
    have hq : u / 257 < 2 ^ 31 := by omega
    refine z_iload_n C dX1_isPhrase_11 0 rfl ?_
    refine z_sipush (v := nI 257) C dX1_isPhrase_12 (by decide) ?_
    refine z_idiv C dX1_isPhrase_15 (by decide) ?_
    refine z_top (y := nI (u / 257)) (by rw [hwu]; exact pk_div hu (by omega) (by omega)) ?_
    refine z_iload_n C dX1_isPhrase_16 2 rfl ?_
    refine z_icmp_le (tgt := 22) C dX1_isPhrase_17 (by decide) (fun c2 => ?_) (fun c2 => ?_)
    · skip
      have h1 : u / 257 ≤ j := (nI_leI hq (by omega)).mp c2
      refine z_iload_n C dX1_isPhrase_22 0 rfl ?_
      refine z_sipush (v := nI 257) C dX1_isPhrase_23 (by decide) ?_
      refine z_irem C dX1_isPhrase_26 (by decide) ?_
      refine z_top (y := nI (u % 257)) (by rw [hwu]; exact pk_rem hu (by omega) (by omega)) ?_
      refine z_sipush (v := nI 256) C dX1_isPhrase_27 (by decide) ?_
      refine z_icmp_eq (tgt := 35) C dX1_isPhrase_30 (by decide) (fun c3 => ?_) (fun c3 => ?_)
      · skip
        have h2 : u % 257 = 256 := (nI_eq (by omega) (by omega)).mp c3
        refine z_iload_n C dX1_isPhrase_35 2 rfl ?_
        refine z_aload_n C dX1_isPhrase_36 1 rfl ?_
        refine z_get (Cn := RX1) (T := TX1) (NF := 3) (ci := 1) (v := .int (nI n)) C qX1_isPhrase_0 rfl 2 (by decide) (C.2.2.2.2.1 _ qX1_isPhrase_2) (fun _ h9 => h9) dX1_isPhrase_37 (31) (by omega) eo rfl ?_
        refine z_iconst (v := nI 1) C dX1_isPhrase_40 (by decide) ?_
        refine z_isub C dX1_isPhrase_41 ?_
        refine z_top (y := nI (n - 1)) (pk_sub (b := 1) (by omega)) ?_
        refine z_icmp_ne (tgt := 57) C dX1_isPhrase_42 (by decide) (fun c4 => ?_) (fun c4 => ?_)
        · skip
          refine z_iconst (v := nI 0) C dX1_isPhrase_57 (by decide) ?_
          exact z_zret C hr (by decide) dX1_isPhrase_58 (⟨Or.inr ⟨rfl, fun h => by rw [hwu] at h; have h3 := ((zFine_of hu).mp h).2; have h4 : ¬ j = n - 1 := fun h5 => c4 (by rw [h5]); omega⟩, rfl⟩) (Nat.le_of_ble_eq_true rfl) (Nat.le_of_ble_eq_true rfl)
        · skip
          have h3 : j = n - 1 := (nI_eq (by omega) (by omega)).mp c4
          refine z_iload_n C dX1_isPhrase_45 0 rfl ?_
          refine z_sipush (v := nI 257) C dX1_isPhrase_46 (by decide) ?_
          refine z_idiv C dX1_isPhrase_49 (by decide) ?_
          refine z_top (y := nI (u / 257)) (by rw [hwu]; exact pk_div hu (by omega) (by omega)) ?_
          refine z_if_le (tgt := 57) C dX1_isPhrase_50 (by decide) (fun c5 => ?_) (fun c5 => ?_)
          · skip
            refine z_iconst (v := nI 0) C dX1_isPhrase_57 (by decide) ?_
            exact z_zret C hr (by decide) dX1_isPhrase_58 (⟨Or.inr ⟨rfl, fun h => by rw [hwu] at h; have h4 := ((zFine_of hu).mp h).2; have h5 : ¬ 0 < u / 257 := fun h6 => nI_nle h6 hq c5; omega⟩, rfl⟩) (Nat.le_of_ble_eq_true rfl) (Nat.le_of_ble_eq_true rfl)
          · skip
            refine z_iconst (v := nI 1) C dX1_isPhrase_53 (by decide) ?_
            refine z_goto (tgt := 58) C dX1_isPhrase_54 (by decide) ?_
            exact z_zret C hr (by decide) dX1_isPhrase_58 (⟨Or.inl ⟨rfl, by rw [hwu]; exact (zFine_of hu).mpr ⟨h1, Or.inr ⟨by omega, Nat.pos_of_ne_zero (fun h6 => c5 (by rw [h6]; decide))⟩⟩⟩, rfl⟩) (Nat.le_of_ble_eq_true rfl) (Nat.le_of_ble_eq_true rfl)
      · skip
        refine z_iconst (v := nI 1) C dX1_isPhrase_33 (by decide) ?_
        exact z_zret C hr (by decide) dX1_isPhrase_34 (⟨Or.inl ⟨rfl, by rw [hwu]; exact (zFine_of hu).mpr ⟨h1, Or.inl (fun h => c3 (by rw [h]))⟩⟩, rfl⟩) (Nat.le_of_ble_eq_true rfl) (Nat.le_of_ble_eq_true rfl)
    · skip
      refine z_iconst (v := nI 0) C dX1_isPhrase_20 (by decide) ?_
      exact z_zret C hr (by decide) dX1_isPhrase_21 (⟨Or.inr ⟨rfl, fun h => by rw [hwu] at h; exact c2 (nI_le ((zFine_of hu).mp h).1 (by omega))⟩, rfl⟩) (Nat.le_of_ble_eq_true rfl) (Nat.le_of_ble_eq_true rfl)

def zLen (sv : Nat → Nat) (u : Nat) : Nat := (if u / 257 = 0 then 0 else sv (u / 257) - sv (u / 257 - 1)) + (if u % 257 = 256 then 0 else 1)
theorem qX1_lengthOf_0 : ∀ w ∈ wsX10, w ∈ wsX1_lengthOf := by decide +kernel
theorem qX1_lengthOf_1 : Cond.fieldLink RX1 15 "PieceText$Phrases" "starts" "[I" ∈ wsX1_lengthOf := by decide +kernel
set_option maxHeartbeats 4000000 in
set_option maxRecDepth 100000 in
theorem c_Phr_lengthOf (l : Launch) (D : va_G) (cI cR cL : ClassId) (B N : Nat) (ad : Nat → Nat) (cw : Nat → va_E) {n : Nat} (h33 : 33 < N) (eo : cw 31 = .inr (1, [.ref (ad (32)), .ref (ad (33)), .int (nI n)])) {sf : Nat → Int32} (es : cw 33 = .inl (cI, 241, .inl (sf))) {sv : Nat → Nat} {u : Nat} (hu : u < 2 ^ 31) (hk : u / 257 ≤ 240) (hsv : ∀ i, i ≤ u / 257 → sf i = nI (sv i) ∧ sv i ≤ 240) (hmo : sv (u / 257 - 1) ≤ sv (u / 257)) : Met l yX1_lengthOf wsX1_lengthOf ({ frames := 0, cells := 0, slots := 0, locals := 0 } : Room) (va_Pc [.ref (ad (31)), .int (nI u)] (zI D vwCl (zTy cI cR cL) B N ad cw)) (zQi D vwCl B N ad (fun (v : Int32) (cw' : Nat → va_E) => v = nI (zLen sv u) ∧ cw' = cw)) 0 0 (zA B) := by
  refine z_ofW (cc := cX1_lengthOf) (maxL := 4) (ret := (some .int)) (by decide) rfl (Nat.le_of_ble_eq_true rfl) ?_
  intro p e s m args below meth c C hr hnm
  refine z_lv (lv' := [(0, .ref (ad (31))), (1, .int (nI u))]) [0, 1] rfl ?_
  refine z_iload_n C dX1_lengthOf_0 1 rfl ?_
  refine z_sipush (v := nI 257) C dX1_lengthOf_1 (by decide) ?_
  refine z_idiv C dX1_lengthOf_4 (by decide) ?_
  refine z_top (y := nI (u / 257)) (pk_div hu (by omega) (by omega)) ?_
  refine z_istore_n (lv' := [(2, .int (nI (u / 257))), (0, .ref (ad (31))), (1, .int (nI u))]) C dX1_lengthOf_5 rfl (by decide) rfl ?_
  refine z_iload_n C dX1_lengthOf_6 0 rfl ?_
  refine z_if_ne (tgt := 14) C dX1_lengthOf_7 (by decide) (fun c1 => ?_) (fun c1 => ?_)
  · skip
    have h0 : ¬ u / 257 = 0 := fun h => c1 (by rw [h]; decide)
    have e1 := hsv (u / 257) (Nat.le_refl _)
    have e2 := hsv (u / 257 - 1) (Nat.sub_le _ _)
    refine z_aload_n C dX1_lengthOf_14 1 rfl ?_
    refine z_get (Cn := RX1) (T := TX1) (NF := 3) (ci := 1) (v := .ref (ad (33))) C qX1_lengthOf_0 rfl 1 (by decide) (C.2.2.2.2.1 _ qX1_lengthOf_1) (fun _ h9 => h9) dX1_lengthOf_15 (31) (by omega) eo rfl ?_
    refine z_iload_n C dX1_lengthOf_18 0 rfl ?_
    refine z_iald C 0 rfl dX1_lengthOf_19 (33) h33 es (u / 257) (rfl) (by omega) (by decide) ?_
    refine z_top (y := nI (sv (u / 257))) (e1.1) ?_
    refine z_aload_n C dX1_lengthOf_20 1 rfl ?_
    refine z_get (Cn := RX1) (T := TX1) (NF := 3) (ci := 1) (v := .ref (ad (33))) C qX1_lengthOf_0 rfl 1 (by decide) (C.2.2.2.2.1 _ qX1_lengthOf_1) (fun _ h9 => h9) dX1_lengthOf_21 (31) (by omega) eo rfl ?_
    refine z_iload_n C dX1_lengthOf_24 0 rfl ?_
    refine z_iconst (v := nI 1) C dX1_lengthOf_25 (by decide) ?_
    refine z_isub C dX1_lengthOf_26 ?_
    refine z_top (y := nI (u / 257 - 1)) (pk_sub (b := 1) (by omega)) ?_
    refine z_iald C 0 rfl dX1_lengthOf_27 (33) h33 es (u / 257 - 1) (rfl) (by omega) (by decide) ?_
    refine z_top (y := nI (sv (u / 257 - 1))) (e2.1) ?_
    refine z_isub C dX1_lengthOf_28 ?_
    refine z_top (y := nI (sv (u / 257) - sv (u / 257 - 1))) (pk_sub hmo) ?_
    refine z_istore_n (lv' := [(3, .int (nI (sv (u / 257) - sv (u / 257 - 1)))), (2, .int (nI (u / 257))), (0, .ref (ad (31))), (1, .int (nI u))]) C dX1_lengthOf_29 rfl (by decide) rfl ?_
    refine z_iload_n C dX1_lengthOf_30 3 rfl ?_
    refine z_sipush (v := nI 257) C dX1_lengthOf_31 (by decide) ?_
    refine z_irem C dX1_lengthOf_34 (by decide) ?_
    refine z_top (y := nI (u % 257)) (pk_rem hu (by omega) (by omega)) ?_
    refine z_sipush (v := nI 256) C dX1_lengthOf_35 (by decide) ?_
    refine z_icmp_ne (tgt := 45) C dX1_lengthOf_38 (by decide) (fun c2 => ?_) (fun c2 => ?_)
    · skip
      refine z_iload_n C dX1_lengthOf_45 0 rfl ?_
      refine z_iconst (v := nI 1) C dX1_lengthOf_46 (by decide) ?_
      refine z_iadd C dX1_lengthOf_47 ?_
      refine z_top (y := nI (zLen sv u)) (by rw [nI_add]; unfold zLen; rw [if_neg h0, if_neg (fun h => c2 (by rw [h]))]) ?_
      exact z_iret C hr dX1_lengthOf_48 (⟨rfl, rfl⟩) (Nat.le_of_ble_eq_true rfl) (Nat.le_of_ble_eq_true rfl)
    · skip
      have h2 : u % 257 = 256 := (nI_eq (by omega) (by omega)).mp c2
      refine z_iload_n C dX1_lengthOf_41 0 rfl ?_
      refine z_goto (tgt := 48) C dX1_lengthOf_42 (by decide) ?_
      refine z_top (y := nI (zLen sv u)) (by unfold zLen; rw [if_neg h0, if_pos h2, Nat.add_zero]) ?_
      exact z_iret C hr dX1_lengthOf_48 (⟨rfl, rfl⟩) (Nat.le_of_ble_eq_true rfl) (Nat.le_of_ble_eq_true rfl)
  · skip
    have h0 : u / 257 = 0 := (nI_eq (by omega) (by omega)).mp c1
    refine z_iconst (v := nI 0) C dX1_lengthOf_10 (by decide) ?_
    refine z_goto (tgt := 29) C dX1_lengthOf_11 (by decide) ?_
    refine z_istore_n (lv' := [(3, .int (nI 0)), (2, .int (nI (u / 257))), (0, .ref (ad (31))), (1, .int (nI u))]) C dX1_lengthOf_29 rfl (by decide) rfl ?_
    refine z_iload_n C dX1_lengthOf_30 3 rfl ?_
    refine z_sipush (v := nI 257) C dX1_lengthOf_31 (by decide) ?_
    refine z_irem C dX1_lengthOf_34 (by decide) ?_
    refine z_top (y := nI (u % 257)) (pk_rem hu (by omega) (by omega)) ?_
    refine z_sipush (v := nI 256) C dX1_lengthOf_35 (by decide) ?_
    refine z_icmp_ne (tgt := 45) C dX1_lengthOf_38 (by decide) (fun c3 => ?_) (fun c3 => ?_)
    · skip
      refine z_iload_n C dX1_lengthOf_45 0 rfl ?_
      refine z_iconst (v := nI 1) C dX1_lengthOf_46 (by decide) ?_
      refine z_iadd C dX1_lengthOf_47 ?_
      refine z_top (y := nI (zLen sv u)) (by rw [nI_add]; unfold zLen; rw [if_pos h0, if_neg (fun h => c3 (by rw [h]))]) ?_
      exact z_iret C hr dX1_lengthOf_48 (⟨rfl, rfl⟩) (Nat.le_of_ble_eq_true rfl) (Nat.le_of_ble_eq_true rfl)
    · skip
      have h2 : u % 257 = 256 := (nI_eq (by omega) (by omega)).mp c3
      refine z_iload_n C dX1_lengthOf_41 0 rfl ?_
      refine z_goto (tgt := 48) C dX1_lengthOf_42 (by decide) ?_
      refine z_top (y := nI (zLen sv u)) (by unfold zLen; rw [if_pos h0, if_pos h2, Nat.add_zero]) ?_
      exact z_iret C hr dX1_lengthOf_48 (⟨rfl, rfl⟩) (Nat.le_of_ble_eq_true rfl) (Nat.le_of_ble_eq_true rfl)

def zPut (f : Nat → Int32) (q : Nat) (sv : Nat → Nat) (u : Nat) (f' : Nat → Int32) : Prop :=
  (∀ i, i < q → f' i = f i) ∧ (0 < u / 257 → ∀ i, i < sv (u / 257) - sv (u / 257 - 1) → f' (q + i) = f (sv (u / 257 - 1) + i)) ∧
  (u % 257 ≠ 256 → f' (q + (zLen sv u - 1)) = nI (u % 257))
theorem qX1_addPhrase_0 : ∀ w ∈ wsX10, w ∈ wsX1_addPhrase := by decide +kernel
theorem qX1_addPhrase_1 : Cond.fieldLink RX1 15 "PieceText$Phrases" "starts" "[I" ∈ wsX1_addPhrase := by decide +kernel
set_option maxHeartbeats 4000000 in
set_option maxRecDepth 100000 in
theorem c_Phr_addPhrase (l : Launch) (D : va_G) (cI cR cL : ClassId) (B N : Nat) (ad : Nat → Nat) (cw : Nat → va_E) {n : Nat} (h33 : 33 < N) (eo : cw 31 = .inr (1, [.ref (ad (32)), .ref (ad (33)), .int (nI n)])) {sf : Nat → Int32} (es : cw 33 = .inl (cI, 241, .inl (sf))) {sv : Nat → Nat} {u : Nat} (hu : u < 2 ^ 31) (hk : u / 257 ≤ 240) (hsv : ∀ i, i ≤ u / 257 → sf i = nI (sv i) ∧ sv i ≤ 240) (hmo : sv (u / 257 - 1) ≤ sv (u / 257)) {q : Nat} {f : Nat → Int32} (h35 : 35 < N) (ed : cw 34 = .inr (2, [.ref (ad (35)), .int (nI q)])) (eda : cw 35 = .inl (cI, 240, .inl (f))) (hq : q + zLen sv u ≤ 240) (hst : sv (u / 257) ≤ q) : Met l yX1_addPhrase wsX1_addPhrase ({ frames := 2, cells := 0, slots := 0, locals := 83 } : Room) (va_Pc [.ref (ad (31)), .int (nI u), .ref (ad (34))] (zI D vwCl (zTy cI cR cL) B N ad cw)) (zQv D vwCl B N ad (fun (cw' : Nat → va_E) => cw' 34 = .inr (2, [.ref (ad (35)), .int (nI (q + zLen sv u))]) ∧ (∃ f', cw' 35 = .inl (cI, 240, .inl (f')) ∧ zPut f q sv u f') ∧ ∀ j, (j ≠ 34 ∧ j ≠ 35) → cw' j = cw j)) 0 0 (zA B) := by
  refine z_ofW (cc := cX1_addPhrase) (maxL := 4) (ret := none) (by decide) rfl (Nat.le_of_ble_eq_true rfl) ?_
  intro p e s m args below meth c C hr hnm
  refine z_lv (lv' := [(0, .ref (ad (31))), (1, .int (nI u)), (2, .ref (ad (34)))]) [0, 1, 2] rfl ?_
  have hz : zLen sv u = (if u / 257 = 0 then 0 else sv (u / 257) - sv (u / 257 - 1)) + (if u % 257 = 256 then 0 else 1) := rfl
  refine z_iload_n C dX1_addPhrase_0 1 rfl ?_
  refine z_sipush (v := nI 257) C dX1_addPhrase_1 (by decide) ?_
  refine z_idiv C dX1_addPhrase_4 (by decide) ?_
  refine z_top (y := nI (u / 257)) (pk_div hu (by omega) (by omega)) ?_
  refine z_istore_n (lv' := [(3, .int (nI (u / 257))), (0, .ref (ad (31))), (1, .int (nI u)), (2, .ref (ad (34)))]) C dX1_addPhrase_5 rfl (by decide) rfl ?_
  refine z_iload_n C dX1_addPhrase_6 0 rfl ?_
  refine z_if_le (tgt := 29) C dX1_addPhrase_7 (by decide) (fun c1 => ?_) (fun c1 => ?_)
  · skip
    have h0 : u / 257 = 0 := by rcases Nat.eq_zero_or_pos (u / 257) with h | h; exact h; exact absurd c1 (nI_nle h (by omega))
    rw [if_pos h0] at hz
    refine z_iload_n C dX1_addPhrase_29 2 rfl ?_
    refine z_sipush (v := nI 257) C dX1_addPhrase_30 (by decide) ?_
    refine z_irem C dX1_addPhrase_33 (by decide) ?_
    refine z_top (y := nI (u % 257)) (pk_rem hu (by omega) (by omega)) ?_
    refine z_sipush (v := nI 256) C dX1_addPhrase_34 (by decide) ?_
    refine z_icmp_eq (tgt := 49) C dX1_addPhrase_37 (by decide) (fun c2 => ?_) (fun c2 => ?_)
    · skip
      have h2 : u % 257 = 256 := (nI_eq (by omega) (by omega)).mp c2
      rw [if_pos h2] at hz
      exact z_vret C hr dX1_addPhrase_49 (⟨by rw [ed, hz]; rfl, ⟨_, eda, ⟨fun i _ => rfl, fun h => absurd h0 (by omega), fun h => absurd h2 h⟩⟩, fun j _ => rfl⟩) (Nat.le_of_ble_eq_true rfl) (Nat.le_of_ble_eq_true rfl)
    · skip
      have h2 : ¬ u % 257 = 256 := fun h => c2 (by rw [h])
      rw [if_neg h2] at hz
      refine z_aload_n C dX1_addPhrase_40 3 rfl ?_
      refine z_iload_n C dX1_addPhrase_41 2 rfl ?_
      refine z_sipush (v := nI 257) C dX1_addPhrase_42 (by decide) ?_
      refine z_irem C dX1_addPhrase_45 (by decide) ?_
      refine z_top (y := nI (u % 257)) (pk_rem hu (by omega) (by omega)) ?_
      refine z_callv (z_runV (As := [.int (nI (u % 257))]) (rest := []) C (c_Row_add l D cI cR cL B N ad cw (by omega) ed (by decide) h35 eda (by decide) (by omega) (nI (u % 257))) (cwV 1 C.2.2.2.2.1 gX1_addPhrase_X2_add rfl rfl rfl (by decide +kernel) ⟨Nat.le_of_ble_eq_true rfl, Nat.le_of_ble_eq_true rfl⟩) (by omega) ed rfl rfl rfl rfl (Nat.le_of_ble_eq_true rfl) dX1_addPhrase_46 ⟨Nat.le_of_ble_eq_true rfl, Nat.le_of_ble_eq_true rfl⟩) (fun cw3 hp4 => ?_)
      have hw_5 : cw3 (31) = .inr (1, [.ref (ad (32)), .ref (ad (33)), .int (nI n)]) := by rw [hp4, va_up_ne _ _ (by decide), va_up_ne _ _ (by decide)]; exact eo
      have hw_6 : cw3 (33) = .inl (cI, 241, .inl (sf)) := by rw [hp4, va_up_ne _ _ (by decide), va_up_ne _ _ (by decide)]; exact es
      have hw_7 : cw3 (34) = .inr (2, [.ref (ad (35)), .int (nI (q + 1))]) := by rw [hp4, va_up_self]
      have hw_8 : cw3 (35) = .inl (cI, 240, .inl (upd (f) (q) (nI (u % 257)))) := by rw [hp4, va_up_ne _ _ (by decide), va_up_self]
      exact z_vret C hr dX1_addPhrase_49 (⟨by rw [hw_7, hz], ⟨_, hw_8, ⟨fun i hi => pk_un (by omega), fun h => absurd h0 (by omega), fun _ => by rw [show zLen sv u - 1 = 0 by omega]; exact pk_us⟩⟩, fun j hj => by rw [hp4, va_up_ne _ _ (by omega), va_up_ne _ _ (by omega)]⟩) (Nat.le_of_ble_eq_true rfl) (Nat.le_of_ble_eq_true rfl)
  · skip
    have h0 : 0 < u / 257 := Nat.pos_of_ne_zero (fun h => c1 (by rw [h]; decide))
    rw [if_neg (by omega)] at hz
    have e1 := hsv (u / 257) (Nat.le_refl _)
    have e2 := hsv (u / 257 - 1) (Nat.sub_le _ _)
    refine z_aload_n C dX1_addPhrase_10 3 rfl ?_
    refine z_aload_n C dX1_addPhrase_11 3 rfl ?_
    refine z_aload_n C dX1_addPhrase_12 1 rfl ?_
    refine z_get (Cn := RX1) (T := TX1) (NF := 3) (ci := 1) (v := .ref (ad (33))) C qX1_addPhrase_0 rfl 1 (by decide) (C.2.2.2.2.1 _ qX1_addPhrase_1) (fun _ h9 => h9) dX1_addPhrase_13 (31) (by omega) eo rfl ?_
    refine z_iload_n C dX1_addPhrase_16 0 rfl ?_
    refine z_iconst (v := nI 1) C dX1_addPhrase_17 (by decide) ?_
    refine z_isub C dX1_addPhrase_18 ?_
    refine z_top (y := nI (u / 257 - 1)) (pk_sub (b := 1) (by omega)) ?_
    refine z_iald C 0 rfl dX1_addPhrase_19 (33) h33 es (u / 257 - 1) (rfl) (by omega) (by decide) ?_
    refine z_top (y := nI (sv (u / 257 - 1))) (e2.1) ?_
    refine z_aload_n C dX1_addPhrase_20 1 rfl ?_
    refine z_get (Cn := RX1) (T := TX1) (NF := 3) (ci := 1) (v := .ref (ad (33))) C qX1_addPhrase_0 rfl 1 (by decide) (C.2.2.2.2.1 _ qX1_addPhrase_1) (fun _ h9 => h9) dX1_addPhrase_21 (31) (by omega) eo rfl ?_
    refine z_iload_n C dX1_addPhrase_24 0 rfl ?_
    refine z_iald C 0 rfl dX1_addPhrase_25 (33) h33 es (u / 257) (rfl) (by omega) (by decide) ?_
    refine z_top (y := nI (sv (u / 257))) (e1.1) ?_
    refine z_callv (z_runV (As := [.ref (ad (34)), .int (nI (sv (u / 257 - 1))), .int (nI (sv (u / 257)))]) (rest := []) C (c_Row_addSelf l D cI cR cL B N ad cw (by omega) ed (by decide) h35 eda (by decide) (b := sv (u / 257 - 1)) (k := sv (u / 257)) (hmo) (by omega) (by split at hz <;> omega)) (cwV 3 C.2.2.2.2.1 gX1_addPhrase_X2_addPart rfl rfl rfl (by decide +kernel) ⟨Nat.le_of_ble_eq_true rfl, Nat.le_of_ble_eq_true rfl⟩) (by omega) ed rfl rfl rfl rfl (Nat.le_of_ble_eq_true rfl) dX1_addPhrase_26 ⟨Nat.le_of_ble_eq_true rfl, Nat.le_of_ble_eq_true rfl⟩) (fun cw9 hp10 => ?_)
    have hw_11 : cw9 (31) = .inr (1, [.ref (ad (32)), .ref (ad (33)), .int (nI n)]) := by rw [hp10, va_up_ne _ _ (by decide), va_up_ne _ _ (by decide)]; exact eo
    have hw_12 : cw9 (33) = .inl (cI, 241, .inl (sf)) := by rw [hp10, va_up_ne _ _ (by decide), va_up_ne _ _ (by decide)]; exact es
    have hw_13 : cw9 (34) = .inr (2, [.ref (ad (35)), .int (nI (q + ((sv (u / 257)) - (sv (u / 257 - 1)))))]) := by rw [hp10, va_up_self]
    have hw_14 : cw9 (35) = .inl (cI, 240, .inl (va_cpy (f) (f) (sv (u / 257 - 1)) (q) ((sv (u / 257)) - (sv (u / 257 - 1))))) := by rw [hp10, va_up_ne _ _ (by decide), va_up_self]
    refine z_iload_n C dX1_addPhrase_29 2 rfl ?_
    refine z_sipush (v := nI 257) C dX1_addPhrase_30 (by decide) ?_
    refine z_irem C dX1_addPhrase_33 (by decide) ?_
    refine z_top (y := nI (u % 257)) (pk_rem hu (by omega) (by omega)) ?_
    refine z_sipush (v := nI 256) C dX1_addPhrase_34 (by decide) ?_
    refine z_icmp_eq (tgt := 49) C dX1_addPhrase_37 (by decide) (fun c15 => ?_) (fun c15 => ?_)
    · skip
      have h2 : u % 257 = 256 := (nI_eq (by omega) (by omega)).mp c15
      rw [if_pos h2] at hz
      exact z_vret C hr dX1_addPhrase_49 (⟨by rw [hw_13, hz]; rfl, ⟨_, hw_14, ⟨fun i hi => pk_cpy_out (Or.inl hi), fun _ i hi => by rw [pk_cpy_in (by omega) (by omega)]; congr 1; omega, fun h => absurd h2 h⟩⟩, fun j hj => by rw [hp10, va_up_ne _ _ (by omega), va_up_ne _ _ (by omega)]⟩) (Nat.le_of_ble_eq_true rfl) (Nat.le_of_ble_eq_true rfl)
    · skip
      have h2 : ¬ u % 257 = 256 := fun h => c15 (by rw [h])
      rw [if_neg h2] at hz
      refine z_aload_n C dX1_addPhrase_40 3 rfl ?_
      refine z_iload_n C dX1_addPhrase_41 2 rfl ?_
      refine z_sipush (v := nI 257) C dX1_addPhrase_42 (by decide) ?_
      refine z_irem C dX1_addPhrase_45 (by decide) ?_
      refine z_top (y := nI (u % 257)) (pk_rem hu (by omega) (by omega)) ?_
      refine z_callv (z_runV (As := [.int (nI (u % 257))]) (rest := []) C (c_Row_add l D cI cR cL B N ad cw9 (by omega) hw_13 (by decide) h35 hw_14 (by decide) (by omega) (nI (u % 257))) (cwV 1 C.2.2.2.2.1 gX1_addPhrase_X2_add rfl rfl rfl (by decide +kernel) ⟨Nat.le_of_ble_eq_true rfl, Nat.le_of_ble_eq_true rfl⟩) (by omega) hw_13 rfl rfl rfl rfl (Nat.le_of_ble_eq_true rfl) dX1_addPhrase_46 ⟨Nat.le_of_ble_eq_true rfl, Nat.le_of_ble_eq_true rfl⟩) (fun cw16 hp17 => ?_)
      have hw_18 : cw16 (31) = .inr (1, [.ref (ad (32)), .ref (ad (33)), .int (nI n)]) := by rw [hp17, va_up_ne _ _ (by decide), va_up_ne _ _ (by decide)]; exact hw_11
      have hw_19 : cw16 (33) = .inl (cI, 241, .inl (sf)) := by rw [hp17, va_up_ne _ _ (by decide), va_up_ne _ _ (by decide)]; exact hw_12
      have hw_20 : cw16 (34) = .inr (2, [.ref (ad (35)), .int (nI (q + ((sv (u / 257)) - (sv (u / 257 - 1))) + 1))]) := by rw [hp17, va_up_self]
      have hw_21 : cw16 (35) = .inl (cI, 240, .inl (upd (va_cpy (f) (f) (sv (u / 257 - 1)) (q) ((sv (u / 257)) - (sv (u / 257 - 1)))) (q + ((sv (u / 257)) - (sv (u / 257 - 1)))) (nI (u % 257)))) := by rw [hp17, va_up_ne _ _ (by decide), va_up_self]
      exact z_vret C hr dX1_addPhrase_49 (⟨by rw [hw_20, hz]; rfl, ⟨_, hw_21, ⟨fun i hi => (pk_un (by omega)).trans (pk_cpy_out (Or.inl hi)), fun _ i hi => by rw [pk_un (by omega), pk_cpy_in (by omega) (by omega)]; congr 1; omega, fun _ => by rw [show q + (zLen sv u - 1) = q + (sv (u / 257) - sv (u / 257 - 1)) by omega]; exact pk_us⟩⟩, fun j hj => by rw [hp17, va_up_ne _ _ (by omega), va_up_ne _ _ (by omega)]; rw [hp10, va_up_ne _ _ (by omega), va_up_ne _ _ (by omega)]⟩) (Nat.le_of_ble_eq_true rfl) (Nat.le_of_ble_eq_true rfl)

