abbrev zTy (cI cR cL : ClassId) : List (ClassId × FieldType) := [(cI, .int), (cR, .object RX2), (cL, .long)]
theorem qX2_size_0 : ∀ w ∈ wsX20, w ∈ wsX2_size := by decide +kernel
theorem qX2_size_1 : Cond.fieldLink RX2 13 "PieceText$Row" "length" "I" ∈ wsX2_size := by decide +kernel
set_option maxHeartbeats 4000000 in
set_option maxRecDepth 100000 in
theorem c_Row_size (l : Launch) (D : va_G) (cI cR cL : ClassId) (B N : Nat) (ad : Nat → Nat) (cw : Nat → va_E) {r a : Nat} {len : Int32} (hr9 : r < N) (er : cw r = .inr (2, [.ref (ad (a)), .int (len)])) : Met l yX2_size wsX2_size ({ frames := 0, cells := 0, slots := 0, locals := 0 } : Room) (va_Pc [.ref (ad (r))] (zI D vwCl (zTy cI cR cL) B N ad cw)) (zQi D vwCl B N ad (fun (v : Int32) (cw' : Nat → va_E) => v = len ∧ cw' = cw)) 0 0 (zA B) := by
  refine z_ofW (cc := cX2_size) (maxL := 1) (ret := (some .int)) (by decide) rfl (Nat.le_of_ble_eq_true rfl) ?_
  intro p e s m args below meth c C hr hnm
  refine z_lv (lv' := [(0, .ref (ad (r)))]) [0] rfl ?_
  refine z_aload_n C dX2_size_0 0 rfl ?_
  refine z_get (Cn := RX2) (T := TX2) (NF := 2) (ci := 2) (v := .int (len)) C qX2_size_0 rfl 1 (by decide) (C.2.2.2.2.1 _ qX2_size_1) (fun _ h9 => h9) dX2_size_1 (r) hr9 er rfl ?_
  exact z_iret C hr dX2_size_4 (⟨rfl, rfl⟩) (Nat.le_of_ble_eq_true rfl) (Nat.le_of_ble_eq_true rfl)

theorem qX2_get_0 : ∀ w ∈ wsX20, w ∈ wsX2_get := by decide +kernel
theorem qX2_get_1 : Cond.fieldLink RX2 7 "PieceText$Row" "characters" "[I" ∈ wsX2_get := by decide +kernel
set_option maxHeartbeats 4000000 in
set_option maxRecDepth 100000 in
theorem c_Row_get (l : Launch) (D : va_G) (cI cR cL : ClassId) (B N : Nat) (ad : Nat → Nat) (cw : Nat → va_E) {r a : Nat} {len : Int32} (hr9 : r < N) (er : cw r = .inr (2, [.ref (ad (a)), .int (len)])) {lim : Nat} {f : Nat → Int32} (hl9 : lim < 2 ^ 31) (ha9 : a < N) (ea : cw a = .inl (cI, lim, .inl (f))) {j : Nat} (hj : j < lim) : Met l yX2_get wsX2_get ({ frames := 0, cells := 0, slots := 0, locals := 0 } : Room) (va_Pc [.ref (ad (r)), .int (nI j)] (zI D vwCl (zTy cI cR cL) B N ad cw)) (zQi D vwCl B N ad (fun (v : Int32) (cw' : Nat → va_E) => v = f j ∧ cw' = cw)) 0 0 (zA B) := by
  refine z_ofW (cc := cX2_get) (maxL := 2) (ret := (some .int)) (by decide) rfl (Nat.le_of_ble_eq_true rfl) ?_
  intro p e s m args below meth c C hr hnm
  refine z_lv (lv' := [(0, .ref (ad (r))), (1, .int (nI j))]) [0, 1] rfl ?_
  refine z_aload_n C dX2_get_0 0 rfl ?_
  refine z_get (Cn := RX2) (T := TX2) (NF := 2) (ci := 2) (v := .ref (ad (a))) C qX2_get_0 rfl 0 (by decide) (C.2.2.2.2.1 _ qX2_get_1) (fun _ h9 => h9) dX2_get_1 (r) hr9 er rfl ?_
  refine z_iload_n C dX2_get_4 1 rfl ?_
  refine z_iald C 0 rfl dX2_get_5 (a) ha9 ea (j) (rfl) (hj) hl9 ?_
  exact z_iret C hr dX2_get_6 (⟨rfl, rfl⟩) (Nat.le_of_ble_eq_true rfl) (Nat.le_of_ble_eq_true rfl)

theorem qX2_empty_0 : ∀ w ∈ wsX20, w ∈ wsX2_empty := by decide +kernel
theorem qX2_empty_1 : Cond.fieldLink RX2 13 "PieceText$Row" "length" "I" ∈ wsX2_empty := by decide +kernel
set_option maxHeartbeats 4000000 in
set_option maxRecDepth 100000 in
theorem c_Row_empty (l : Launch) (D : va_G) (cI cR cL : ClassId) (B N : Nat) (ad : Nat → Nat) (cw : Nat → va_E) {r a : Nat} {len : Int32} (hr9 : r < N) (er : cw r = .inr (2, [.ref (ad (a)), .int (len)])) : Met l yX2_empty wsX2_empty ({ frames := 0, cells := 0, slots := 0, locals := 0 } : Room) (va_Pc [.ref (ad (r))] (zI D vwCl (zTy cI cR cL) B N ad cw)) (zQv D vwCl B N ad (fun (cw' : Nat → va_E) => cw' = va_up cw r (.inr (2, [.ref (ad (a)), .int (nI 0)])))) 0 0 (zA B) := by
  refine z_ofW (cc := cX2_empty) (maxL := 1) (ret := none) (by decide) rfl (Nat.le_of_ble_eq_true rfl) ?_
  intro p e s m args below meth c C hr hnm
  refine z_lv (lv' := [(0, .ref (ad (r)))]) [0] rfl ?_
  refine z_aload_n C dX2_empty_0 0 rfl ?_
  refine z_iconst (v := nI 0) C dX2_empty_1 (by decide) ?_
  obtain ⟨cw1, ecw1⟩ : ∃ z : Nat → va_E, z = va_up (cw) (r) (.inr (2, [.ref (ad (a)), .int (nI 0)])) := ⟨_, rfl⟩
  refine z_put (Cn := RX2) (T := TX2) (NF := 2) (ci := 2) (ty := .int) (v := .int (nI 0)) C qX2_empty_0 tyX2_ok nmX2 rfl 1 (by decide) (C.2.2.2.2.1 _ qX2_empty_1) (fun _ h9 => h9) rfl (by decide +kernel) dX2_empty_2 (r) hr9 er rfl rfl (Nat.le_of_ble_eq_true rfl) ?_
  refine z_cw ecw1.symm ?_
  have hw_2 : cw1 (r) = .inr (2, [.ref (ad (a)), .int (nI 0)]) := by rw [ecw1, va_up_self]
  exact z_vret C hr dX2_empty_5 (ecw1) (Nat.le_of_ble_eq_true rfl) (Nat.le_of_ble_eq_true rfl)

theorem qX2_add_0 : ∀ w ∈ wsX20, w ∈ wsX2_add := by decide +kernel
theorem qX2_add_1 : Cond.fieldLink RX2 7 "PieceText$Row" "characters" "[I" ∈ wsX2_add := by decide +kernel
theorem qX2_add_2 : Cond.fieldLink RX2 13 "PieceText$Row" "length" "I" ∈ wsX2_add := by decide +kernel
set_option maxHeartbeats 4000000 in
set_option maxRecDepth 100000 in
theorem c_Row_add (l : Launch) (D : va_G) (cI cR cL : ClassId) (B N : Nat) (ad : Nat → Nat) (cw : Nat → va_E) {r a n : Nat} (hr9 : r < N) (er : cw r = .inr (2, [.ref (ad (a)), .int (nI n)])) {lim : Nat} {f : Nat → Int32} (hl9 : lim < 2 ^ 31) (ha9 : a < N) (ea : cw a = .inl (cI, lim, .inl (f))) (hra : r ≠ a) (hn : n < lim) (x : Int32) : Met l yX2_add wsX2_add ({ frames := 0, cells := 0, slots := 0, locals := 0 } : Room) (va_Pc [.ref (ad (r)), .int (x)] (zI D vwCl (zTy cI cR cL) B N ad cw)) (zQv D vwCl B N ad (fun (cw' : Nat → va_E) => cw' = va_up (va_up cw a (.inl (cI, lim, .inl (upd f n x)))) r (.inr (2, [.ref (ad (a)), .int (nI (n + 1))])))) 0 0 (zA B) := by
  refine z_ofW (cc := cX2_add) (maxL := 2) (ret := none) (by decide) rfl (Nat.le_of_ble_eq_true rfl) ?_
  intro p e s m args below meth c C hr hnm
  refine z_lv (lv' := [(0, .ref (ad (r))), (1, .int (x))]) [0, 1] rfl ?_
  refine z_aload_n C dX2_add_0 0 rfl ?_
  refine z_get (Cn := RX2) (T := TX2) (NF := 2) (ci := 2) (v := .ref (ad (a))) C qX2_add_0 rfl 0 (by decide) (C.2.2.2.2.1 _ qX2_add_1) (fun _ h9 => h9) dX2_add_1 (r) hr9 er rfl ?_
  refine z_aload_n C dX2_add_4 0 rfl ?_
  refine z_get (Cn := RX2) (T := TX2) (NF := 2) (ci := 2) (v := .int (nI n)) C qX2_add_0 rfl 1 (by decide) (C.2.2.2.2.1 _ qX2_add_2) (fun _ h9 => h9) dX2_add_5 (r) hr9 er rfl ?_
  refine z_iload_n C dX2_add_8 1 rfl ?_
  obtain ⟨cw1, ecw1⟩ : ∃ z : Nat → va_E, z = va_up (cw) (a) (.inl (cI, lim, .inl (upd (f) (n) ((x))))) := ⟨_, rfl⟩
  refine z_iast C 0 rfl dX2_add_9 (a) ha9 ea (n) (rfl) (hn) hl9 ?_
  refine z_cw ecw1.symm ?_
  have hw_2 : cw1 (r) = .inr (2, [.ref (ad (a)), .int (nI n)]) := by rw [ecw1, va_up_ne _ _ hra]; exact er
  have hw_3 : cw1 (a) = .inl (cI, lim, .inl (upd (f) (n) ((x)))) := by rw [ecw1, va_up_self]
  refine z_aload_n C dX2_add_10 0 rfl ?_
  refine z_dup C dX2_add_11 rfl ?_
  refine z_get (Cn := RX2) (T := TX2) (NF := 2) (ci := 2) (v := .int (nI n)) C qX2_add_0 rfl 1 (by decide) (C.2.2.2.2.1 _ qX2_add_2) (fun _ h9 => h9) dX2_add_12 (r) hr9 hw_2 rfl ?_
  refine z_iconst (v := nI 1) C dX2_add_15 (by decide) ?_
  refine z_iadd C dX2_add_16 ?_
  refine z_top (y := nI (n + 1)) (nI_1 n) ?_
  obtain ⟨cw4, ecw4⟩ : ∃ z : Nat → va_E, z = va_up (cw1) (r) (.inr (2, [.ref (ad (a)), .int (nI (n + 1))])) := ⟨_, rfl⟩
  refine z_put (Cn := RX2) (T := TX2) (NF := 2) (ci := 2) (ty := .int) (v := .int (nI (n + 1))) C qX2_add_0 tyX2_ok nmX2 rfl 1 (by decide) (C.2.2.2.2.1 _ qX2_add_2) (fun _ h9 => h9) rfl (by decide +kernel) dX2_add_17 (r) hr9 hw_2 rfl rfl (Nat.le_of_ble_eq_true rfl) ?_
  refine z_cw ecw4.symm ?_
  have hw_5 : cw4 (r) = .inr (2, [.ref (ad (a)), .int (nI (n + 1))]) := by rw [ecw4, va_up_self]
  have hw_6 : cw4 (a) = .inl (cI, lim, .inl (upd (f) (n) ((x)))) := by rw [ecw4, va_up_ne _ _ (Ne.symm hra)]; exact hw_3
  exact z_vret C hr dX2_add_20 (by rw [ecw4, ecw1]) (Nat.le_of_ble_eq_true rfl) (Nat.le_of_ble_eq_true rfl)

theorem qX2_addPart_0 : ∀ w ∈ wsX20, w ∈ wsX2_addPart := by decide +kernel
theorem qX2_addPart_1 : Cond.fieldLink RX2 7 "PieceText$Row" "characters" "[I" ∈ wsX2_addPart := by decide +kernel
theorem qX2_addPart_2 : Cond.fieldLink RX2 13 "PieceText$Row" "length" "I" ∈ wsX2_addPart := by decide +kernel
theorem qX2_addPart_3 : Cond.methodLink RX2 17 arraycopyName ∈ wsX2_addPart := by decide +kernel
theorem qX2_addPart_4 : Cond.native arraycopyName ∈ wsX2_addPart := by decide +kernel
theorem qX2_addPart_5 : Cond.static arraycopyName ∈ wsX2_addPart := by decide +kernel
theorem qX2_addPart_6 : Cond.initialized "java/lang/System" ∈ wsX2_addPart := by decide +kernel
set_option maxHeartbeats 4000000 in
set_option maxRecDepth 100000 in
theorem c_Row_addPart (l : Launch) (D : va_G) (cI cR cL : ClassId) (B N : Nat) (ad : Nat → Nat) (cw : Nat → va_E) {r a n : Nat} (hr9 : r < N) (er : cw r = .inr (2, [.ref (ad (a)), .int (nI n)])) {lim : Nat} {f : Nat → Int32} (hl9 : lim < 2 ^ 31) (ha9 : a < N) (ea : cw a = .inl (cI, lim, .inl (f))) {r2 a2 lim2 : Nat} {len2 : Int32} {g : Nat → Int32} (hl2 : lim2 < 2 ^ 31) (hr2 : r2 < N) (er2 : cw r2 = .inr (2, [.ref (ad (a2)), .int (len2)])) (ha2 : a2 < N) (ea2 : cw a2 = .inl (cI, lim2, .inl (g))) (hra : r ≠ a) (h2 : r2 ≠ r ∧ r2 ≠ a ∧ a2 ≠ r ∧ a2 ≠ a) {b k : Nat} (hbk : b ≤ k) (hk : k ≤ lim2) (hn : n + (k - b) ≤ lim) : Met l yX2_addPart wsX2_addPart ({ frames := 1, cells := 0, slots := 0, locals := 60 } : Room) (va_Pc [.ref (ad (r)), .ref (ad (r2)), .int (nI b), .int (nI k)] (zI D vwCl (zTy cI cR cL) B N ad cw)) (zQv D vwCl B N ad (fun (cw' : Nat → va_E) => cw' = va_up (va_up cw a (.inl (cI, lim, .inl (va_cpy g f b n (k - b))))) r (.inr (2, [.ref (ad (a)), .int (nI (n + (k - b)))])))) 0 0 (zA B) := by
  refine z_ofW (cc := cX2_addPart) (maxL := 4) (ret := none) (by decide) rfl (Nat.le_of_ble_eq_true rfl) ?_
  intro p e s m args below meth c C hr hnm
  refine z_lv (lv' := [(0, .ref (ad (r))), (1, .ref (ad (r2))), (2, .int (nI b)), (3, .int (nI k))]) [0, 1, 2, 3] rfl ?_
  refine z_aload_n C dX2_addPart_0 1 rfl ?_
  refine z_get (Cn := RX2) (T := TX2) (NF := 2) (ci := 2) (v := .ref (ad (a2))) C qX2_addPart_0 rfl 0 (by decide) (C.2.2.2.2.1 _ qX2_addPart_1) (fun _ h9 => h9) dX2_addPart_1 (r2) hr2 er2 rfl ?_
  refine z_iload_n C dX2_addPart_4 2 rfl ?_
  refine z_aload_n C dX2_addPart_5 0 rfl ?_
  refine z_get (Cn := RX2) (T := TX2) (NF := 2) (ci := 2) (v := .ref (ad (a))) C qX2_addPart_0 rfl 0 (by decide) (C.2.2.2.2.1 _ qX2_addPart_1) (fun _ h9 => h9) dX2_addPart_6 (r) hr9 er rfl ?_
  refine z_aload_n C dX2_addPart_9 0 rfl ?_
  refine z_get (Cn := RX2) (T := TX2) (NF := 2) (ci := 2) (v := .int (nI n)) C qX2_addPart_0 rfl 1 (by decide) (C.2.2.2.2.1 _ qX2_addPart_2) (fun _ h9 => h9) dX2_addPart_10 (r) hr9 er rfl ?_
  refine z_iload_n C dX2_addPart_13 3 rfl ?_
  refine z_iload_n C dX2_addPart_14 2 rfl ?_
  refine z_isub C dX2_addPart_15 ?_
  obtain ⟨cw1, ecw1⟩ : ∃ z : Nat → va_E, z = va_up (cw) (a) (.inl (cI, lim, .inl (va_cpy (g) (f) (b) (n) (k - b)))) := ⟨_, rfl⟩
  refine z_copy (sp := b) (dp := n) (n := k - b) C (C.2.2.2.2.1 _ qX2_addPart_3) (C.2.2.2.2.1 _ qX2_addPart_4) (C.2.2.2.2.1 _ qX2_addPart_5) (C.2.2.2.2.1 _ qX2_addPart_6) 0 rfl (Nat.le_of_ble_eq_true rfl) (Nat.le_of_ble_eq_true rfl) dX2_addPart_16 (a2) (a) ha2 ha9 ea2 ea (rfl) (rfl) (pk_sub hbk) (by omega) (hn) hl2 hl9 ?_
  refine z_cw ecw1.symm ?_
  have hw_2 : cw1 (r) = .inr (2, [.ref (ad (a)), .int (nI n)]) := by rw [ecw1, va_up_ne _ _ hra]; exact er
  have hw_3 : cw1 (a) = .inl (cI, lim, .inl (va_cpy (g) (f) (b) (n) (k - b))) := by rw [ecw1, va_up_self]
  have hw_4 : cw1 (r2) = .inr (2, [.ref (ad (a2)), .int (len2)]) := by rw [ecw1, va_up_ne _ _ h2.2.1]; exact er2
  have hw_5 : cw1 (a2) = .inl (cI, lim2, .inl (g)) := by rw [ecw1, va_up_ne _ _ h2.2.2.2]; exact ea2
  refine z_aload_n C dX2_addPart_19 0 rfl ?_
  refine z_dup C dX2_addPart_20 rfl ?_
  refine z_get (Cn := RX2) (T := TX2) (NF := 2) (ci := 2) (v := .int (nI n)) C qX2_addPart_0 rfl 1 (by decide) (C.2.2.2.2.1 _ qX2_addPart_2) (fun _ h9 => h9) dX2_addPart_21 (r) hr9 hw_2 rfl ?_
  refine z_iload_n C dX2_addPart_24 3 rfl ?_
  refine z_iload_n C dX2_addPart_25 2 rfl ?_
  refine z_isub C dX2_addPart_26 ?_
  refine z_top (y := nI (k - b)) (pk_sub hbk) ?_
  refine z_iadd C dX2_addPart_27 ?_
  refine z_top (y := nI (n + (k - b))) (nI_add _ _) ?_
  obtain ⟨cw6, ecw6⟩ : ∃ z : Nat → va_E, z = va_up (cw1) (r) (.inr (2, [.ref (ad (a)), .int (nI (n + (k - b)))])) := ⟨_, rfl⟩
  refine z_put (Cn := RX2) (T := TX2) (NF := 2) (ci := 2) (ty := .int) (v := .int (nI (n + (k - b)))) C qX2_addPart_0 tyX2_ok nmX2 rfl 1 (by decide) (C.2.2.2.2.1 _ qX2_addPart_2) (fun _ h9 => h9) rfl (by decide +kernel) dX2_addPart_28 (r) hr9 hw_2 rfl rfl (Nat.le_of_ble_eq_true rfl) ?_
  refine z_cw ecw6.symm ?_
  have hw_7 : cw6 (r) = .inr (2, [.ref (ad (a)), .int (nI (n + (k - b)))]) := by rw [ecw6, va_up_self]
  have hw_8 : cw6 (a) = .inl (cI, lim, .inl (va_cpy (g) (f) (b) (n) (k - b))) := by rw [ecw6, va_up_ne _ _ (Ne.symm hra)]; exact hw_3
  have hw_9 : cw6 (r2) = .inr (2, [.ref (ad (a2)), .int (len2)]) := by rw [ecw6, va_up_ne _ _ h2.1]; exact hw_4
  have hw_10 : cw6 (a2) = .inl (cI, lim2, .inl (g)) := by rw [ecw6, va_up_ne _ _ h2.2.2.1]; exact hw_5
  exact z_vret C hr dX2_addPart_31 (by rw [ecw6, ecw1]) (Nat.le_of_ble_eq_true rfl) (Nat.le_of_ble_eq_true rfl)

set_option maxHeartbeats 4000000 in
set_option maxRecDepth 100000 in
theorem c_Row_addSelf (l : Launch) (D : va_G) (cI cR cL : ClassId) (B N : Nat) (ad : Nat → Nat) (cw : Nat → va_E) {r a n : Nat} (hr9 : r < N) (er : cw r = .inr (2, [.ref (ad (a)), .int (nI n)])) {lim : Nat} {f : Nat → Int32} (hl9 : lim < 2 ^ 31) (ha9 : a < N) (ea : cw a = .inl (cI, lim, .inl (f))) (hra : r ≠ a) {b k : Nat} (hbk : b ≤ k) (hk : k ≤ lim) (hn : n + (k - b) ≤ lim) : Met l yX2_addPart wsX2_addPart ({ frames := 1, cells := 0, slots := 0, locals := 60 } : Room) (va_Pc [.ref (ad (r)), .ref (ad (r)), .int (nI b), .int (nI k)] (zI D vwCl (zTy cI cR cL) B N ad cw)) (zQv D vwCl B N ad (fun (cw' : Nat → va_E) => cw' = va_up (va_up cw a (.inl (cI, lim, .inl (va_cpy f f b n (k - b))))) r (.inr (2, [.ref (ad (a)), .int (nI (n + (k - b)))])))) 0 0 (zA B) := by
  refine z_ofW (cc := cX2_addPart) (maxL := 4) (ret := none) (by decide) rfl (Nat.le_of_ble_eq_true rfl) ?_
  intro p e s m args below meth c C hr hnm
  refine z_lv (lv' := [(0, .ref (ad (r))), (1, .ref (ad (r))), (2, .int (nI b)), (3, .int (nI k))]) [0, 1, 2, 3] rfl ?_
  refine z_aload_n C dX2_addPart_0 1 rfl ?_
  refine z_get (Cn := RX2) (T := TX2) (NF := 2) (ci := 2) (v := .ref (ad (a))) C qX2_addPart_0 rfl 0 (by decide) (C.2.2.2.2.1 _ qX2_addPart_1) (fun _ h9 => h9) dX2_addPart_1 (r) hr9 er rfl ?_
  refine z_iload_n C dX2_addPart_4 2 rfl ?_
  refine z_aload_n C dX2_addPart_5 0 rfl ?_
  refine z_get (Cn := RX2) (T := TX2) (NF := 2) (ci := 2) (v := .ref (ad (a))) C qX2_addPart_0 rfl 0 (by decide) (C.2.2.2.2.1 _ qX2_addPart_1) (fun _ h9 => h9) dX2_addPart_6 (r) hr9 er rfl ?_
  refine z_aload_n C dX2_addPart_9 0 rfl ?_
  refine z_get (Cn := RX2) (T := TX2) (NF := 2) (ci := 2) (v := .int (nI n)) C qX2_addPart_0 rfl 1 (by decide) (C.2.2.2.2.1 _ qX2_addPart_2) (fun _ h9 => h9) dX2_addPart_10 (r) hr9 er rfl ?_
  refine z_iload_n C dX2_addPart_13 3 rfl ?_
  refine z_iload_n C dX2_addPart_14 2 rfl ?_
  refine z_isub C dX2_addPart_15 ?_
  obtain ⟨cw1, ecw1⟩ : ∃ z : Nat → va_E, z = va_up (cw) (a) (.inl (cI, lim, .inl (va_cpy (f) (f) (b) (n) (k - b)))) := ⟨_, rfl⟩
  refine z_copy (sp := b) (dp := n) (n := k - b) C (C.2.2.2.2.1 _ qX2_addPart_3) (C.2.2.2.2.1 _ qX2_addPart_4) (C.2.2.2.2.1 _ qX2_addPart_5) (C.2.2.2.2.1 _ qX2_addPart_6) 0 rfl (Nat.le_of_ble_eq_true rfl) (Nat.le_of_ble_eq_true rfl) dX2_addPart_16 (a) (a) ha9 ha9 ea ea (rfl) (rfl) (pk_sub hbk) (by omega) (hn) hl9 hl9 ?_
  refine z_cw ecw1.symm ?_
  have hw_2 : cw1 (r) = .inr (2, [.ref (ad (a)), .int (nI n)]) := by rw [ecw1, va_up_ne _ _ hra]; exact er
  have hw_3 : cw1 (a) = .inl (cI, lim, .inl (va_cpy (f) (f) (b) (n) (k - b))) := by rw [ecw1, va_up_self]
  refine z_aload_n C dX2_addPart_19 0 rfl ?_
  refine z_dup C dX2_addPart_20 rfl ?_
  refine z_get (Cn := RX2) (T := TX2) (NF := 2) (ci := 2) (v := .int (nI n)) C qX2_addPart_0 rfl 1 (by decide) (C.2.2.2.2.1 _ qX2_addPart_2) (fun _ h9 => h9) dX2_addPart_21 (r) hr9 hw_2 rfl ?_
  refine z_iload_n C dX2_addPart_24 3 rfl ?_
  refine z_iload_n C dX2_addPart_25 2 rfl ?_
  refine z_isub C dX2_addPart_26 ?_
  refine z_top (y := nI (k - b)) (pk_sub hbk) ?_
  refine z_iadd C dX2_addPart_27 ?_
  refine z_top (y := nI (n + (k - b))) (nI_add _ _) ?_
  obtain ⟨cw4, ecw4⟩ : ∃ z : Nat → va_E, z = va_up (cw1) (r) (.inr (2, [.ref (ad (a)), .int (nI (n + (k - b)))])) := ⟨_, rfl⟩
  refine z_put (Cn := RX2) (T := TX2) (NF := 2) (ci := 2) (ty := .int) (v := .int (nI (n + (k - b)))) C qX2_addPart_0 tyX2_ok nmX2 rfl 1 (by decide) (C.2.2.2.2.1 _ qX2_addPart_2) (fun _ h9 => h9) rfl (by decide +kernel) dX2_addPart_28 (r) hr9 hw_2 rfl rfl (Nat.le_of_ble_eq_true rfl) ?_
  refine z_cw ecw4.symm ?_
  have hw_5 : cw4 (r) = .inr (2, [.ref (ad (a)), .int (nI (n + (k - b)))]) := by rw [ecw4, va_up_self]
  have hw_6 : cw4 (a) = .inl (cI, lim, .inl (va_cpy (f) (f) (b) (n) (k - b))) := by rw [ecw4, va_up_ne _ _ (Ne.symm hra)]; exact hw_3
  exact z_vret C hr dX2_addPart_31 (by rw [ecw4, ecw1]) (Nat.le_of_ble_eq_true rfl) (Nat.le_of_ble_eq_true rfl)

def zOcc (f g : Nat → Int32) (n m q : Nat) : Prop := q + m ≤ n ∧ ∀ i, i < m → f (q + i) = g i
theorem qX2_hasAt_0 : ∀ w ∈ wsX20, w ∈ wsX2_hasAt := by decide +kernel
theorem qX2_hasAt_1 : Cond.fieldLink RX2 13 "PieceText$Row" "length" "I" ∈ wsX2_hasAt := by decide +kernel
theorem qX2_hasAt_2 : Cond.fieldLink RX2 7 "PieceText$Row" "characters" "[I" ∈ wsX2_hasAt := by decide +kernel
set_option maxHeartbeats 4000000 in
set_option maxRecDepth 100000 in
theorem c_Row_hasAt (l : Launch) (D : va_G) (cI cR cL : ClassId) (B N : Nat) (ad : Nat → Nat) (cw : Nat → va_E) {r a n : Nat} (hr9 : r < N) (er : cw r = .inr (2, [.ref (ad (a)), .int (nI n)])) {lim : Nat} {f : Nat → Int32} (hl9 : lim < 2 ^ 31) (ha9 : a < N) (ea : cw a = .inl (cI, lim, .inl (f))) {r2 a2 lim2 : Nat} {k : Nat} {g : Nat → Int32} (hl2 : lim2 < 2 ^ 31) (hr2 : r2 < N) (er2 : cw r2 = .inr (2, [.ref (ad (a2)), .int (nI k)])) (ha2 : a2 < N) (ea2 : cw a2 = .inl (cI, lim2, .inl (g))) {q : Nat} (hq : q ≤ n) (hn : n ≤ lim) (hk : k ≤ lim2) (hlim : lim < 2 ^ 30 ∧ lim2 < 2 ^ 30) : Met l yX2_hasAt wsX2_hasAt ({ frames := 0, cells := 0, slots := 0, locals := 0 } : Room) (va_Pc [.ref (ad (r)), .int (nI q), .ref (ad (r2))] (zI D vwCl (zTy cI cR cL) B N ad cw)) (zQi D vwCl B N ad (fun (v : Int32) (cw' : Nat → va_E) => ((v = 1 ∧ zOcc f g n k q) ∨ (v = 0 ∧ ¬ zOcc f g n k q)) ∧ cw' = cw)) 0 0 (zA B) := by
  refine z_ofW (cc := cX2_hasAt) (maxL := 4) (ret := (some .boolean)) (by decide) rfl (Nat.le_of_ble_eq_true rfl) ?_
  intro p e s m args below meth c C hr hnm
  refine z_lv (lv' := [(0, .ref (ad (r))), (1, .int (nI q)), (2, .ref (ad (r2)))]) [0, 1, 2] rfl ?_
  refine z_aload_n C dX2_hasAt_0 2 rfl ?_
  refine z_get (Cn := RX2) (T := TX2) (NF := 2) (ci := 2) (v := .int (nI k)) C qX2_hasAt_0 rfl 1 (by decide) (C.2.2.2.2.1 _ qX2_hasAt_1) (fun _ h9 => h9) dX2_hasAt_1 (r2) hr2 er2 rfl ?_
  refine z_aload_n C dX2_hasAt_4 0 rfl ?_
  refine z_get (Cn := RX2) (T := TX2) (NF := 2) (ci := 2) (v := .int (nI n)) C qX2_hasAt_0 rfl 1 (by decide) (C.2.2.2.2.1 _ qX2_hasAt_1) (fun _ h9 => h9) dX2_hasAt_5 (r) hr9 er rfl ?_
  refine z_iload_n C dX2_hasAt_8 1 rfl ?_
  refine z_isub C dX2_hasAt_9 ?_
  refine z_top (y := nI (n - q)) (pk_sub hq) ?_
  refine z_icmp_le (tgt := 15) C dX2_hasAt_10 (by decide) (fun c1 => ?_) (fun c1 => ?_)
  · have hle : k ≤ n - q := (nI_leI (by omega) (by omega)).mp c1
    refine z_iconst (v := nI 0) C dX2_hasAt_15 (by decide) ?_
    refine z_istore_n (lv' := [(3, .int (nI 0)), (0, .ref (ad (r))), (1, .int (nI q)), (2, .ref (ad (r2)))]) C dX2_hasAt_16 rfl (by decide) rfl ?_
    suffices loop : ∀ (t i : Nat), k = i + t → (∀ j, j < i → f (q + j) = g j) → zG p l e (headSpec wsX2_hasAt ({ frames := 0, cells := 0, slots := 0, locals := 0 } : Room)).room s m args below meth c (MQ below (zQi D vwCl B N ad (fun (v : Int32) (cw' : Nat → va_E) => ((v = 1 ∧ zOcc f g n k q) ∨ (v = 0 ∧ ¬ zOcc f g n k q)) ∧ cw' = cw)) args s 0 0 (zA B)) D vwCl B 4 N ad cw 0 0 [(3, .int (nI i)), (0, .ref (ad (r))), (1, .int (nI q)), (2, .ref (ad (r2)))] 17 [] from loop k 0 (by omega) (fun j hj => absurd hj (by omega))
    intro t
    induction t with
    | zero =>
      intro i hi hpre
      refine z_iload_n C dX2_hasAt_17 0 rfl ?_
      refine z_aload_n C dX2_hasAt_18 3 rfl ?_
      refine z_get (Cn := RX2) (T := TX2) (NF := 2) (ci := 2) (v := .int (nI k)) C qX2_hasAt_0 rfl 1 (by decide) (C.2.2.2.2.1 _ qX2_hasAt_1) (fun _ h9 => h9) dX2_hasAt_19 (r2) hr2 er2 rfl ?_
      refine z_icmp_ge (tgt := 50) C dX2_hasAt_22 (by decide) (fun c2 => ?_) (fun c2 => ?_)
      · skip
        refine z_iconst (v := nI 1) C dX2_hasAt_50 (by decide) ?_
        exact z_zret C hr (by decide) dX2_hasAt_51 (⟨Or.inl ⟨rfl, by omega, fun j hj => hpre j (by omega)⟩, rfl⟩) (Nat.le_of_ble_eq_true rfl) (Nat.le_of_ble_eq_true rfl)
      · skip
        exact absurd (by rw [show i = k by omega]; exact nI_le (Nat.le_refl _) (by omega)) c2
    | succ t ih =>
      intro i hi hpre
      refine z_iload_n C dX2_hasAt_17 0 rfl ?_
      refine z_aload_n C dX2_hasAt_18 3 rfl ?_
      refine z_get (Cn := RX2) (T := TX2) (NF := 2) (ci := 2) (v := .int (nI k)) C qX2_hasAt_0 rfl 1 (by decide) (C.2.2.2.2.1 _ qX2_hasAt_1) (fun _ h9 => h9) dX2_hasAt_19 (r2) hr2 er2 rfl ?_
      refine z_icmp_ge (tgt := 50) C dX2_hasAt_22 (by decide) (fun c3 => ?_) (fun c3 => ?_)
      · skip
        exact absurd ((nI_leI (by omega) (by omega)).mp c3) (by omega)
      · skip
        refine z_aload_n C dX2_hasAt_25 1 rfl ?_
        refine z_get (Cn := RX2) (T := TX2) (NF := 2) (ci := 2) (v := .ref (ad (a))) C qX2_hasAt_0 rfl 0 (by decide) (C.2.2.2.2.1 _ qX2_hasAt_2) (fun _ h9 => h9) dX2_hasAt_26 (r) hr9 er rfl ?_
        refine z_iload_n C dX2_hasAt_29 2 rfl ?_
        refine z_iload_n C dX2_hasAt_30 0 rfl ?_
        refine z_iadd C dX2_hasAt_31 ?_
        refine z_top (y := nI (q + i)) (nI_add _ _) ?_
        refine z_iald C 0 rfl dX2_hasAt_32 (a) ha9 ea (q + i) (rfl) (by omega) hl9 ?_
        refine z_aload_n C dX2_hasAt_33 3 rfl ?_
        refine z_get (Cn := RX2) (T := TX2) (NF := 2) (ci := 2) (v := .ref (ad (a2))) C qX2_hasAt_0 rfl 0 (by decide) (C.2.2.2.2.1 _ qX2_hasAt_2) (fun _ h9 => h9) dX2_hasAt_34 (r2) hr2 er2 rfl ?_
        refine z_iload_n C dX2_hasAt_37 0 rfl ?_
        refine z_iald C 0 rfl dX2_hasAt_38 (a2) ha2 ea2 (i) (rfl) (by omega) hl2 ?_
        refine z_icmp_eq (tgt := 44) C dX2_hasAt_39 (by decide) (fun c4 => ?_) (fun c4 => ?_)
        · skip
          refine z_iinc (x := nI (i + 1)) (lv' := [(3, .int (nI (i + 1))), (0, .ref (ad (r))), (1, .int (nI q)), (2, .ref (ad (r2)))]) C dX2_hasAt_44 0 rfl (nI_1 i) (by decide) rfl ?_
          refine z_goto (tgt := 17) C dX2_hasAt_47 (by decide) ?_
          refine z_lv (lv' := [(3, .int (nI (i + 1))), (0, .ref (ad (r))), (1, .int (nI q)), (2, .ref (ad (r2)))]) [0, 1, 2, 3] rfl ?_
          exact ih (i + 1) (by omega) (fun j hj => by rcases Nat.lt_succ_iff_lt_or_eq.mp hj with h | h; exact hpre j h; rw [h]; exact c4)
        · skip
          refine z_iconst (v := nI 0) C dX2_hasAt_42 (by decide) ?_
          exact z_zret C hr (by decide) dX2_hasAt_43 (⟨Or.inr ⟨rfl, fun h => c4 (h.2 i (by omega))⟩, rfl⟩) (Nat.le_of_ble_eq_true rfl) (Nat.le_of_ble_eq_true rfl)
  · skip
    refine z_iconst (v := nI 0) C dX2_hasAt_13 (by decide) ?_
    exact z_zret C hr (by decide) dX2_hasAt_14 (⟨Or.inr ⟨rfl, fun h => c1 (nI_le (by have := h.1; omega) (by omega))⟩, rfl⟩) (Nat.le_of_ble_eq_true rfl) (Nat.le_of_ble_eq_true rfl)

