theorem z_N {p : Program} {l : Launch} {e : Env} {R : Room} {s : State} {m : MethodId} {args : Array Value} {below : List Frame} {meth : Method} {c : Code} {cells slots : Nat} {Q : State → Prop} {D : va_G} {cl : List vw_C} {B N nL : Nat} {ad : Nat → Nat} {cw : Nat → va_E} {lv : List (Nat × Value)} {pc : Nat} {st : List Value} {N' : Nat} (h : N = N') (kk : zG p l e R s m args below meth c Q D cl B nL N' ad cw cells slots lv pc st) : zG p l e R s m args below meth c Q D cl B nL N ad cw cells slots lv pc st := by subst h; exact kk
theorem qX2_init_0 : Cond.methodLink RX2 1 objectInit ∈ wsX2_init := by decide +kernel
theorem qX2_init_1 : Cond.instanceMethod objectInit ∈ wsX2_init := by decide +kernel
theorem qX2_init_2 : Cond.arrayClass .int ∈ wsX2_init := by decide +kernel
theorem qX2_init_3 : ∀ w ∈ wsX20, w ∈ wsX2_init := by decide +kernel
theorem qX2_init_4 : Cond.fieldLink RX2 7 "PieceText$Row" "characters" "[I" ∈ wsX2_init := by decide +kernel
theorem qX2_init_5 : Cond.fieldLink RX2 13 "PieceText$Row" "length" "I" ∈ wsX2_init := by decide +kernel
set_option maxHeartbeats 4000000 in
set_option maxRecDepth 100000 in
theorem c_Row_init (l : Launch) (D : va_G) (cI cR cL : ClassId) (B N : Nat) (ad : Nat → Nat) (cw : Nat → va_E) {i lim : Nat} (hi : i < N) (e1 : cw (i) = .inr (2, [.null, .int (nI 0)])) (hlim : lim ≤ 240) : Met l yX2_init wsX2_init ({ frames := 1, cells := 1, slots := 240, locals := 20 } : Room) (va_Pc [.ref (ad (i)), .int (nI lim)] (zI D vwCl (zTy cI cR cL) B N ad cw)) (zQn D vwCl B N (N + 1) ad (fun (ad' : Nat → Nat) (cw' : Nat → va_E) => cw' (i) = .inr (2, [.ref (ad' (N)), .int (nI 0)]) ∧ cw' (N) = .inl (cI, lim, .inl (fun _ => 0)) ∧ ∀ j, (j ≠ i ∧ j ≠ N) → cw' j = cw j)) 1 240 (zA B) := by
  refine z_ofW (cc := cX2_init) (maxL := 2) (ret := none) (by decide) rfl (Nat.le_of_ble_eq_true rfl) ?_
  intro p e s m args below meth c C hr hnm
  refine z_lv (lv' := [(0, .ref (ad (i))), (1, .int (nI lim))]) [0, 1] rfl ?_
  refine z_aload_n C dX2_init_0 0 rfl ?_
  refine z_objInit C (C.2.2.2.2.1 _ qX2_init_0) (C.2.2.2.2.1 _ qX2_init_1) (C.2.2.2.2.1 _ (List.mem_of_getElem? (i := 3) rfl)) dX2_init_1 (Nat.le_of_ble_eq_true rfl) (Nat.le_of_ble_eq_true rfl) ?_
  refine z_aload_n C dX2_init_4 0 rfl ?_
  refine z_iload_n C dX2_init_5 1 rfl ?_
  refine z_newa (N := N) (N' := lim) C 0 rfl (C.2.2.2.2.1 _ qX2_init_2) (rfl) (by omega) (Nat.le_of_ble_eq_true rfl) (Nat.le_trans (show 0 + lim ≤ 240 by omega) (Nat.le_of_ble_eq_true rfl)) dX2_init_6 (fun ad1 had1 => ?_)
  rw [← had1 (i) (by omega)]
  obtain ⟨cw2, ecw2⟩ : ∃ z : Nat → va_E, z = va_up cw (N) (.inl (cI, lim, .inl (fun _ => 0))) := ⟨_, rfl⟩
  refine z_cw ecw2.symm ?_
  refine z_N (N' := N + 1) (by omega) ?_
  have hw_3 : cw2 (i) = .inr (2, [.null, .int (nI 0)]) := by rw [ecw2, va_up_ne _ _ (by omega)]; exact e1
  have hw_4 : cw2 (N) = .inl (cI, lim, .inl (fun _ => 0)) := by rw [ecw2]; exact va_up_self _ _ _
  obtain ⟨cw5, ecw5⟩ : ∃ z : Nat → va_E, z = va_up (cw2) (i) (.inr (2, [.ref (ad1 (N)), .int (nI 0)])) := ⟨_, rfl⟩
  refine z_putF (Cn := RX2) (T := TX2) (NF := 2) (ci := 2) (ty := .array .int) (v := .ref (ad1 (N))) C qX2_init_3 tyX2_ok nmX2 rfl 0 (by decide) (C.2.2.2.2.1 _ qX2_init_4) (fun _ h9 => h9) rfl hnm rfl (by decide +kernel) dX2_init_8 (i) (by omega) hw_3 rfl rfl (Nat.le_of_ble_eq_true rfl) ?_
  refine z_cw ecw5.symm ?_
  have hw_6 : cw5 (i) = .inr (2, [.ref (ad1 (N)), .int (nI 0)]) := by rw [ecw5, va_up_self]
  have hw_7 : cw5 (N) = .inl (cI, lim, .inl (fun _ => 0)) := by rw [ecw5, va_up_ne _ _ (by omega)]; exact hw_4
  refine z_aload_n C dX2_init_11 0 rfl ?_
  refine z_iconst (v := nI 0) C dX2_init_12 (by decide) ?_
  obtain ⟨cw8, ecw8⟩ : ∃ z : Nat → va_E, z = va_up (cw5) (i) (.inr (2, [.ref (ad1 (N)), .int (nI 0)])) := ⟨_, rfl⟩
  refine z_put (Cn := RX2) (T := TX2) (NF := 2) (ci := 2) (ty := .int) (v := .int (nI 0)) C qX2_init_3 tyX2_ok nmX2 rfl 1 (by decide) (C.2.2.2.2.1 _ qX2_init_5) (fun _ h9 => h9) rfl (by decide +kernel) dX2_init_13 (i) (by omega) hw_6 rfl rfl (Nat.le_of_ble_eq_true rfl) ?_
  refine z_cw ecw8.symm ?_
  have hw_9 : cw8 (i) = .inr (2, [.ref (ad1 (N)), .int (nI 0)]) := by rw [ecw8, va_up_self]
  have hw_10 : cw8 (N) = .inl (cI, lim, .inl (fun _ => 0)) := by rw [ecw8, va_up_ne _ _ (by omega)]; exact hw_7
  exact z_nret C hr dX2_init_16 (⟨fun k hk => had1 k hk, hw_9, hw_10, fun j hj => (fun j hj => by rw [ecw8, va_up_ne _ _ (by omega)]; rw [ecw5, va_up_ne _ _ (by omega)]; rw [ecw2, va_up_ne _ _ (by omega)]) j hj⟩) (Nat.le_of_ble_eq_true rfl) (show 0 + lim ≤ 240 by omega)

