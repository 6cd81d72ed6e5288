section Z5
variable {p : Program} {l : Launch} {e : Env} {R : Room} {s : State} {m : MethodId} {args : Array Value} {below : List Frame} {meth : Method} {c : Code} {cells slots : Nat} {Q : State → Prop}
variable {D : va_G} {cl : List vw_C} {tys : List (ClassId × FieldType)} {B N nL : Nat} {ad : Nat → Nat} {cw : Nat → va_E} {lv : List (Nat × Value)} {pc : Nat} {st : List Value} {cc : ByteArray} {own : String} {Ts : List Cond}
theorem z_lload_n {k : Fin 4} {x : Int64} (C : zC p s m args meth c cc nL own Ts D cl tys B) (d : decode cc pc = .ok (.lload_n k, 1)) (j : Nat) (h : lv[j]? = some ((k : Nat), .long x)) (kk : zG p l e R s m args below meth c Q D cl B nL N ad cw cells slots lv (pc + 1) (.long x :: st)) : zG p l e R s m args below meth c Q D cl B nL N ad cw cells slots lv pc st := fun H locs ls hW hS hl => lv_lload_n C.1 C.2.1  d rfl (lv_at hl j h) (kk H locs ls hW hS hl)
theorem z_lload {k : Nat} {x : Int64} (C : zC p s m args meth c cc nL own Ts D cl tys B) (d : decode cc pc = .ok (.lload k, 2)) (j : Nat) (h : lv[j]? = some (k, .long x)) (kk : zG p l e R s m args below meth c Q D cl B nL N ad cw cells slots lv (pc + 2) (.long x :: st)) : zG p l e R s m args below meth c Q D cl B nL N ad cw cells slots lv pc st := fun H locs ls hW hS hl => lv_lload C.1 C.2.1  d (lv_at hl j h) (kk H locs ls hW hS hl)
theorem z_lconst {n : Fin 2} {v : Int64} (C : zC p s m args meth c cc nL own Ts D cl tys B) (d : decode cc pc = .ok (.lconst n, 1)) (hv : Int64.ofNat (n : Nat) = v) (kk : zG p l e R s m args below meth c Q D cl B nL N ad cw cells slots lv (pc + 1) (.long v :: st)) : zG p l e R s m args below meth c Q D cl B nL N ad cw cells slots lv pc st := fun H locs ls hW hS hl => lv_lconst C.1 C.2.1  d hv (kk H locs ls hW hS hl)
theorem z_lcmp {x y : Int64} (C : zC p s m args meth c cc nL own Ts D cl tys B) (d : decode cc pc = .ok (.lcmp, 1))  (kk : zG p l e R s m args below meth c Q D cl B nL N ad cw cells slots lv (pc + 1) (.int (lg_cmp x y) :: st)) : zG p l e R s m args below meth c Q D cl B nL N ad cw cells slots lv pc (.long y :: .long x :: st) := fun H locs ls hW hS hl => W.lcmp C.1 C.2.1  d  (kk H locs ls hW hS hl)
theorem z_ladd {x y : Int64} (C : zC p s m args meth c cc nL own Ts D cl tys B) (d : decode cc pc = .ok (.ladd, 1))  (kk : zG p l e R s m args below meth c Q D cl B nL N ad cw cells slots lv (pc + 1) (.long (x + y) :: st)) : zG p l e R s m args below meth c Q D cl B nL N ad cw cells slots lv pc (.long y :: .long x :: st) := fun H locs ls hW hS hl => lv_ladd C.1 C.2.1  d  (kk H locs ls hW hS hl)
theorem z_ldc2 {index : Nat} {v : Int64} (C : zC p s m args meth c cc nL own Ts D cl tys B) (hc : (Jvm.Cond.constantLong own index v).before args s = true) (d : decode cc pc = .ok (.ldc2_w index, 3)) (kk : zG p l e R s m args below meth c Q D cl B nL N ad cw cells slots lv (pc + 3) (.long v :: st)) : zG p l e R s m args below meth c Q D cl B nL N ad cw cells slots lv pc st := fun H locs ls hW hS hl => lv_ldc2 C.1 C.2.1 C.2.2.2.1 hc d (kk H locs ls hW hS hl)
end Z5

set_option maxHeartbeats 4000000 in
set_option maxRecDepth 100000 in
theorem c_M_isIn (l : Launch) (D : va_G) (cI cR cL : ClassId) (B N : Nat) (ad : Nat → Nat) (cw : Nat → va_E) (xa xb xd : Int64) : Met l yX4_isIn wsX4_isIn ({ frames := 0, cells := 0, slots := 0, locals := 0 } : Room) (va_Pc [.long (xa), .long (xb), .long (xd)] (zI D vwCl (zTy cI cR cL) B N ad cw)) (zQi D vwCl B N ad (fun (v : Int32) (cw' : Nat → va_E) => ((v = nI 1 ∧ xb ≤ xa ∧ xa ≤ xd) ∨ (v = nI 0 ∧ ¬ (xb ≤ xa ∧ xa ≤ xd))) ∧ cw' = cw)) 0 0 (zA B) := by
  refine z_ofW (cc := cX4_isIn) (maxL := 6) (ret := (some .boolean)) (by decide) rfl (Nat.le_of_ble_eq_true rfl) ?_
  intro p e s m args below meth c C hr hnm
  refine z_lv (lv' := [(0, .long (xa)), (2, .long (xb)), (4, .long (xd))]) [0, 1, 2] rfl ?_
  refine z_lload_n C dX4_isIn_0 0 rfl ?_
  refine z_lload_n C dX4_isIn_1 1 rfl ?_
  refine z_lcmp C dX4_isIn_2 ?_
  refine z_if_lt (tgt := 17) C dX4_isIn_3 (by decide) (fun c1 => ?_) (fun c1 => ?_)
  · skip
    refine z_iconst (v := nI 0) C dX4_isIn_17 (by decide) ?_
    exact z_zret C hr (by decide) dX4_isIn_18 (⟨Or.inr ⟨rfl, fun h => absurd h.1 (Int64.not_le.mpr ((lg_cmp_lt _ _).mp c1))⟩, rfl⟩) (Nat.le_of_ble_eq_true rfl) (Nat.le_of_ble_eq_true rfl)
  · skip
    refine z_lload_n C dX4_isIn_6 0 rfl ?_
    refine z_lload C dX4_isIn_7 2 rfl ?_
    refine z_lcmp C dX4_isIn_9 ?_
    refine z_if_gt (tgt := 17) C dX4_isIn_10 (by decide) (fun c2 => ?_) (fun c2 => ?_)
    · skip
      refine z_iconst (v := nI 0) C dX4_isIn_17 (by decide) ?_
      exact z_zret C hr (by decide) dX4_isIn_18 (⟨Or.inr ⟨rfl, fun h => absurd h.2 (Int64.not_le.mpr ((lg_cmp_gt _ _).mp c2))⟩, rfl⟩) (Nat.le_of_ble_eq_true rfl) (Nat.le_of_ble_eq_true rfl)
    · skip
      refine z_iconst (v := nI 1) C dX4_isIn_13 (by decide) ?_
      refine z_goto (tgt := 18) C dX4_isIn_14 (by decide) ?_
      exact z_zret C hr (by decide) dX4_isIn_18 (⟨Or.inl ⟨rfl, Int64.not_lt.mp (fun h => c1 ((lg_cmp_lt _ _).mpr h)), Int64.not_lt.mp (fun h => c2 ((lg_cmp_gt _ _).mpr h))⟩, rfl⟩) (Nat.le_of_ble_eq_true rfl) (Nat.le_of_ble_eq_true rfl)

theorem z_in0 {x : Int32} {n : Nat} (hn : n < 2 ^ 31) : ((0 : Int64) ≤ x.toInt64 ∧ x.toInt64 ≤ (nI n).toInt64) ↔ ∃ q, q ≤ n ∧ x = nI q := by
  rw [Int64.le_iff_toInt_le, Int64.le_iff_toInt_le, Int32.toInt_toInt64, Int32.toInt_toInt64, nI_toInt hn]
  constructor
  · rintro ⟨h1, h2⟩
    have h0 : ¬ x < 0 := fun h => by
      rw [Int32.lt_iff_toInt_lt] at h
      have e1 : (0 : Int64).toInt = 0 := rfl
      have e2 : (0 : Int32).toInt = 0 := rfl
      omega
    obtain ⟨q, hq, rfl⟩ := nI_of h0
    rw [nI_toInt hq] at h2
    exact ⟨q, by omega, rfl⟩
  · rintro ⟨q, hq, rfl⟩
    rw [nI_toInt (by omega)]
    have e1 : (0 : Int64).toInt = 0 := rfl
    omega
theorem z_in255 {x : Int32} : ((0 : Int64) ≤ x.toInt64 ∧ x.toInt64 ≤ 255) ↔ ∃ q, q < 256 ∧ x = nI q := by
  have h := z_in0 (x := x) (n := 255) (by omega)
  rw [show (nI 255).toInt64 = (255 : Int64) by decide] at h
  exact h.trans ⟨fun ⟨q, h1, h2⟩ => ⟨q, by omega, h2⟩, fun ⟨q, h1, h2⟩ => ⟨q, by omega, h2⟩⟩
theorem z_inm {x : Int32} {n : Nat} (hn : n < 2 ^ 30) : ((0 : Int64) ≤ x.toInt64 ∧ x.toInt64 ≤ (nI n - nI 1).toInt64) ↔ ∃ q, q < n ∧ x = nI q := by
  cases n with
  | zero =>
    refine ⟨fun h => ?_, fun ⟨q, h1, h2⟩ => absurd h1 (Nat.not_lt_zero _)⟩
    exfalso
    have h3 := Int64.le_trans h.1 h.2
    revert h3
    decide
  | succ n =>
    rw [pk_sub (by omega), show n + 1 - 1 = n from rfl, z_in0 (by omega)]
    exact ⟨fun ⟨q, h1, h2⟩ => ⟨q, by omega, h2⟩, fun ⟨q, h1, h2⟩ => ⟨q, by omega, h2⟩⟩
def zMT (cI : ClassId) (cw : Nat → va_E) (past fut : Nat) (hs : Nat → List Int32) : Prop := past + fut ≤ 12 ∧ ∃ tf lf, cw 38 = .inl (cI, 3120, .inl (tf)) ∧ cw 39 = .inl (cI, 13, .inl (lf)) ∧ ∀ j, j ≤ past + fut → (hs j).length ≤ 240 ∧ lf j = nI (hs j).length ∧ zIs (fun i => tf (240 * j + i)) (hs j)
def zRM (cI : ClassId) (ad : Nat → Nat) (cw : Nat → va_E) (past fut : Nat) (hs : Nat → List Int32) (pat ws : List Int32) (th dn : Int32) : Prop :=
  cw 37 = .inr (4, [.int (th), .ref (ad (38)), .ref (ad (39)), .int (nI (past)), .int (nI (fut)), .ref (ad (40)), .int (dn), .ref (ad (41)), .int (nI (pat.length)), .ref (ad (42)), .int (nI (ws.length)), .ref (ad (43)), .ref (ad (44))]) ∧ zMT cI cw past fut hs ∧ (∃ df, cw 40 = .inl (cI, 240, .inl (df))) ∧ (pat.length ≤ 16 ∧ ∃ pf, cw 41 = .inl (cI, 16, .inl (pf)) ∧ zIs pf pat) ∧ (ws.length ≤ 240 ∧ ∃ wf, cw 42 = .inl (cI, 240, .inl (wf)) ∧ zIs wf ws) ∧ (∃ bf, cw 43 = .inl (cI, 241, .inl (bf))) ∧ ∃ zf, cw 44 = .inl (cI, 241, .inl (zf))
theorem qX4_thrown_0 : ∀ w ∈ wsX40, w ∈ wsX4_thrown := by decide +kernel
theorem qX4_thrown_1 : Cond.fieldLink RX4 31 "PieceTextModel" "thrown" "I" ∈ wsX4_thrown := by decide +kernel
set_option maxHeartbeats 4000000 in
set_option maxRecDepth 100000 in
theorem c_M_thrown (l : Launch) (D : va_G) (cI cR cL : ClassId) (B N : Nat) (ad : Nat → Nat) (cw : Nat → va_E) (hN : 45 < N) {th dn : Int32} {past fut pn wn : Nat} (e37 : cw 37 = .inr (4, [.int (th), .ref (ad (38)), .ref (ad (39)), .int (nI (past)), .int (nI (fut)), .ref (ad (40)), .int (dn), .ref (ad (41)), .int (nI (pn)), .ref (ad (42)), .int (nI (wn)), .ref (ad (43)), .ref (ad (44))])) : Met l yX4_thrown wsX4_thrown ({ frames := 0, cells := 0, slots := 0, locals := 0 } : Room) (va_Pc [.ref (ad (37))] (zI D vwCl (zTy cI cR cL) B N ad cw)) (zQi D vwCl B N ad (fun (v : Int32) (cw' : Nat → va_E) => v = th ∧ cw' = cw)) 0 0 (zA B) := by
  refine z_ofW (cc := cX4_thrown) (maxL := 1) (ret := (some .int)) (by decide) rfl (Nat.le_of_ble_eq_true rfl) ?_
  intro p e s m args below meth c C hr hnm
  refine z_lv (lv' := [(0, .ref (ad (37)))]) [0] rfl ?_
  refine z_aload_n C dX4_thrown_0 0 rfl ?_
  refine z_get (Cn := RX4) (T := TX4) (NF := 13) (ci := 4) (v := .int (th)) C qX4_thrown_0 rfl 0 (by decide) (C.2.2.2.2.1 _ qX4_thrown_1) (fun _ h9 => h9) dX4_thrown_1 (37) (by omega) e37 rfl ?_
  exact z_iret C hr dX4_thrown_4 (⟨rfl, rfl⟩) (Nat.le_of_ble_eq_true rfl) (Nat.le_of_ble_eq_true rfl)

theorem qX4_length_0 : ∀ w ∈ wsX40, w ∈ wsX4_length := by decide +kernel
theorem qX4_length_1 : Cond.fieldLink RX4 13 "PieceTextModel" "lengths" "[I" ∈ wsX4_length := by decide +kernel
theorem qX4_length_2 : Cond.fieldLink RX4 35 "PieceTextModel" "past" "I" ∈ wsX4_length := by decide +kernel
set_option maxHeartbeats 4000000 in
set_option maxRecDepth 100000 in
theorem c_M_length (l : Launch) (D : va_G) (cI cR cL : ClassId) (B N : Nat) (ad : Nat → Nat) (cw : Nat → va_E) (hN : 45 < N) {th dn : Int32} {past fut pn wn : Nat} (e37 : cw 37 = .inr (4, [.int (th), .ref (ad (38)), .ref (ad (39)), .int (nI (past)), .int (nI (fut)), .ref (ad (40)), .int (dn), .ref (ad (41)), .int (nI (pn)), .ref (ad (42)), .int (nI (wn)), .ref (ad (43)), .ref (ad (44))])) {lf : Nat → Int32} (e39 : cw 39 = .inl (cI, 13, .inl (lf))) (hp : past < 13) {x : Int32} (hx : lf past = x) : Met l yX4_length wsX4_length ({ frames := 0, cells := 0, slots := 0, locals := 0 } : Room) (va_Pc [.ref (ad (37))] (zI D vwCl (zTy cI cR cL) B N ad cw)) (zQi D vwCl B N ad (fun (v : Int32) (cw' : Nat → va_E) => v = x ∧ cw' = cw)) 0 0 (zA B) := by
  refine z_ofW (cc := cX4_length) (maxL := 1) (ret := (some .int)) (by decide) rfl (Nat.le_of_ble_eq_true rfl) ?_
  intro p e s m args below meth c C hr hnm
  refine z_lv (lv' := [(0, .ref (ad (37)))]) [0] rfl ?_
  refine z_aload_n C dX4_length_0 0 rfl ?_
  refine z_get (Cn := RX4) (T := TX4) (NF := 13) (ci := 4) (v := .ref (ad (39))) C qX4_length_0 rfl 2 (by decide) (C.2.2.2.2.1 _ qX4_length_1) (fun _ h9 => h9) dX4_length_1 (37) (by omega) e37 rfl ?_
  refine z_aload_n C dX4_length_4 0 rfl ?_
  refine z_get (Cn := RX4) (T := TX4) (NF := 13) (ci := 4) (v := .int (nI (past))) C qX4_length_0 rfl 3 (by decide) (C.2.2.2.2.1 _ qX4_length_2) (fun _ h9 => h9) dX4_length_5 (37) (by omega) e37 rfl ?_
  refine z_iald C 0 rfl dX4_length_8 (39) (by omega) e39 (past) (rfl) (hp) (by decide) ?_
  refine z_top (y := x) (hx) ?_
  exact z_iret C hr dX4_length_9 (⟨rfl, rfl⟩) (Nat.le_of_ble_eq_true rfl) (Nat.le_of_ble_eq_true rfl)

theorem qX4_charAt_0 : ∀ w ∈ wsX40, w ∈ wsX4_charAt := by decide +kernel
theorem qX4_charAt_1 : Cond.fieldLink RX4 7 "PieceTextModel" "texts" "[I" ∈ wsX4_charAt := by decide +kernel
theorem qX4_charAt_2 : Cond.fieldLink RX4 35 "PieceTextModel" "past" "I" ∈ wsX4_charAt := by decide +kernel
set_option maxHeartbeats 4000000 in
set_option maxRecDepth 100000 in
theorem c_M_charAt (l : Launch) (D : va_G) (cI cR cL : ClassId) (B N : Nat) (ad : Nat → Nat) (cw : Nat → va_E) (hN : 45 < N) {th dn : Int32} {past fut pn wn : Nat} (e37 : cw 37 = .inr (4, [.int (th), .ref (ad (38)), .ref (ad (39)), .int (nI (past)), .int (nI (fut)), .ref (ad (40)), .int (dn), .ref (ad (41)), .int (nI (pn)), .ref (ad (42)), .int (nI (wn)), .ref (ad (43)), .ref (ad (44))])) {tf : Nat → Int32} (e38 : cw 38 = .inl (cI, 3120, .inl (tf))) {i : Nat} (hi : 240 * past + i < 3120) : Met l yX4_charAt wsX4_charAt ({ frames := 0, cells := 0, slots := 0, locals := 0 } : Room) (va_Pc [.ref (ad (37)), .int (nI i)] (zI D vwCl (zTy cI cR cL) B N ad cw)) (zQi D vwCl B N ad (fun (v : Int32) (cw' : Nat → va_E) => v = tf (240 * past + i) ∧ cw' = cw)) 0 0 (zA B) := by
  refine z_ofW (cc := cX4_charAt) (maxL := 2) (ret := (some .int)) (by decide) rfl (Nat.le_of_ble_eq_true rfl) ?_
  intro p e s m args below meth c C hr hnm
  refine z_lv (lv' := [(0, .ref (ad (37))), (1, .int (nI i))]) [0, 1] rfl ?_
  refine z_aload_n C dX4_charAt_0 0 rfl ?_
  refine z_get (Cn := RX4) (T := TX4) (NF := 13) (ci := 4) (v := .ref (ad (38))) C qX4_charAt_0 rfl 1 (by decide) (C.2.2.2.2.1 _ qX4_charAt_1) (fun _ h9 => h9) dX4_charAt_1 (37) (by omega) e37 rfl ?_
  refine z_sipush (v := nI 240) C dX4_charAt_4 (by decide) ?_
  refine z_aload_n C dX4_charAt_7 0 rfl ?_
  refine z_get (Cn := RX4) (T := TX4) (NF := 13) (ci := 4) (v := .int (nI (past))) C qX4_charAt_0 rfl 3 (by decide) (C.2.2.2.2.1 _ qX4_charAt_2) (fun _ h9 => h9) dX4_charAt_8 (37) (by omega) e37 rfl ?_
  refine z_imul C dX4_charAt_11 ?_
  refine z_top (y := nI (240 * past)) (pk_mul _ _) ?_
  refine z_iload_n C dX4_charAt_12 1 rfl ?_
  refine z_iadd C dX4_charAt_13 ?_
  refine z_top (y := nI (240 * past + i)) (nI_add _ _) ?_
  refine z_iald C 0 rfl dX4_charAt_14 (38) (by omega) e38 (240 * past + i) (rfl) (hi) (by decide) ?_
  exact z_iret C hr dX4_charAt_15 (⟨rfl, rfl⟩) (Nat.le_of_ble_eq_true rfl) (Nat.le_of_ble_eq_true rfl)

theorem qX4_draftOne_0 : ∀ w ∈ wsX40, w ∈ wsX4_draftOne := by decide +kernel
theorem qX4_draftOne_1 : Cond.fieldLink RX4 16 "PieceTextModel" "draft" "[I" ∈ wsX4_draftOne := by decide +kernel
theorem qX4_draftOne_2 : Cond.fieldLink RX4 38 "PieceTextModel" "drafted" "I" ∈ wsX4_draftOne := by decide +kernel
set_option maxHeartbeats 4000000 in
set_option maxRecDepth 100000 in
theorem c_M_draftOne (l : Launch) (D : va_G) (cI cR cL : ClassId) (B N : Nat) (ad : Nat → Nat) (cw : Nat → va_E) (hN : 45 < N) {th : Int32} {n : Nat} {past fut pn wn : Nat} (e37 : cw 37 = .inr (4, [.int (th), .ref (ad (38)), .ref (ad (39)), .int (nI (past)), .int (nI (fut)), .ref (ad (40)), .int (nI n), .ref (ad (41)), .int (nI (pn)), .ref (ad (42)), .int (nI (wn)), .ref (ad (43)), .ref (ad (44))])) {df : Nat → Int32} (e40 : cw 40 = .inl (cI, 240, .inl (df))) (hn : n < 240) (x : Int32) : Met l yX4_draftOne wsX4_draftOne ({ frames := 0, cells := 0, slots := 0, locals := 0 } : Room) (va_Pc [.ref (ad (37)), .int (x)] (zI D vwCl (zTy cI cR cL) B N ad cw)) (zQv D vwCl B N ad (fun (cw' : Nat → va_E) => cw' = va_up (va_up cw 40 (.inl (cI, 240, .inl (upd df n x)))) 37 (.inr (4, [.int (th), .ref (ad (38)), .ref (ad (39)), .int (nI (past)), .int (nI (fut)), .ref (ad (40)), .int (nI (n + 1)), .ref (ad (41)), .int (nI (pn)), .ref (ad (42)), .int (nI (wn)), .ref (ad (43)), .ref (ad (44))])))) 0 0 (zA B) := by
  refine z_ofW (cc := cX4_draftOne) (maxL := 2) (ret := none) (by decide) rfl (Nat.le_of_ble_eq_true rfl) ?_
  intro p e s m args below meth c C hr hnm
  refine z_lv (lv' := [(0, .ref (ad (37))), (1, .int (x))]) [0, 1] rfl ?_
  refine z_aload_n C dX4_draftOne_0 0 rfl ?_
  refine z_get (Cn := RX4) (T := TX4) (NF := 13) (ci := 4) (v := .ref (ad (40))) C qX4_draftOne_0 rfl 5 (by decide) (C.2.2.2.2.1 _ qX4_draftOne_1) (fun _ h9 => h9) dX4_draftOne_1 (37) (by omega) e37 rfl ?_
  refine z_aload_n C dX4_draftOne_4 0 rfl ?_
  refine z_get (Cn := RX4) (T := TX4) (NF := 13) (ci := 4) (v := .int (nI n)) C qX4_draftOne_0 rfl 6 (by decide) (C.2.2.2.2.1 _ qX4_draftOne_2) (fun _ h9 => h9) dX4_draftOne_5 (37) (by omega) e37 rfl ?_
  refine z_iload_n C dX4_draftOne_8 1 rfl ?_
  obtain ⟨cw1, ecw1⟩ : ∃ z : Nat → va_E, z = va_up (cw) (40) (.inl (cI, 240, .inl (upd (df) (n) ((x))))) := ⟨_, rfl⟩
  refine z_iast C 0 rfl dX4_draftOne_9 (40) (by omega) e40 (n) (rfl) (hn) (by decide) ?_
  refine z_cw ecw1.symm ?_
  have hw_2 : cw1 (37) = .inr (4, [.int (th), .ref (ad (38)), .ref (ad (39)), .int (nI (past)), .int (nI (fut)), .ref (ad (40)), .int (nI n), .ref (ad (41)), .int (nI (pn)), .ref (ad (42)), .int (nI (wn)), .ref (ad (43)), .ref (ad (44))]) := by rw [ecw1, va_up_ne _ _ (by decide)]; exact e37
  have hw_3 : cw1 (40) = .inl (cI, 240, .inl (upd (df) (n) ((x)))) := by rw [ecw1, va_up_self]
  refine z_aload_n C dX4_draftOne_10 0 rfl ?_
  refine z_dup C dX4_draftOne_11 rfl ?_
  refine z_get (Cn := RX4) (T := TX4) (NF := 13) (ci := 4) (v := .int (nI n)) C qX4_draftOne_0 rfl 6 (by decide) (C.2.2.2.2.1 _ qX4_draftOne_2) (fun _ h9 => h9) dX4_draftOne_12 (37) (by omega) hw_2 rfl ?_
  refine z_iconst (v := nI 1) C dX4_draftOne_15 (by decide) ?_
  refine z_iadd C dX4_draftOne_16 ?_
  refine z_top (y := nI (n + 1)) (nI_1 n) ?_
  obtain ⟨cw4, ecw4⟩ : ∃ z : Nat → va_E, z = va_up (cw1) (37) (.inr (4, [.int (th), .ref (ad (38)), .ref (ad (39)), .int (nI (past)), .int (nI (fut)), .ref (ad (40)), .int (nI (n + 1)), .ref (ad (41)), .int (nI (pn)), .ref (ad (42)), .int (nI (wn)), .ref (ad (43)), .ref (ad (44))])) := ⟨_, rfl⟩
  refine z_put (Cn := RX4) (T := TX4) (NF := 13) (ci := 4) (ty := .int) (v := .int (nI (n + 1))) C qX4_draftOne_0 tyX4_ok nmX4 rfl 6 (by decide) (C.2.2.2.2.1 _ qX4_draftOne_2) (fun _ h9 => h9) rfl (by decide +kernel) dX4_draftOne_17 (37) (by omega) hw_2 rfl rfl (Nat.le_of_ble_eq_true rfl) ?_
  refine z_cw ecw4.symm ?_
  have hw_5 : cw4 (37) = .inr (4, [.int (th), .ref (ad (38)), .ref (ad (39)), .int (nI (past)), .int (nI (fut)), .ref (ad (40)), .int (nI (n + 1)), .ref (ad (41)), .int (nI (pn)), .ref (ad (42)), .int (nI (wn)), .ref (ad (43)), .ref (ad (44))]) := by rw [ecw4, va_up_self]
  have hw_6 : cw4 (40) = .inl (cI, 240, .inl (upd (df) (n) ((x)))) := by rw [ecw4, va_up_ne _ _ (by decide)]; exact hw_3
  exact z_vret C hr dX4_draftOne_20 (by rw [ecw4, ecw1]) (Nat.le_of_ble_eq_true rfl) (Nat.le_of_ble_eq_true rfl)

theorem len_snoc (xs : List Int32) (x : Int32) : (xs ++ [x]).length = xs.length + 1 := by rw [List.length_append]; rfl
theorem zPart_nil (xs : List Int32) (b : Nat) : zPart xs b b = [] := by
  unfold zPart
  rw [List.drop_eq_nil_of_le (by rw [List.length_take]; omega)]
theorem zPart_next {f : Nat → Int32} {xs : List Int32} (h : zIs f xs) {b i : Nat} (hb : b ≤ i) (hi : i < xs.length) : zPart xs b (i + 1) = zPart xs b i ++ [f i] := by
  unfold zPart
  rw [take_next h hi, List.drop_append_of_le_length (by rw [List.length_take]; omega)]
theorem qX4_draftFrom_0 : ∀ w ∈ wsX40, w ∈ wsX4_draftFrom := by decide +kernel
theorem qX4_draftFrom_1 : Cond.fieldLink RX4 16 "PieceTextModel" "draft" "[I" ∈ wsX4_draftFrom := by decide +kernel
theorem qX4_draftFrom_2 : Cond.fieldLink RX4 38 "PieceTextModel" "drafted" "I" ∈ wsX4_draftFrom := by decide +kernel
set_option maxHeartbeats 4000000 in
set_option maxRecDepth 100000 in
theorem c_M_draftFrom (l : Launch) (D : va_G) (cI cR cL : ClassId) (B N : Nat) (ad : Nat → Nat) (cw : Nat → va_E) (hN : 45 < N) {th : Int32} {dr : List Int32} {past fut pn wn : Nat} (e37 : cw 37 = .inr (4, [.int (th), .ref (ad (38)), .ref (ad (39)), .int (nI (past)), .int (nI (fut)), .ref (ad (40)), .int (nI (dr.length)), .ref (ad (41)), .int (nI (pn)), .ref (ad (42)), .int (nI (wn)), .ref (ad (43)), .ref (ad (44))])) {tf df : Nat → Int32} {xs : List Int32} (e38 : cw 38 = .inl (cI, 3120, .inl (tf))) (e40 : cw 40 = .inl (cI, 240, .inl (df))) (hdr : zIs df dr) (hxs : zIs (fun i => tf (240 * past + i)) xs) (hp : past ≤ 12) {b k : Nat} (hbk : b ≤ k) (hk : k ≤ xs.length) (hx : xs.length ≤ 240) (hfit : dr.length + (k - b) ≤ 240) : Met l yX4_draftFrom wsX4_draftFrom ({ frames := 1, cells := 0, slots := 0, locals := 21 } : Room) (va_Pc [.ref (ad (37)), .int (nI b), .int (nI k)] (zI D vwCl (zTy cI cR cL) B N ad cw)) (zQv D vwCl B N ad (fun (cw' : Nat → va_E) => cw' 37 = .inr (4, [.int (th), .ref (ad (38)), .ref (ad (39)), .int (nI (past)), .int (nI (fut)), .ref (ad (40)), .int (nI ((dr ++ zPart xs b k).length)), .ref (ad (41)), .int (nI (pn)), .ref (ad (42)), .int (nI (wn)), .ref (ad (43)), .ref (ad (44))]) ∧ (∃ df', cw' 40 = .inl (cI, 240, .inl (df')) ∧ zIs df' (dr ++ zPart xs b k)) ∧ ∀ j, (j ≠ 37 ∧ j ≠ 40) → cw' j = cw j)) 0 0 (zA B) := by
  refine z_ofW (cc := cX4_draftFrom) (maxL := 4) (ret := none) (by decide) rfl (Nat.le_of_ble_eq_true rfl) ?_
  intro p e s m args below meth c C hr hnm
  refine z_lv (lv' := [(0, .ref (ad (37))), (1, .int (nI b)), (2, .int (nI k))]) [0, 1, 2] rfl ?_
  refine z_iload_n C dX4_draftFrom_0 1 rfl ?_
  refine z_istore_n (lv' := [(3, .int (nI b)), (0, .ref (ad (37))), (1, .int (nI b)), (2, .int (nI k))]) C dX4_draftFrom_1 rfl (by decide) rfl ?_
  refine z_lv (lv' := [(3, .int (nI b)), (0, .ref (ad (37))), (1, .int (nI b)), (2, .int (nI k))]) [0, 1, 2, 3] rfl ?_
  suffices loop : ∀ (mm i : Nat) (cwk : Nat → va_E), k = i + mm → b ≤ i → cwk 37 = .inr (4, [.int (th), .ref (ad (38)), .ref (ad (39)), .int (nI (past)), .int (nI (fut)), .ref (ad (40)), .int (nI ((dr ++ zPart xs b i).length)), .ref (ad (41)), .int (nI (pn)), .ref (ad (42)), .int (nI (wn)), .ref (ad (43)), .ref (ad (44))]) → (∃ df', cwk 40 = .inl (cI, 240, .inl (df')) ∧ zIs df' (dr ++ zPart xs b i)) → (∀ j, (j ≠ 37 ∧ j ≠ 40) → cwk j = cw j) → zG p l e (headSpec wsX4_draftFrom ({ frames := 1, cells := 0, slots := 0, locals := 21 } : Room)).room s m args below meth c (MQ below (zQv D vwCl B N ad (fun (cw' : Nat → va_E) => cw' 37 = .inr (4, [.int (th), .ref (ad (38)), .ref (ad (39)), .int (nI (past)), .int (nI (fut)), .ref (ad (40)), .int (nI ((dr ++ zPart xs b k).length)), .ref (ad (41)), .int (nI (pn)), .ref (ad (42)), .int (nI (wn)), .ref (ad (43)), .ref (ad (44))]) ∧ (∃ df', cw' 40 = .inl (cI, 240, .inl (df')) ∧ zIs df' (dr ++ zPart xs b k)) ∧ ∀ j, (j ≠ 37 ∧ j ≠ 40) → cw' j = cw j)) args s 0 0 (zA B)) D vwCl B 4 N ad cwk 0 0 [(3, .int (nI i)), (0, .ref (ad (37))), (1, .int (nI b)), (2, .int (nI k))] 2 [] from loop (k - b) b cw (by omega) (Nat.le_refl _) (by rw [zPart_nil, List.append_nil]; exact e37) ⟨df, e40, by rw [zPart_nil, List.append_nil]; exact hdr⟩ (fun j _ => rfl)
  intro mm
  induction mm with
  | zero =>
    intro i cwk hi hbi q1 q2 hfrm
    obtain ⟨f2, q3, q4⟩ := id q2
    have hk_1 : cwk (38) = .inl (cI, 3120, .inl (tf)) := (hfrm (38) (by omega)).trans e38
    refine z_iload_n C dX4_draftFrom_2 0 rfl ?_
    refine z_iload_n C dX4_draftFrom_3 3 rfl ?_
    refine z_icmp_ge (tgt := 37) C dX4_draftFrom_4 (by decide) (fun c2 => ?_) (fun c2 => ?_)
    · skip
      have e9 : i = k := by omega
      subst e9
      exact z_vret C hr dX4_draftFrom_37 (⟨q1, q2, hfrm⟩) (Nat.le_of_ble_eq_true rfl) (Nat.le_of_ble_eq_true rfl)
    · skip
      exact absurd (nI_le (by omega) (by omega)) c2
  | succ mm ih =>
    intro i cwk hi hbi q1 q2 hfrm
    obtain ⟨f2, q3, q4⟩ := id q2
    have hk_3 : cwk (38) = .inl (cI, 3120, .inl (tf)) := (hfrm (38) (by omega)).trans e38
    refine z_iload_n C dX4_draftFrom_2 0 rfl ?_
    refine z_iload_n C dX4_draftFrom_3 3 rfl ?_
    refine z_icmp_ge (tgt := 37) C dX4_draftFrom_4 (by decide) (fun c4 => ?_) (fun c4 => ?_)
    · skip
      exact absurd ((nI_leI (by omega) (by omega)).mp c4) (by omega)
    · skip
      have hl2 : (dr ++ zPart xs b i).length = dr.length + (i - b) := by rw [List.length_append, zPart_len (by omega)]
      have hn2 : dr ++ zPart xs b (i + 1) = dr ++ zPart xs b i ++ [tf (240 * past + i)] := by rw [zPart_next hxs hbi (by omega), List.append_assoc]
      refine z_aload_n C dX4_draftFrom_7 1 rfl ?_
      refine z_get (Cn := RX4) (T := TX4) (NF := 13) (ci := 4) (v := .ref (ad (40))) C qX4_draftFrom_0 rfl 5 (by decide) (C.2.2.2.2.1 _ qX4_draftFrom_1) (fun _ h9 => h9) dX4_draftFrom_8 (37) (by omega) q1 rfl ?_
      refine z_aload_n C dX4_draftFrom_11 1 rfl ?_
      refine z_get (Cn := RX4) (T := TX4) (NF := 13) (ci := 4) (v := .int (nI ((dr ++ zPart xs b i).length))) C qX4_draftFrom_0 rfl 6 (by decide) (C.2.2.2.2.1 _ qX4_draftFrom_2) (fun _ h9 => h9) dX4_draftFrom_12 (37) (by omega) q1 rfl ?_
      refine z_aload_n C dX4_draftFrom_15 1 rfl ?_
      refine z_iload_n C dX4_draftFrom_16 0 rfl ?_
      refine z_calli (z_runV (As := [.int (nI (i))]) (rest := [.int (nI ((dr ++ zPart xs b i).length)), .ref (ad (40))]) C (c_M_charAt l D cI cR cL B N ad cwk hN q1 hk_3 (i := i) (by omega)) (cwV 1 C.2.2.2.2.1 gX4_draftFrom_X4_charAt rfl rfl rfl (by decide +kernel) ⟨Nat.le_of_ble_eq_true rfl, Nat.le_of_ble_eq_true rfl⟩) (by omega) q1 rfl rfl rfl rfl (Nat.le_of_ble_eq_true rfl) dX4_draftFrom_17 ⟨Nat.le_of_ble_eq_true rfl, Nat.le_of_ble_eq_true rfl⟩) (fun r5 cw6 hp7 => ?_)
      refine z_cw hp7.2 ?_
      refine z_top hp7.1 ?_
      obtain ⟨cw8, ecw8⟩ : ∃ z : Nat → va_E, z = va_up (cwk) (40) (.inl (cI, 240, .inl (upd (f2) ((dr ++ zPart xs b i).length) ((tf (240 * past + i)))))) := ⟨_, rfl⟩
      refine z_iast C 0 rfl dX4_draftFrom_20 (40) (by omega) q3 ((dr ++ zPart xs b i).length) (rfl) (by omega) (by decide) ?_
      refine z_cw ecw8.symm ?_
      have hw_9 : cw8 (37) = .inr (4, [.int (th), .ref (ad (38)), .ref (ad (39)), .int (nI (past)), .int (nI (fut)), .ref (ad (40)), .int (nI ((dr ++ zPart xs b i).length)), .ref (ad (41)), .int (nI (pn)), .ref (ad (42)), .int (nI (wn)), .ref (ad (43)), .ref (ad (44))]) := by rw [ecw8, va_up_ne _ _ (by decide)]; exact q1
      have hw_10 : cw8 (40) = .inl (cI, 240, .inl (upd (f2) ((dr ++ zPart xs b i).length) ((tf (240 * past + i))))) := by rw [ecw8, va_up_self]
      have hw_11 : cw8 (38) = .inl (cI, 3120, .inl (tf)) := by rw [ecw8, va_up_ne _ _ (by decide)]; exact hk_3
      refine z_aload_n C dX4_draftFrom_21 1 rfl ?_
      refine z_dup C dX4_draftFrom_22 rfl ?_
      refine z_get (Cn := RX4) (T := TX4) (NF := 13) (ci := 4) (v := .int (nI ((dr ++ zPart xs b i).length))) C qX4_draftFrom_0 rfl 6 (by decide) (C.2.2.2.2.1 _ qX4_draftFrom_2) (fun _ h9 => h9) dX4_draftFrom_23 (37) (by omega) hw_9 rfl ?_
      refine z_iconst (v := nI 1) C dX4_draftFrom_26 (by decide) ?_
      refine z_iadd C dX4_draftFrom_27 ?_
      refine z_top (y := nI ((dr ++ zPart xs b i).length + 1)) (nI_1 _) ?_
      obtain ⟨cw12, ecw12⟩ : ∃ z : Nat → va_E, z = va_up (cw8) (37) (.inr (4, [.int (th), .ref (ad (38)), .ref (ad (39)), .int (nI (past)), .int (nI (fut)), .ref (ad (40)), .int (nI ((dr ++ zPart xs b i).length + 1)), .ref (ad (41)), .int (nI (pn)), .ref (ad (42)), .int (nI (wn)), .ref (ad (43)), .ref (ad (44))])) := ⟨_, rfl⟩
      refine z_put (Cn := RX4) (T := TX4) (NF := 13) (ci := 4) (ty := .int) (v := .int (nI ((dr ++ zPart xs b i).length + 1))) C qX4_draftFrom_0 tyX4_ok nmX4 rfl 6 (by decide) (C.2.2.2.2.1 _ qX4_draftFrom_2) (fun _ h9 => h9) rfl (by decide +kernel) dX4_draftFrom_28 (37) (by omega) hw_9 rfl rfl (Nat.le_of_ble_eq_true rfl) ?_
      refine z_cw ecw12.symm ?_
      have hw_13 : cw12 (37) = .inr (4, [.int (th), .ref (ad (38)), .ref (ad (39)), .int (nI (past)), .int (nI (fut)), .ref (ad (40)), .int (nI ((dr ++ zPart xs b i).length + 1)), .ref (ad (41)), .int (nI (pn)), .ref (ad (42)), .int (nI (wn)), .ref (ad (43)), .ref (ad (44))]) := by rw [ecw12, va_up_self]
      have hw_14 : cw12 (40) = .inl (cI, 240, .inl (upd (f2) ((dr ++ zPart xs b i).length) ((tf (240 * past + i))))) := by rw [ecw12, va_up_ne _ _ (by decide)]; exact hw_10
      have hw_15 : cw12 (38) = .inl (cI, 3120, .inl (tf)) := by rw [ecw12, va_up_ne _ _ (by decide)]; exact hw_11
      refine z_iinc (x := nI (i + 1)) (lv' := [(3, .int (nI (i + 1))), (0, .ref (ad (37))), (1, .int (nI b)), (2, .int (nI k))]) C dX4_draftFrom_31 0 rfl (nI_1 i) (by decide) rfl ?_
      refine z_goto (tgt := 2) C dX4_draftFrom_34 (by decide) ?_
      refine z_lv (lv' := [(3, .int (nI (i + 1))), (0, .ref (ad (37))), (1, .int (nI b)), (2, .int (nI k))]) [0, 1, 2, 3] rfl ?_
      exact ih (i + 1) _ (by omega) (by omega) (by rw [hw_13, hn2, len_snoc]) ⟨_, hw_14, by rw [hn2]; exact zIs_add q4 _⟩ (fun j hj => ((fun j hj => by rw [ecw12, va_up_ne _ _ (by omega)]; rw [ecw8, va_up_ne _ _ (by omega)]) : ∀ j, (j ≠ 37 ∧ j ≠ 40) → _ = cwk j) j hj |>.trans (hfrm j hj))

