section Z4
variable {p : Program} {l : Launch} {e : Env} {R : Room} {s : State} {m : MethodId} {args : Array Value} {below : List Frame} {meth : Method} {c : Code} {cells slots : Nat} {Q : State → Prop}
variable {D : va_G} {cl : List vw_C} {tys : List (ClassId × FieldType)} {B N nL : Nat} {ad : Nat → Nat} {cw : Nat → va_E} {lv : List (Nat × Value)} {pc : Nat} {st : List Value} {cc : ByteArray} {own : String} {Ts : List Cond}
theorem z_dup2 {va vb : Value} (C : zC p s m args meth c cc nL own Ts D cl tys B) (d : decode cc pc = .ok (.dup2, 1)) (hva : va.category = 1) (hvb : vb.category = 1) (kk : zG p l e R s m args below meth c Q D cl B nL N ad cw cells slots lv (pc + 1) (va :: vb :: va :: vb :: st)) : zG p l e R s m args below meth c Q D cl B nL N ad cw cells slots lv pc (va :: vb :: st) := fun H locs ls hW hS hl => lv_dup2_11 C.1 C.2.1 d hva hvb (kk H locs ls hW hS hl)
theorem z_tableIn {dflt lo hi : Int} {offs : Array Int} {len : Nat} {x : Int32} {off : Int} {tgt : Nat} (C : zC p s m args meth c cc nL own Ts D cl tys B) (d : decode cc pc = .ok (.tableswitch dflt lo hi offs, len)) (h1 : ¬ x.toInt < lo) (h2 : ¬ hi < x.toInt) (ho : offs[(x.toInt - lo).toNat]? = some off) (ht : (pc : Int) + off = (tgt : Int)) (kk : zG p l e R s m args below meth c Q D cl B nL N ad cw cells slots lv tgt st) : zG p l e R s m args below meth c Q D cl B nL N ad cw cells slots lv pc (.int x :: st) := fun H locs ls hW hS hl => lv_tableIn C.1 C.2.1 d h1 h2 ho ht (kk H locs ls hW hS hl)
theorem z_tableOut {dflt lo hi : Int} {offs : Array Int} {len : Nat} {x : Int32} {tgt : Nat} (C : zC p s m args meth c cc nL own Ts D cl tys B) (d : decode cc pc = .ok (.tableswitch dflt lo hi offs, len)) (h : x.toInt < lo ∨ hi < x.toInt) (ht : (pc : Int) + dflt = (tgt : Int)) (kk : zG p l e R s m args below meth c Q D cl B nL N ad cw cells slots lv tgt st) : zG p l e R s m args below meth c Q D cl B nL N ad cw cells slots lv pc (.int x :: st) := fun H locs ls hW hS hl => lv_tableOut C.1 C.2.1 d h ht (kk H locs ls hW hS hl)
end Z4

set_option maxHeartbeats 4000000 in
set_option maxRecDepth 100000 in
theorem c_fill (l : Launch) (D : va_G) (cI cR cL : ClassId) (B N : Nat) (ad : Nat → Nat) (cw : Nat → va_E) {a n : Nat} {f : Nat → Int32} (ha9 : a < N) (hn9 : n < 2 ^ 30) (ea : cw a = .inl (cI, n, .inl (f))) (x : Int32) : Met l yJ7_fill_53178 wsJ7_fill_53178 ({ frames := 0, cells := 0, slots := 0, locals := 0 } : Room) (va_Pc [.ref (ad (a)), .int (x)] (zI D vwCl (zTy cI cR cL) B N ad cw)) (zQv D vwCl B N ad (fun (cw' : Nat → va_E) => (∃ f', cw' a = .inl (cI, n, .inl (f')) ∧ ∀ i, i < n → f' i = x) ∧ ∀ j, (j ≠ a) → cw' j = cw j)) 0 0 (zA B) := by
  refine z_ofW (cc := cJ7_fill_53178) (maxL := 4) (ret := none) (by decide) rfl (Nat.le_of_ble_eq_true rfl) ?_
  intro p e s m args below meth c C hr hnm
  refine z_lv (lv' := [(0, .ref (ad (a))), (1, .int (x))]) [0, 1] rfl ?_
  refine z_iconst (v := nI 0) C dJ7_fill_53178_0 (by decide) ?_
  refine z_istore_n (lv' := [(2, .int (nI 0)), (0, .ref (ad (a))), (1, .int (x))]) C dJ7_fill_53178_1 rfl (by decide) rfl ?_
  refine z_aload_n C dJ7_fill_53178_2 1 rfl ?_
  refine z_alen (v := nI (n)) C 0 rfl dJ7_fill_53178_3 (a) ha9 ea rfl ?_
  refine z_istore_n (lv' := [(3, .int (nI (n))), (2, .int (nI 0)), (0, .ref (ad (a))), (1, .int (x))]) C dJ7_fill_53178_4 rfl (by decide) rfl ?_
  refine z_lv (lv' := [(2, .int (nI 0)), (3, .int (nI n)), (0, .ref (ad (a))), (1, .int (x))]) [1, 0, 2, 3] rfl ?_
  suffices loop : ∀ (mm i : Nat) (cwk : Nat → va_E), n = i + mm → (∃ f', cwk a = .inl (cI, n, .inl (f')) ∧ ∀ j, j < i → f' j = x) → (∀ j, (j ≠ a) → cwk j = cw j) → zG p l e (headSpec wsJ7_fill_53178 ({ frames := 0, cells := 0, slots := 0, locals := 0 } : Room)).room s m args below meth c (MQ below (zQv D vwCl B N ad (fun (cw' : Nat → va_E) => (∃ f', cw' a = .inl (cI, n, .inl (f')) ∧ ∀ i, i < n → f' i = x) ∧ ∀ j, (j ≠ a) → cw' j = cw j)) args s 0 0 (zA B)) D vwCl B 4 N ad cwk 0 0 [(2, .int (nI i)), (3, .int (nI n)), (0, .ref (ad (a))), (1, .int (x))] 5 [] from loop n 0 cw (by omega) ⟨f, ea, fun j hj => absurd hj (by omega)⟩ (fun j _ => rfl)
  intro mm
  induction mm with
  | zero =>
    intro i cwk hi hf hfrm
    obtain ⟨f2, e2, hx2⟩ := id hf
    refine z_iload_n C dJ7_fill_53178_5 0 rfl ?_
    refine z_iload_n C dJ7_fill_53178_6 1 rfl ?_
    refine z_icmp_ge (tgt := 20) C dJ7_fill_53178_7 (by decide) (fun c1 => ?_) (fun c1 => ?_)
    · skip
      exact z_vret C hr dJ7_fill_53178_20 (⟨⟨f2, e2, fun j hj => hx2 j (by omega)⟩, hfrm⟩) (Nat.le_of_ble_eq_true rfl) (Nat.le_of_ble_eq_true rfl)
    · skip
      exact absurd (nI_le (by omega) (by omega)) c1
  | succ mm ih =>
    intro i cwk hi hf hfrm
    obtain ⟨f2, e2, hx2⟩ := id hf
    refine z_iload_n C dJ7_fill_53178_5 0 rfl ?_
    refine z_iload_n C dJ7_fill_53178_6 1 rfl ?_
    refine z_icmp_ge (tgt := 20) C dJ7_fill_53178_7 (by decide) (fun c2 => ?_) (fun c2 => ?_)
    · skip
      exact absurd ((nI_leI (by omega) (by omega)).mp c2) (by omega)
    · skip
      refine z_aload_n C dJ7_fill_53178_10 2 rfl ?_
      refine z_iload_n C dJ7_fill_53178_11 0 rfl ?_
      refine z_iload_n C dJ7_fill_53178_12 3 rfl ?_
      obtain ⟨cw3, ecw3⟩ : ∃ z : Nat → va_E, z = va_up (cwk) (a) (.inl (cI, n, .inl (upd (f2) (i) ((x))))) := ⟨_, rfl⟩
      refine z_iast C 0 rfl dJ7_fill_53178_13 (a) ha9 e2 (i) (rfl) (by omega) (by omega) ?_
      refine z_cw ecw3.symm ?_
      have hw_4 : cw3 (a) = .inl (cI, n, .inl (upd (f2) (i) ((x)))) := by rw [ecw3, va_up_self]
      refine z_iinc (x := nI (i + 1)) (lv' := [(2, .int (nI (i + 1))), (3, .int (nI n)), (0, .ref (ad (a))), (1, .int (x))]) C dJ7_fill_53178_14 0 rfl (nI_1 i) (by decide) rfl ?_
      refine z_goto (tgt := 5) C dJ7_fill_53178_17 (by decide) ?_
      refine z_lv (lv' := [(2, .int (nI (i + 1))), (3, .int (nI n)), (0, .ref (ad (a))), (1, .int (x))]) [0, 1, 2, 3] rfl ?_
      exact ih (i + 1) _ (by omega) ⟨_, hw_4, fun j hj => by rcases Nat.lt_succ_iff_lt_or_eq.mp hj with h | h; rw [pk_un (by omega)]; exact hx2 j h; rw [h]; exact pk_us⟩ (fun j hj => by rw [ecw3, va_up_ne _ _ hj]; exact hfrm j hj)

def dif (xs : List Int32) : Nat → Nat
  | 0 => 0
  | k + 1 => dif xs k + (if xs.getD k 0 ∈ xs.take k then 0 else 1)
theorem dif_le (xs : List Int32) (k : Nat) : dif xs k ≤ k := by
  induction k with
  | zero => exact Nat.le_refl _
  | succ k ih => unfold dif; split <;> omega
theorem take_next {f : Nat → Int32} {xs : List Int32} (h : zIs f xs) {i : Nat} (hi : i < xs.length) : xs.take (i + 1) = xs.take i ++ [f i] := by
  rw [List.take_succ, h i hi]
  rfl
def zCnt (sf : Nat → Int32) (xs : List Int32) (i : Nat) : Prop := ∀ u, u < 256 → sf u = nI ((xs.take i).count (nI u))
theorem zCnt_next {sf f : Nat → Int32} {xs : List Int32} (h : zIs f xs) {i u : Nat} (hi : i < xs.length) (hu : u < 256) (hf : f i = nI u) (hc : zCnt sf xs i) : zCnt (upd sf u (nI ((xs.take i).count (nI u) + 1))) xs (i + 1) := by
  intro k hk
  rw [take_next h hi, List.count_append, hf]
  by_cases hku : k = u
  · subst hku
    rw [pk_us, List.count_singleton_self]
  · rw [pk_un hku, hc k hk]
    have hne : ¬ nI u = nI k := fun e => hku ((nI_eq (by omega) (by omega)).mp e).symm
    have h0 : List.count (nI k) [nI u] = 0 := List.count_eq_zero.mpr (fun hm => hne (List.mem_singleton.mp hm).symm)
    rw [h0, Nat.add_zero]
theorem qX3_differentCharacters_0 : ∀ w ∈ wsX30, w ∈ wsX3_differentCharacters := by decide +kernel
theorem qX3_differentCharacters_1 : Cond.fieldLink RX3 10 "PieceText" "history" "LPieceText$History;" ∈ wsX3_differentCharacters := by decide +kernel
theorem qX3_differentCharacters_2 : Cond.fieldLink RX3 35 "PieceText" "seen" "[I" ∈ wsX3_differentCharacters := by decide +kernel
set_option maxHeartbeats 4000000 in
set_option maxRecDepth 100000 in
theorem c_PT_different (l : Launch) (D : va_G) (cI cR cL : ClassId) (B N : Nat) (ad : Nat → Nat) (cw : Nat → va_E) (hN : 45 < N) {past fut : Nat} {hs : Nat → List Int32} {pat ws dr : List Int32} (hX : zRX cI cR ad cw past fut hs pat ws dr) : Met l yX3_differentCharacters wsX3_differentCharacters ({ frames := 1, cells := 0, slots := 0, locals := 23 } : Room) (va_Pc [.ref (ad (0))] (zI D vwCl (zTy cI cR cL) B N ad cw)) (zQi D vwCl B N ad (fun (v : Int32) (cw' : Nat → va_E) => v = nI (dif (hs past) (hs past).length) ∧ (∃ nf, cw' 36 = .inl (cI, 256, .inl (nf))) ∧ ∀ j, (j ≠ 36) → cw' j = cw j)) 0 0 (zA B) := by
  obtain ⟨x0, ⟨now, hH⟩, ⟨fr, ht, hfr⟩, ⟨p1, p2, pf, p3, p4⟩, ⟨w1, w2, ⟨wf, w3, w4⟩, sf, w5⟩, ⟨d1, d2, g, d3, d4⟩, nf, x6⟩ := id hX
  obtain ⟨g1, g2, g3, g4, g5, g6⟩ := id hH
  obtain ⟨t1, t2, f, t3, t4⟩ := zHist_now hH
  refine z_ofW (cc := cX3_differentCharacters) (maxL := 5) (ret := (some .int)) (by decide) rfl (Nat.le_of_ble_eq_true rfl) ?_
  intro p e s m args below meth c C hr hnm
  refine z_lv (lv' := [(0, .ref (ad (0)))]) [0] rfl ?_
  refine z_aload_n C dX3_differentCharacters_0 0 rfl ?_
  refine z_get (Cn := RX3) (T := TX3) (NF := 5) (ci := 3) (v := .ref (ad (1))) C qX3_differentCharacters_0 rfl 0 (by decide) (C.2.2.2.2.1 _ qX3_differentCharacters_1) (fun _ h9 => h9) dX3_differentCharacters_1 (0) (by omega) x0 rfl ?_
  refine z_callr (z_runV (As := []) (rest := []) C (c_Hist_present l D cI cR cL B N ad cw (by omega) g3 (by omega) ht hfr g1) (cwV 0 C.2.2.2.2.1 gX3_differentCharacters_X0_present rfl rfl rfl (by decide +kernel) ⟨Nat.le_of_ble_eq_true rfl, Nat.le_of_ble_eq_true rfl⟩) (by omega) g3 rfl rfl rfl rfl (Nat.le_of_ble_eq_true rfl) dX3_differentCharacters_4 ⟨Nat.le_of_ble_eq_true rfl, Nat.le_of_ble_eq_true rfl⟩) (fun r1 cw2 hp3 => ?_)
  obtain ⟨rfl, hp3c⟩ := hp3
  refine z_cw hp3c ?_
  refine z_astore_n (lv' := [(1, .ref (ad (3 + 2 * now))), (0, .ref (ad (0)))]) C dX3_differentCharacters_7 rfl (by decide) rfl ?_
  refine z_aload_n C dX3_differentCharacters_8 1 rfl ?_
  refine z_get (Cn := RX3) (T := TX3) (NF := 5) (ci := 3) (v := .ref (ad (36))) C qX3_differentCharacters_0 rfl 4 (by decide) (C.2.2.2.2.1 _ qX3_differentCharacters_2) (fun _ h9 => h9) dX3_differentCharacters_9 (0) (by omega) x0 rfl ?_
  refine z_iconst (v := nI 0) C dX3_differentCharacters_12 (by decide) ?_
  refine z_callv (z_runS (As := [.ref (ad (36)), .int (nI 0)]) (rest := []) C (c_fill l D cI cR cL B N ad cw (by omega) (by decide) x6 (nI 0)) (va_cwS 2 C.2.2.2.2.1 gX3_differentCharacters_J7_fill_53178 rfl rfl rfl (by decide +kernel) ⟨Nat.le_of_ble_eq_true rfl, Nat.le_of_ble_eq_true rfl⟩) rfl rfl (Nat.le_of_ble_eq_true rfl) dX3_differentCharacters_13 ⟨Nat.le_of_ble_eq_true rfl, Nat.le_of_ble_eq_true rfl⟩) (fun cw4 hp5 => ?_)
  obtain ⟨⟨fz, ez, hz⟩, hfz⟩ := hp5
  refine z_iconst (v := nI 0) C dX3_differentCharacters_16 (by decide) ?_
  refine z_istore_n (lv' := [(2, .int (nI 0)), (1, .ref (ad (3 + 2 * now))), (0, .ref (ad (0)))]) C dX3_differentCharacters_17 rfl (by decide) rfl ?_
  refine z_iconst (v := nI 0) C dX3_differentCharacters_18 (by decide) ?_
  refine z_istore_n (lv' := [(3, .int (nI 0)), (2, .int (nI 0)), (1, .ref (ad (3 + 2 * now))), (0, .ref (ad (0)))]) C dX3_differentCharacters_19 rfl (by decide) rfl ?_
  refine z_lv (lv' := [(3, .int (nI 0)), (2, .int (nI 0)), (0, .ref (ad (0))), (1, .ref (ad (3 + 2 * now)))]) [0, 1, 3, 2] rfl ?_
  suffices loop : ∀ (mm i : Nat) (cwk : Nat → va_E), (hs past).length = i + mm → (∃ f', cwk 36 = .inl (cI, 256, .inl (f')) ∧ zCnt f' (hs past) i) → (∀ j, (j ≠ 36) → cwk j = cw j) → zG p l e (headSpec wsX3_differentCharacters ({ frames := 1, cells := 0, slots := 0, locals := 23 } : Room)).room s m args below meth c (MQ below (zQi D vwCl B N ad (fun (v : Int32) (cw' : Nat → va_E) => v = nI (dif (hs past) (hs past).length) ∧ (∃ nf, cw' 36 = .inl (cI, 256, .inl (nf))) ∧ ∀ j, (j ≠ 36) → cw' j = cw j)) args s 0 0 (zA B)) D vwCl B 5 N ad cwk 0 0 [(3, .int (nI i)), (2, .int (nI (dif (hs past) i))), (0, .ref (ad (0))), (1, .ref (ad (3 + 2 * now)))] 20 [] from loop (hs past).length 0 cw4 (by omega) ⟨fz, ez, fun u hu => by rw [hz u hu]; rfl⟩ hfz
  intro mm
  induction mm with
  | zero =>
    intro i cwk hi hf hfrm
    obtain ⟨f2, e2, hx2⟩ := id hf
    have hk_6 : cwk (0) = .inr (3, [.ref (ad (1)), .ref (ad (29)), .ref (ad (31)), .ref (ad (34)), .ref (ad (36))]) := (hfrm (0) (by omega)).trans x0
    have hk_7 : cwk (1) = .inr (0, [.ref (ad (2)), .int (nI now), .int (nI past), .int (nI fut)]) := (hfrm (1) (by omega)).trans g3
    have hk_8 : cwk (2) = .inl (cR, 13, .inr (.inr (.inr (.inr (fr))))) := (hfrm (2) (by omega)).trans ht
    have hk_9 : cwk (3 + 2 * now) = .inr (2, [.ref (ad (4 + 2 * now)), .int (nI ((hs past).length))]) := (hfrm (3 + 2 * now) (by omega)).trans t1
    have hk_10 : cwk (4 + 2 * now) = .inl (cI, 240, .inl (f)) := (hfrm (4 + 2 * now) (by omega)).trans t3
    refine z_iload_n C dX3_differentCharacters_20 0 rfl ?_
    refine z_aload_n C dX3_differentCharacters_21 3 rfl ?_
    refine z_calli (z_runV (As := []) (rest := [.int (nI i)]) C (c_Row_size l D cI cR cL B N ad cwk (by omega) hk_9) (cwV 0 C.2.2.2.2.1 gX3_differentCharacters_X2_size rfl rfl rfl (by decide +kernel) ⟨Nat.le_of_ble_eq_true rfl, Nat.le_of_ble_eq_true rfl⟩) (by omega) hk_9 rfl rfl rfl rfl (Nat.le_of_ble_eq_true rfl) dX3_differentCharacters_22 ⟨Nat.le_of_ble_eq_true rfl, Nat.le_of_ble_eq_true rfl⟩) (fun r11 cw12 hp13 => ?_)
    refine z_cw hp13.2 ?_
    refine z_top hp13.1 ?_
    refine z_icmp_ge (tgt := 65) C dX3_differentCharacters_25 (by decide) (fun c14 => ?_) (fun c14 => ?_)
    · skip
      refine z_iload_n C dX3_differentCharacters_65 1 rfl ?_
      exact z_iret C hr dX3_differentCharacters_66 (⟨by rw [show (hs past).length = i by omega], ⟨f2, e2⟩, hfrm⟩) (Nat.le_of_ble_eq_true rfl) (Nat.le_of_ble_eq_true rfl)
    · skip
      exact absurd (nI_le (by omega) (by omega)) c14
  | succ mm ih =>
    intro i cwk hi hf hfrm
    obtain ⟨f2, e2, hx2⟩ := id hf
    have hk_15 : cwk (0) = .inr (3, [.ref (ad (1)), .ref (ad (29)), .ref (ad (31)), .ref (ad (34)), .ref (ad (36))]) := (hfrm (0) (by omega)).trans x0
    have hk_16 : cwk (1) = .inr (0, [.ref (ad (2)), .int (nI now), .int (nI past), .int (nI fut)]) := (hfrm (1) (by omega)).trans g3
    have hk_17 : cwk (2) = .inl (cR, 13, .inr (.inr (.inr (.inr (fr))))) := (hfrm (2) (by omega)).trans ht
    have hk_18 : cwk (3 + 2 * now) = .inr (2, [.ref (ad (4 + 2 * now)), .int (nI ((hs past).length))]) := (hfrm (3 + 2 * now) (by omega)).trans t1
    have hk_19 : cwk (4 + 2 * now) = .inl (cI, 240, .inl (f)) := (hfrm (4 + 2 * now) (by omega)).trans t3
    refine z_iload_n C dX3_differentCharacters_20 0 rfl ?_
    refine z_aload_n C dX3_differentCharacters_21 3 rfl ?_
    refine z_calli (z_runV (As := []) (rest := [.int (nI i)]) C (c_Row_size l D cI cR cL B N ad cwk (by omega) hk_18) (cwV 0 C.2.2.2.2.1 gX3_differentCharacters_X2_size rfl rfl rfl (by decide +kernel) ⟨Nat.le_of_ble_eq_true rfl, Nat.le_of_ble_eq_true rfl⟩) (by omega) hk_18 rfl rfl rfl rfl (Nat.le_of_ble_eq_true rfl) dX3_differentCharacters_22 ⟨Nat.le_of_ble_eq_true rfl, Nat.le_of_ble_eq_true rfl⟩) (fun r20 cw21 hp22 => ?_)
    refine z_cw hp22.2 ?_
    refine z_top hp22.1 ?_
    refine z_icmp_ge (tgt := 65) C dX3_differentCharacters_25 (by decide) (fun c23 => ?_) (fun c23 => ?_)
    · skip
      exact absurd ((nI_leI (by omega) (by omega)).mp c23) (by omega)
    · skip
      obtain ⟨u, hu, hfu⟩ := g6 past (by omega) _ (zIs_get t4 (show i < _ by omega))
      have hd : (hs past).getD i 0 = nI u := (zIs_getD t4 (by omega)).trans hfu
      have hcl : (List.take i (hs past)).count (nI u) ≤ 240 := Nat.le_trans List.count_le_length (by rw [List.length_take]; omega)
      refine z_aload_n C dX3_differentCharacters_28 3 rfl ?_
      refine z_iload_n C dX3_differentCharacters_29 0 rfl ?_
      refine z_calli (z_runV (As := [.int (nI (i))]) (rest := []) C (c_Row_get l D cI cR cL B N ad cwk (by omega) hk_18 (by decide) (by omega) hk_19 (j := i) (by omega)) (cwV 1 C.2.2.2.2.1 gX3_differentCharacters_X2_get rfl rfl rfl (by decide +kernel) ⟨Nat.le_of_ble_eq_true rfl, Nat.le_of_ble_eq_true rfl⟩) (by omega) hk_18 rfl rfl rfl rfl (Nat.le_of_ble_eq_true rfl) dX3_differentCharacters_30 ⟨Nat.le_of_ble_eq_true rfl, Nat.le_of_ble_eq_true rfl⟩) (fun r24 cw25 hp26 => ?_)
      refine z_cw hp26.2 ?_
      refine z_top hp26.1 ?_
      refine z_top (y := nI u) (hfu) ?_
      refine z_istore (lv' := [(4, .int (nI u)), (3, .int (nI i)), (2, .int (nI (dif (hs past) i))), (0, .ref (ad (0))), (1, .ref (ad (3 + 2 * now)))]) C dX3_differentCharacters_33 (by decide) rfl ?_
      refine z_aload_n C dX3_differentCharacters_35 3 rfl ?_
      refine z_get (Cn := RX3) (T := TX3) (NF := 5) (ci := 3) (v := .ref (ad (36))) C qX3_differentCharacters_0 rfl 4 (by decide) (C.2.2.2.2.1 _ qX3_differentCharacters_2) (fun _ h9 => h9) dX3_differentCharacters_36 (0) (by omega) hk_15 rfl ?_
      refine z_iload C dX3_differentCharacters_39 0 rfl ?_
      refine z_iald C 0 rfl dX3_differentCharacters_41 (36) (by omega) e2 (u) (rfl) (hu) (by decide) ?_
      refine z_top (y := nI ((List.take i (hs past)).count (nI u))) (hx2 u hu) ?_
      refine z_if_ne (tgt := 48) C dX3_differentCharacters_42 (by decide) (fun c27 => ?_) (fun c27 => ?_)
      · skip
        have h0 : nI u ∈ List.take i (hs past) := by apply Classical.byContradiction; intro h9; exact c27 (by rw [List.count_eq_zero.mpr h9]; decide)
        refine z_lv (lv' := [(4, .int (nI u)), (3, .int (nI i)), (2, .int (nI (dif (hs past) i))), (0, .ref (ad (0))), (1, .ref (ad (3 + 2 * now)))]) [0, 1, 2, 3, 4] rfl ?_
        refine z_aload_n C dX3_differentCharacters_48 3 rfl ?_
        refine z_get (Cn := RX3) (T := TX3) (NF := 5) (ci := 3) (v := .ref (ad (36))) C qX3_differentCharacters_0 rfl 4 (by decide) (C.2.2.2.2.1 _ qX3_differentCharacters_2) (fun _ h9 => h9) dX3_differentCharacters_49 (0) (by omega) hk_15 rfl ?_
        refine z_iload C dX3_differentCharacters_52 0 rfl ?_
        refine z_dup2 C dX3_differentCharacters_54 rfl rfl ?_
        refine z_iald C 0 rfl dX3_differentCharacters_55 (36) (by omega) e2 (u) (rfl) (hu) (by decide) ?_
        refine z_top (y := nI ((List.take i (hs past)).count (nI u))) (hx2 u hu) ?_
        refine z_iconst (v := nI 1) C dX3_differentCharacters_56 (by decide) ?_
        refine z_iadd C dX3_differentCharacters_57 ?_
        refine z_top (y := nI ((List.take i (hs past)).count (nI u) + 1)) (nI_1 _) ?_
        obtain ⟨cw28, ecw28⟩ : ∃ z : Nat → va_E, z = va_up (cwk) (36) (.inl (cI, 256, .inl (upd (f2) (u) ((nI ((List.take i (hs past)).count (nI u) + 1)))))) := ⟨_, rfl⟩
        refine z_iast C 0 rfl dX3_differentCharacters_58 (36) (by omega) e2 (u) (rfl) (hu) (by decide) ?_
        refine z_cw ecw28.symm ?_
        have hw_29 : cw28 (0) = .inr (3, [.ref (ad (1)), .ref (ad (29)), .ref (ad (31)), .ref (ad (34)), .ref (ad (36))]) := by rw [ecw28, va_up_ne _ _ (by decide)]; exact hk_15
        have hw_30 : cw28 (1) = .inr (0, [.ref (ad (2)), .int (nI now), .int (nI past), .int (nI fut)]) := by rw [ecw28, va_up_ne _ _ (by decide)]; exact hk_16
        have hw_31 : cw28 (2) = .inl (cR, 13, .inr (.inr (.inr (.inr (fr))))) := by rw [ecw28, va_up_ne _ _ (by decide)]; exact hk_17
        have hw_32 : cw28 (3 + 2 * now) = .inr (2, [.ref (ad (4 + 2 * now)), .int (nI ((hs past).length))]) := by rw [ecw28, va_up_ne _ _ (by omega)]; exact hk_18
        have hw_33 : cw28 (4 + 2 * now) = .inl (cI, 240, .inl (f)) := by rw [ecw28, va_up_ne _ _ (by omega)]; exact hk_19
        have hw_34 : cw28 (36) = .inl (cI, 256, .inl (upd (f2) (u) ((nI ((List.take i (hs past)).count (nI u) + 1))))) := by rw [ecw28, va_up_self]
        refine z_iinc (x := nI (i + 1)) (lv' := [(3, .int (nI (i + 1))), (4, .int (nI u)), (2, .int (nI (dif (hs past) i))), (0, .ref (ad (0))), (1, .ref (ad (3 + 2 * now)))]) C dX3_differentCharacters_59 1 rfl (nI_1 i) (by decide) rfl ?_
        refine z_goto (tgt := 20) C dX3_differentCharacters_62 (by decide) ?_
        have e9 : dif (hs past) (i + 1) = dif (hs past) i := by rw [dif, hd, if_pos h0, Nat.add_zero]
        have ihx := ih (i + 1) cw28 (by omega) ⟨_, hw_34, zCnt_next t4 (by omega) hu hfu hx2⟩ (fun j hj => by rw [ecw28, va_up_ne _ _ hj]; exact hfrm j hj)
        rw [e9] at ihx
        refine z_lv (lv' := [(3, .int (nI (i + 1))), (2, .int (nI (dif (hs past) i))), (0, .ref (ad (0))), (1, .ref (ad (3 + 2 * now)))]) [0, 2, 3, 4] rfl ?_
        exact ihx
      · skip
        have h0 : ¬ nI u ∈ List.take i (hs past) := List.count_eq_zero.mp ((nI_eq (by omega) (by omega)).mp c27)
        refine z_iinc (x := nI (dif (hs past) (i + 1))) (lv' := [(2, .int (nI (dif (hs past) (i + 1)))), (4, .int (nI u)), (3, .int (nI i)), (0, .ref (ad (0))), (1, .ref (ad (3 + 2 * now)))]) C dX3_differentCharacters_45 2 rfl (by rw [dif, hd, if_neg h0]; exact nI_1 _) (by decide) rfl ?_
        refine z_aload_n C dX3_differentCharacters_48 3 rfl ?_
        refine z_get (Cn := RX3) (T := TX3) (NF := 5) (ci := 3) (v := .ref (ad (36))) C qX3_differentCharacters_0 rfl 4 (by decide) (C.2.2.2.2.1 _ qX3_differentCharacters_2) (fun _ h9 => h9) dX3_differentCharacters_49 (0) (by omega) hk_15 rfl ?_
        refine z_iload C dX3_differentCharacters_52 1 rfl ?_
        refine z_dup2 C dX3_differentCharacters_54 rfl rfl ?_
        refine z_iald C 0 rfl dX3_differentCharacters_55 (36) (by omega) e2 (u) (rfl) (hu) (by decide) ?_
        refine z_top (y := nI ((List.take i (hs past)).count (nI u))) (hx2 u hu) ?_
        refine z_iconst (v := nI 1) C dX3_differentCharacters_56 (by decide) ?_
        refine z_iadd C dX3_differentCharacters_57 ?_
        refine z_top (y := nI ((List.take i (hs past)).count (nI u) + 1)) (nI_1 _) ?_
        obtain ⟨cw35, ecw35⟩ : ∃ z : Nat → va_E, z = va_up (cwk) (36) (.inl (cI, 256, .inl (upd (f2) (u) ((nI ((List.take i (hs past)).count (nI u) + 1)))))) := ⟨_, rfl⟩
        refine z_iast C 0 rfl dX3_differentCharacters_58 (36) (by omega) e2 (u) (rfl) (hu) (by decide) ?_
        refine z_cw ecw35.symm ?_
        have hw_36 : cw35 (0) = .inr (3, [.ref (ad (1)), .ref (ad (29)), .ref (ad (31)), .ref (ad (34)), .ref (ad (36))]) := by rw [ecw35, va_up_ne _ _ (by decide)]; exact hk_15
        have hw_37 : cw35 (1) = .inr (0, [.ref (ad (2)), .int (nI now), .int (nI past), .int (nI fut)]) := by rw [ecw35, va_up_ne _ _ (by decide)]; exact hk_16
        have hw_38 : cw35 (2) = .inl (cR, 13, .inr (.inr (.inr (.inr (fr))))) := by rw [ecw35, va_up_ne _ _ (by decide)]; exact hk_17
        have hw_39 : cw35 (3 + 2 * now) = .inr (2, [.ref (ad (4 + 2 * now)), .int (nI ((hs past).length))]) := by rw [ecw35, va_up_ne _ _ (by omega)]; exact hk_18
        have hw_40 : cw35 (4 + 2 * now) = .inl (cI, 240, .inl (f)) := by rw [ecw35, va_up_ne _ _ (by omega)]; exact hk_19
        have hw_41 : cw35 (36) = .inl (cI, 256, .inl (upd (f2) (u) ((nI ((List.take i (hs past)).count (nI u) + 1))))) := by rw [ecw35, va_up_self]
        refine z_iinc (x := nI (i + 1)) (lv' := [(3, .int (nI (i + 1))), (2, .int (nI (dif (hs past) (i + 1)))), (4, .int (nI u)), (0, .ref (ad (0))), (1, .ref (ad (3 + 2 * now)))]) C dX3_differentCharacters_59 2 rfl (nI_1 i) (by decide) rfl ?_
        refine z_goto (tgt := 20) C dX3_differentCharacters_62 (by decide) ?_
        have ihx := ih (i + 1) cw35 (by omega) ⟨_, hw_41, zCnt_next t4 (by omega) hu hfu hx2⟩ (fun j hj => by rw [ecw35, va_up_ne _ _ hj]; exact hfrm j hj)
        refine z_lv (lv' := [(3, .int (nI (i + 1))), (2, .int (nI (dif (hs past) (i + 1)))), (0, .ref (ad (0))), (1, .ref (ad (3 + 2 * now)))]) [0, 1, 3, 4] rfl ?_
        exact ihx

def sTold (x : Int32) (past fut : Nat) (hs : Nat → List Int32) (pat ws : List Int32) : Int32 :=
  if x = nI 0 then nI (hs past).length else if x = nI 1 then nI past else if x = nI 2 then nI fut else if x = nI 3 then nI pat.length else if x = nI 4 then nI ws.length else if x = nI 5 then nI (dif (hs past) (hs past).length) else -1
theorem sTold_out {x : Int32} {past fut : Nat} {hs : Nat → List Int32} {pat ws : List Int32} (h : ∀ j, j < 6 → ¬ x = nI j) : sTold x past fut hs pat ws = -1 := by
  unfold sTold
  rw [if_neg (h 0 (by decide)), if_neg (h 1 (by decide)), if_neg (h 2 (by decide)), if_neg (h 3 (by decide)), if_neg (h 4 (by decide)), if_neg (h 5 (by decide))]
theorem zRX_seen {cI cR : ClassId} {ad : Nat → Nat} {cw cw' : Nat → va_E} {past fut : Nat} {hs : Nat → List Int32} {pat ws dr : List Int32} (h : zRX cI cR ad cw past fut hs pat ws dr) (hk : ∀ j, (j ≠ 36) → cw' j = cw j) (hd : ∃ nf, cw' 36 = .inl (cI, 256, .inl (nf))) : zRX cI cR ad cw' past fut hs pat ws dr := by
  obtain ⟨h0, ⟨now, h1⟩, h2, h3, h4, h5, nf, h6⟩ := h
  exact ⟨(hk 0 (by omega)).trans h0, ⟨now, zHist_kept h1 (fun j _ _ => hk j (by omega))⟩, zTexts_kept h2 (hk 2 (by omega)), zRow_kept h3 (hk _ (by omega)) (hk _ (by omega)), zWords_kept h4 (hk _ (by omega)) (hk _ (by omega)) (hk _ (by omega)), zRow_kept h5 (hk _ (by omega)) (hk _ (by omega)), hd⟩
theorem qX3_told_0 : ∀ w ∈ wsX30, w ∈ wsX3_told := by decide +kernel
theorem qX3_told_1 : Cond.fieldLink RX3 10 "PieceText" "history" "LPieceText$History;" ∈ wsX3_told := by decide +kernel
theorem qX3_told_2 : Cond.fieldLink RX3 21 "PieceText" "sought" "LPieceText$Row;" ∈ wsX3_told := by decide +kernel
theorem qX3_told_3 : Cond.fieldLink RX3 28 "PieceText" "written" "LPieceText$Phrases;" ∈ wsX3_told := by decide +kernel
set_option maxHeartbeats 4000000 in
set_option maxRecDepth 100000 in
theorem c_PT_told (l : Launch) (D : va_G) (cI cR cL : ClassId) (B N : Nat) (ad : Nat → Nat) (cw : Nat → va_E) (hN : 45 < N) {past fut : Nat} {hs : Nat → List Int32} {pat ws dr : List Int32} (hX : zRX cI cR ad cw past fut hs pat ws dr) (x : Int32) : Met l yX3_told wsX3_told ({ frames := 2, cells := 0, slots := 0, locals := 47 } : Room) (va_Pc [.ref (ad (0)), .int (x)] (zI D vwCl (zTy cI cR cL) B N ad cw)) (zQi D vwCl B N ad (fun (v : Int32) (cw' : Nat → va_E) => v = sTold x past fut hs pat ws ∧ zRX cI cR ad cw' past fut hs pat ws dr ∧ ∀ j, 37 ≤ j → cw' j = cw j)) 0 0 (zA B) := by
  obtain ⟨x0, ⟨now, hH⟩, ⟨fr, ht, hfr⟩, ⟨p1, p2, pf, p3, p4⟩, ⟨w1, w2, ⟨wf, w3, w4⟩, sf, w5⟩, ⟨d1, d2, g, d3, d4⟩, nf, x6⟩ := id hX
  obtain ⟨g1, g2, g3, g4, g5, g6⟩ := id hH
  obtain ⟨t1, t2, f, t3, t4⟩ := zHist_now hH
  refine z_ofW (cc := cX3_told) (maxL := 2) (ret := (some .int)) (by decide) rfl (Nat.le_of_ble_eq_true rfl) ?_
  intro p e s m args below meth c C hr hnm
  refine z_lv (lv' := [(0, .ref (ad (0))), (1, .int (x))]) [0, 1] rfl ?_
  refine z_iload_n C dX3_told_0 1 rfl ?_
  rcases pk_ix x (n := 6) (by omega) with hx | hx | ⟨j, hj, rfl⟩
  · refine z_tableOut (tgt := 88) C dX3_told_1 (Or.inl (by rw [Int32.lt_iff_toInt_lt] at hx; exact hx)) (by decide) ?_
    refine z_iconst (v := -1) C dX3_told_88 (by decide) ?_
    exact z_iret C hr dX3_told_89 (⟨(sTold_out (fun j hj e => by rw [e] at hx; exact nI_pos (by omega) hx)).symm, hX, fun _ _ => rfl⟩) (Nat.le_of_ble_eq_true rfl) (Nat.le_of_ble_eq_true rfl)
  · refine z_tableOut (tgt := 88) C dX3_told_1 (Or.inr (by rw [Int32.le_iff_toInt_le] at hx; have h9 : (nI 6).toInt = 6 := (by decide); omega)) (by decide) ?_
    refine z_iconst (v := -1) C dX3_told_88 (by decide) ?_
    exact z_iret C hr dX3_told_89 (⟨(sTold_out (fun j hj e => by rw [e] at hx; have h9 := (nI_leI (by omega) (by omega)).mp hx; omega)).symm, hX, fun _ _ => rfl⟩) (Nat.le_of_ble_eq_true rfl) (Nat.le_of_ble_eq_true rfl)
  · obtain rfl | rfl | rfl | rfl | rfl | rfl : j = 0 ∨ j = 1 ∨ j = 2 ∨ j = 3 ∨ j = 4 ∨ j = 5 := by omega
    · refine z_tableIn (tgt := 40) C dX3_told_1 (by decide) (by decide) rfl (by decide) ?_
      refine z_aload_n C dX3_told_40 0 rfl ?_
      refine z_get (Cn := RX3) (T := TX3) (NF := 5) (ci := 3) (v := .ref (ad (1))) C qX3_told_0 rfl 0 (by decide) (C.2.2.2.2.1 _ qX3_told_1) (fun _ h9 => h9) dX3_told_41 (0) (by omega) x0 rfl ?_
      refine z_callr (z_runV (As := []) (rest := []) C (c_Hist_present l D cI cR cL B N ad cw (by omega) g3 (by omega) ht hfr g1) (cwV 0 C.2.2.2.2.1 gX3_told_X0_present rfl rfl rfl (by decide +kernel) ⟨Nat.le_of_ble_eq_true rfl, Nat.le_of_ble_eq_true rfl⟩) (by omega) g3 rfl rfl rfl rfl (Nat.le_of_ble_eq_true rfl) dX3_told_44 ⟨Nat.le_of_ble_eq_true rfl, Nat.le_of_ble_eq_true rfl⟩) (fun r1 cw2 hp3 => ?_)
      obtain ⟨rfl, hp3c⟩ := hp3
      refine z_cw hp3c ?_
      refine z_calli (z_runV (As := []) (rest := []) C (c_Row_size l D cI cR cL B N ad cw (by omega) t1) (cwV 0 C.2.2.2.2.1 gX3_told_X2_size rfl rfl rfl (by decide +kernel) ⟨Nat.le_of_ble_eq_true rfl, Nat.le_of_ble_eq_true rfl⟩) (by omega) t1 rfl rfl rfl rfl (Nat.le_of_ble_eq_true rfl) dX3_told_47 ⟨Nat.le_of_ble_eq_true rfl, Nat.le_of_ble_eq_true rfl⟩) (fun r4 cw5 hp6 => ?_)
      refine z_cw hp6.2 ?_
      refine z_top hp6.1 ?_
      exact z_iret C hr dX3_told_50 (⟨by unfold sTold; rw [if_pos rfl], hX, fun _ _ => rfl⟩) (Nat.le_of_ble_eq_true rfl) (Nat.le_of_ble_eq_true rfl)
    · refine z_tableIn (tgt := 51) C dX3_told_1 (by decide) (by decide) rfl (by decide) ?_
      refine z_aload_n C dX3_told_51 0 rfl ?_
      refine z_get (Cn := RX3) (T := TX3) (NF := 5) (ci := 3) (v := .ref (ad (1))) C qX3_told_0 rfl 0 (by decide) (C.2.2.2.2.1 _ qX3_told_1) (fun _ h9 => h9) dX3_told_52 (0) (by omega) x0 rfl ?_
      refine z_calli (z_runV (As := []) (rest := []) C (c_Hist_pastSize l D cI cR cL B N ad cw (by omega) g3) (cwV 0 C.2.2.2.2.1 gX3_told_X0_pastSize rfl rfl rfl (by decide +kernel) ⟨Nat.le_of_ble_eq_true rfl, Nat.le_of_ble_eq_true rfl⟩) (by omega) g3 rfl rfl rfl rfl (Nat.le_of_ble_eq_true rfl) dX3_told_55 ⟨Nat.le_of_ble_eq_true rfl, Nat.le_of_ble_eq_true rfl⟩) (fun r7 cw8 hp9 => ?_)
      refine z_cw hp9.2 ?_
      refine z_top hp9.1 ?_
      exact z_iret C hr dX3_told_58 (⟨by unfold sTold; rw [if_neg (by decide), if_pos rfl], hX, fun _ _ => rfl⟩) (Nat.le_of_ble_eq_true rfl) (Nat.le_of_ble_eq_true rfl)
    · refine z_tableIn (tgt := 59) C dX3_told_1 (by decide) (by decide) rfl (by decide) ?_
      refine z_aload_n C dX3_told_59 0 rfl ?_
      refine z_get (Cn := RX3) (T := TX3) (NF := 5) (ci := 3) (v := .ref (ad (1))) C qX3_told_0 rfl 0 (by decide) (C.2.2.2.2.1 _ qX3_told_1) (fun _ h9 => h9) dX3_told_60 (0) (by omega) x0 rfl ?_
      refine z_calli (z_runV (As := []) (rest := []) C (c_Hist_futureSize l D cI cR cL B N ad cw (by omega) g3) (cwV 0 C.2.2.2.2.1 gX3_told_X0_futureSize rfl rfl rfl (by decide +kernel) ⟨Nat.le_of_ble_eq_true rfl, Nat.le_of_ble_eq_true rfl⟩) (by omega) g3 rfl rfl rfl rfl (Nat.le_of_ble_eq_true rfl) dX3_told_63 ⟨Nat.le_of_ble_eq_true rfl, Nat.le_of_ble_eq_true rfl⟩) (fun r10 cw11 hp12 => ?_)
      refine z_cw hp12.2 ?_
      refine z_top hp12.1 ?_
      exact z_iret C hr dX3_told_66 (⟨by unfold sTold; rw [if_neg (by decide), if_neg (by decide), if_pos rfl], hX, fun _ _ => rfl⟩) (Nat.le_of_ble_eq_true rfl) (Nat.le_of_ble_eq_true rfl)
    · refine z_tableIn (tgt := 67) C dX3_told_1 (by decide) (by decide) rfl (by decide) ?_
      refine z_aload_n C dX3_told_67 0 rfl ?_
      refine z_get (Cn := RX3) (T := TX3) (NF := 5) (ci := 3) (v := .ref (ad (29))) C qX3_told_0 rfl 1 (by decide) (C.2.2.2.2.1 _ qX3_told_2) (fun _ h9 => h9) dX3_told_68 (0) (by omega) x0 rfl ?_
      refine z_calli (z_runV (As := []) (rest := []) C (c_Row_size l D cI cR cL B N ad cw (by omega) p1) (cwV 0 C.2.2.2.2.1 gX3_told_X2_size rfl rfl rfl (by decide +kernel) ⟨Nat.le_of_ble_eq_true rfl, Nat.le_of_ble_eq_true rfl⟩) (by omega) p1 rfl rfl rfl rfl (Nat.le_of_ble_eq_true rfl) dX3_told_71 ⟨Nat.le_of_ble_eq_true rfl, Nat.le_of_ble_eq_true rfl⟩) (fun r13 cw14 hp15 => ?_)
      refine z_cw hp15.2 ?_
      refine z_top hp15.1 ?_
      exact z_iret C hr dX3_told_74 (⟨by unfold sTold; rw [if_neg (by decide), if_neg (by decide), if_neg (by decide), if_pos rfl], hX, fun _ _ => rfl⟩) (Nat.le_of_ble_eq_true rfl) (Nat.le_of_ble_eq_true rfl)
    · refine z_tableIn (tgt := 75) C dX3_told_1 (by decide) (by decide) rfl (by decide) ?_
      refine z_aload_n C dX3_told_75 0 rfl ?_
      refine z_get (Cn := RX3) (T := TX3) (NF := 5) (ci := 3) (v := .ref (ad (31))) C qX3_told_0 rfl 2 (by decide) (C.2.2.2.2.1 _ qX3_told_3) (fun _ h9 => h9) dX3_told_76 (0) (by omega) x0 rfl ?_
      refine z_calli (z_runV (As := []) (rest := []) C (c_Phr_size l D cI cR cL B N ad cw (by omega) w1) (cwV 0 C.2.2.2.2.1 gX3_told_X1_size rfl rfl rfl (by decide +kernel) ⟨Nat.le_of_ble_eq_true rfl, Nat.le_of_ble_eq_true rfl⟩) (by omega) w1 rfl rfl rfl rfl (Nat.le_of_ble_eq_true rfl) dX3_told_79 ⟨Nat.le_of_ble_eq_true rfl, Nat.le_of_ble_eq_true rfl⟩) (fun r16 cw17 hp18 => ?_)
      refine z_cw hp18.2 ?_
      refine z_top hp18.1 ?_
      exact z_iret C hr dX3_told_82 (⟨by unfold sTold; rw [if_neg (by decide), if_neg (by decide), if_neg (by decide), if_neg (by decide), if_pos rfl], hX, fun _ _ => rfl⟩) (Nat.le_of_ble_eq_true rfl) (Nat.le_of_ble_eq_true rfl)
    · refine z_tableIn (tgt := 83) C dX3_told_1 (by decide) (by decide) rfl (by decide) ?_
      refine z_aload_n C dX3_told_83 0 rfl ?_
      refine z_calli (z_runV (As := []) (rest := []) C (c_PT_different l D cI cR cL B N ad cw hN hX) (cwV 0 C.2.2.2.2.1 gX3_told_X3_differentCharacters rfl rfl rfl (by decide +kernel) ⟨Nat.le_of_ble_eq_true rfl, Nat.le_of_ble_eq_true rfl⟩) (by omega) x0 rfl rfl rfl rfl (Nat.le_of_ble_eq_true rfl) dX3_told_84 ⟨Nat.le_of_ble_eq_true rfl, Nat.le_of_ble_eq_true rfl⟩) (fun r19 cw20 hp21 => ?_)
      exact z_iret C hr dX3_told_87 (⟨by rw [hp21.1]; unfold sTold; rw [if_neg (by decide), if_neg (by decide), if_neg (by decide), if_neg (by decide), if_neg (by decide), if_pos rfl], zRX_seen hX hp21.2.2 hp21.2.1, fun j hj => hp21.2.2 j (by omega)⟩) (Nat.le_of_ble_eq_true rfl) (Nat.le_of_ble_eq_true rfl)

