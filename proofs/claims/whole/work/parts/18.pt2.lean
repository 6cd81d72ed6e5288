theorem zRX_pat {cI cR : ClassId} {ad : Nat → Nat} {cw cw' : Nat → va_E} {past fut : Nat} {hs : Nat → List Int32} {pat pat' ws dr : List Int32} (h : zRX cI cR ad cw past fut hs pat ws dr) (hk : ∀ j, (j ≠ 29 ∧ j ≠ 30) → cw' j = cw j) (hd : zRow cI ad cw' 29 30 16 pat') : zRX cI cR ad cw' past fut hs pat' ws dr := by
  obtain ⟨h0, ⟨now, h1⟩, h2, h3, h4, h5, nf, h6⟩ := h
  exact ⟨(hk 0 (by omega)).trans h0, ⟨now, zHist_kept h1 (fun j _ _ => hk j (by omega))⟩, zTexts_kept h2 (hk 2 (by omega)), hd, zWords_kept h4 (hk _ (by omega)) (hk _ (by omega)) (hk _ (by omega)), zRow_kept h5 (hk _ (by omega)) (hk _ (by omega)), nf, (hk 36 (by omega)).trans h6⟩
theorem zRX_words {cI cR : ClassId} {ad : Nat → Nat} {cw cw' : Nat → va_E} {past fut : Nat} {hs : Nat → List Int32} {pat ws ws' dr : List Int32} (h : zRX cI cR ad cw past fut hs pat ws dr) (hk : ∀ j, (j ≠ 31 ∧ j ≠ 32 ∧ j ≠ 33) → cw' j = cw j) (hd : zWords cI ad cw' ws') : zRX cI cR ad cw' past fut hs pat ws' dr := by
  obtain ⟨h0, ⟨now, h1⟩, h2, h3, h4, h5, nf, h6⟩ := h
  exact ⟨(hk 0 (by omega)).trans h0, ⟨now, zHist_kept h1 (fun j _ _ => hk j (by omega))⟩, zTexts_kept h2 (hk 2 (by omega)), zRow_kept h3 (hk _ (by omega)) (hk _ (by omega)), hd, zRow_kept h5 (hk _ (by omega)) (hk _ (by omega)), nf, (hk 36 (by omega)).trans h6⟩
theorem zIs_set {f : Nat → Int32} {xs : List Int32} (h : zIs f xs) (k : Nat) (x : Int32) : zIs (upd f k x) (xs.set k x) := by
  intro i hi
  rw [List.length_set] at hi
  by_cases h1 : i = k
  · subst h1
    rw [List.getElem?_set_self hi, pk_us]
  · rw [List.getElem?_set_ne (Ne.symm h1), h i hi, pk_un h1]
theorem zHist_forget {cI : ClassId} {ad : Nat → Nat} {cw cw' : Nat → va_E} {now past fut : Nat} {hs : Nat → List Int32} (h : zHist cI ad cw now past fut hs)
    (h1 : cw' 1 = .inr (0, [.ref (ad (2)), .int (nI now), .int (nI 0), .int (nI 0)])) (h2 : cw' (3 + 2 * now) = .inr (2, [.ref (ad (4 + 2 * now)), .int (nI 0)])) (hk : ∀ j, (j ≠ 1 ∧ j ≠ 3 + 2 * now) → cw' j = cw j) : zHist cI ad cw' now 0 0 (fun _ => []) := by
  obtain ⟨g1, g2, g3, g4, g5, g6⟩ := h
  have hr : zRow cI ad cw' (3 + 2 * now) (4 + 2 * now) 240 [] := by
    obtain ⟨xs, e1, e2, f, e3, e4⟩ := g5 now g1
    exact ⟨h2, Nat.zero_le _, f, (hk _ (by omega)).trans e3, zIs_nil f⟩
  refine ⟨g1, by omega, h1, fun j hj => ?_, fun i hi => ?_, fun j hj => zCh_nil⟩
  · have e : (now + 13 - 0 + j) % 13 = now := by omega
    rw [e]
    exact hr
  · by_cases hne : i = now
    · rw [hne]; exact ⟨[], hr⟩
    · exact (g5 i hi).imp fun xs hx => zRow_kept hx (hk _ (by omega)) (hk _ (by omega))
theorem qX3_at_0 : ∀ w ∈ wsX30, w ∈ wsX3_at := by decide +kernel
theorem qX3_at_1 : Cond.fieldLink RX3 10 "PieceText" "history" "LPieceText$History;" ∈ wsX3_at := by decide +kernel
theorem qX3_at_2 : Cond.classLink RX3 74 "java/lang/IndexOutOfBoundsException" ∈ wsX3_at := by decide +kernel
theorem qX3_at_3 : Cond.initialized "java/lang/IndexOutOfBoundsException" ∈ wsX3_at := by decide +kernel
set_option maxHeartbeats 4000000 in
set_option maxRecDepth 100000 in
theorem c_PT_at (l : Launch) (D : va_G) (cI cR cL : ClassId) (B N : Nat) (ad : Nat → Nat) (cw : Nat → va_E) (hl8 : l.stackTraces = false) (hN : 45 < N) {past fut : Nat} {hs : Nat → List Int32} {pat ws dr : List Int32} (hX : zRX cI cR ad cw past fut hs pat ws dr) (x : Int32) : vx_Met l yX3_at wsX3_at ({ frames := 6, cells := 1, slots := 6, locals := 95 } : Room) (va_Pc [.ref (ad (0)), .int (x)] (zI D vwCl (zTy cI cR cL) B N ad cw)) (zQi D vwCl B N ad (fun (v : Int32) (cw' : Nat → va_E) => ∃ q, q < (hs past).length ∧ x = nI q ∧ (hs past)[q]? = some v ∧ cw' = cw)) (zXC D vwCl B N ad cw (fun E : String => E = xIO ∧ ¬ (∃ q, q < (hs past).length ∧ x = nI q))) 1 6 (zA B) := by
  obtain ⟨x0, ⟨now, hH⟩, ⟨fr, ht, hfr⟩, ⟨p1, p2, pf, p3, p4⟩, ⟨w1, w2, ⟨wf, w3, w4⟩, sf, w5⟩, ⟨d1, d2, g, d3, d4⟩, nf, x6⟩ := id hX
  obtain ⟨g1, g2, g3, g4, g5, g6⟩ := id hH
  obtain ⟨t1, t2, f, t3, t4⟩ := zHist_now hH
  refine z_ofX (cc := cX3_at) (maxL := 3) (ret := (some .int)) (by decide) rfl (Nat.le_of_ble_eq_true rfl) ?_
  intro p e s m args below meth c C hr h0
  refine z_lv (lv' := [(0, .ref (ad (0))), (1, .int (x))]) [0, 1] rfl ?_
  refine z_aload_n C dX3_at_0 0 rfl ?_
  refine z_get (Cn := RX3) (T := TX3) (NF := 5) (ci := 3) (v := .ref (ad (1))) C qX3_at_0 rfl 0 (by decide) (C.2.2.2.2.1 _ qX3_at_1) (fun _ h9 => h9) dX3_at_1 (0) (by omega) x0 rfl ?_
  refine z_callr (z_runV (As := []) (rest := []) C (c_Hist_present l D cI cR cL B N ad cw (by omega) g3 (by omega) ht hfr g1) (cwV 0 C.2.2.2.2.1 gX3_at_X0_present rfl rfl rfl (by decide +kernel) ⟨Nat.le_of_ble_eq_true rfl, Nat.le_of_ble_eq_true rfl⟩) (by omega) g3 rfl rfl rfl rfl (Nat.le_of_ble_eq_true rfl) dX3_at_4 ⟨Nat.le_of_ble_eq_true rfl, Nat.le_of_ble_eq_true rfl⟩) (fun r1 cw2 hp3 => ?_)
  obtain ⟨rfl, hp3c⟩ := hp3
  refine z_cw hp3c ?_
  refine z_astore_n (lv' := [(2, .ref (ad (3 + 2 * now))), (0, .ref (ad (0))), (1, .int (x))]) C dX3_at_7 rfl (by decide) rfl ?_
  refine z_iload_n C dX3_at_8 2 rfl ?_
  refine z_if_lt (tgt := 20) C dX3_at_9 (by decide) (fun c4 => ?_) (fun c4 => ?_)
  · skip
    exact z_throw (cls := xIO) (names := xNames) C hl8 h0 rfl (by decide) (by decide) (C.2.2.2.2.1 _ qX3_at_2) (C.2.2.2.2.1 _ qX3_at_3) (show (76, "no such character") ∈ zStrs by decide +kernel) (fun w h => List.mem_cons_of_mem _ (List.mem_append_right _ h)) zng_IO zgd_IO dX3_at_20 dX3_at_23 dX3_at_24 dX3_at_26 dX3_at_29 (Nat.le_of_ble_eq_true rfl) (Nat.le_of_ble_eq_true rfl) (Nat.le_of_ble_eq_true rfl) (Nat.le_of_ble_eq_true rfl) (⟨rfl, fun ⟨q, h1, h2⟩ => by rw [h2] at c4; exact nI_pos (by omega) c4⟩) (Nat.le_of_ble_eq_true rfl) (Nat.le_of_ble_eq_true rfl)
  · skip
    obtain ⟨u, hu, rfl⟩ := nI_of c4
    refine z_iload_n C dX3_at_12 2 rfl ?_
    refine z_aload_n C dX3_at_13 0 rfl ?_
    refine z_calli (z_runV (As := []) (rest := [.int (nI u)]) C (c_Row_size l D cI cR cL B N ad cw (by omega) t1) (cwV 0 C.2.2.2.2.1 gX3_at_X2_size rfl rfl rfl (by decide +kernel) ⟨Nat.le_of_ble_eq_true rfl, Nat.le_of_ble_eq_true rfl⟩) (by omega) t1 rfl rfl rfl rfl (Nat.le_of_ble_eq_true rfl) dX3_at_14 ⟨Nat.le_of_ble_eq_true rfl, Nat.le_of_ble_eq_true rfl⟩) (fun r5 cw6 hp7 => ?_)
    refine z_cw hp7.2 ?_
    refine z_top hp7.1 ?_
    refine z_icmp_lt (tgt := 30) C dX3_at_17 (by decide) (fun c8 => ?_) (fun c8 => ?_)
    · skip
      have hlt : u < (hs past).length := (nI_ltI hu (by omega)).mp c8
      refine z_aload_n C dX3_at_30 0 rfl ?_
      refine z_iload_n C dX3_at_31 2 rfl ?_
      refine z_calli (z_runV (As := [.int (nI (u))]) (rest := []) C (c_Row_get l D cI cR cL B N ad cw (by omega) t1 (by decide) (by omega) t3 (j := u) (by omega)) (cwV 1 C.2.2.2.2.1 gX3_at_X2_get rfl rfl rfl (by decide +kernel) ⟨Nat.le_of_ble_eq_true rfl, Nat.le_of_ble_eq_true rfl⟩) (by omega) t1 rfl rfl rfl rfl (Nat.le_of_ble_eq_true rfl) dX3_at_32 ⟨Nat.le_of_ble_eq_true rfl, Nat.le_of_ble_eq_true rfl⟩) (fun r9 cw10 hp11 => ?_)
      refine z_cw hp11.2 ?_
      refine z_top hp11.1 ?_
      exact z_xiret C hr dX3_at_35 (⟨u, hlt, rfl, t4 u hlt, rfl⟩) (Nat.le_of_ble_eq_true rfl) (Nat.le_of_ble_eq_true rfl)
    · skip
      exact z_throw (cls := xIO) (names := xNames) C hl8 h0 rfl (by decide) (by decide) (C.2.2.2.2.1 _ qX3_at_2) (C.2.2.2.2.1 _ qX3_at_3) (show (76, "no such character") ∈ zStrs by decide +kernel) (fun w h => List.mem_cons_of_mem _ (List.mem_append_right _ h)) zng_IO zgd_IO dX3_at_20 dX3_at_23 dX3_at_24 dX3_at_26 dX3_at_29 (Nat.le_of_ble_eq_true rfl) (Nat.le_of_ble_eq_true rfl) (Nat.le_of_ble_eq_true rfl) (Nat.le_of_ble_eq_true rfl) (⟨rfl, fun ⟨q, h1, h2⟩ => c8 (by rw [h2]; exact nI_lt h1 (by omega))⟩) (Nat.le_of_ble_eq_true rfl) (Nat.le_of_ble_eq_true rfl)

theorem qX3_undo_0 : ∀ w ∈ wsX30, w ∈ wsX3_undo := by decide +kernel
theorem qX3_undo_1 : Cond.fieldLink RX3 10 "PieceText" "history" "LPieceText$History;" ∈ wsX3_undo := by decide +kernel
theorem qX3_undo_2 : Cond.classLink RX3 88 "java/lang/IllegalStateException" ∈ wsX3_undo := by decide +kernel
theorem qX3_undo_3 : Cond.initialized "java/lang/IllegalStateException" ∈ wsX3_undo := by decide +kernel
set_option maxHeartbeats 4000000 in
set_option maxRecDepth 100000 in
theorem c_PT_undo (l : Launch) (D : va_G) (cI cR cL : ClassId) (B N : Nat) (ad : Nat → Nat) (cw : Nat → va_E) (hl8 : l.stackTraces = false) (hN : 45 < N) {past fut : Nat} {hs : Nat → List Int32} {pat ws dr : List Int32} (hX : zRX cI cR ad cw past fut hs pat ws dr) : vx_Met l yX3_undo wsX3_undo ({ frames := 6, cells := 1, slots := 6, locals := 95 } : Room) (va_Pc [.ref (ad (0))] (zI D vwCl (zTy cI cR cL) B N ad cw)) (zQi D vwCl B N ad (fun (v : Int32) (cw' : Nat → va_E) => ∃ pv, past = pv + 1 ∧ v = nI (hs pv).length ∧ zRX cI cR ad cw' pv (fut + 1) hs pat ws dr ∧ ∀ j, 37 ≤ j → cw' j = cw j)) (zXC D vwCl B N ad cw (fun E : String => E = xIS ∧ past = 0)) 1 6 (zA B) := by
  obtain ⟨x0, ⟨now, hH⟩, ⟨fr, ht, hfr⟩, ⟨p1, p2, pf, p3, p4⟩, ⟨w1, w2, ⟨wf, w3, w4⟩, sf, w5⟩, ⟨d1, d2, g, d3, d4⟩, nf, x6⟩ := id hX
  obtain ⟨g1, g2, g3, g4, g5, g6⟩ := id hH
  obtain ⟨t1, t2, f, t3, t4⟩ := zHist_now hH
  refine z_ofX (cc := cX3_undo) (maxL := 1) (ret := (some .int)) (by decide) rfl (Nat.le_of_ble_eq_true rfl) ?_
  intro p e s m args below meth c C hr h0
  refine z_lv (lv' := [(0, .ref (ad (0)))]) [0] rfl ?_
  refine z_aload_n C dX3_undo_0 0 rfl ?_
  refine z_get (Cn := RX3) (T := TX3) (NF := 5) (ci := 3) (v := .ref (ad (1))) C qX3_undo_0 rfl 0 (by decide) (C.2.2.2.2.1 _ qX3_undo_1) (fun _ h9 => h9) dX3_undo_1 (0) (by omega) x0 rfl ?_
  refine z_calli (z_runV (As := []) (rest := []) C (c_Hist_pastSize l D cI cR cL B N ad cw (by omega) g3) (cwV 0 C.2.2.2.2.1 gX3_undo_X0_pastSize rfl rfl rfl (by decide +kernel) ⟨Nat.le_of_ble_eq_true rfl, Nat.le_of_ble_eq_true rfl⟩) (by omega) g3 rfl rfl rfl rfl (Nat.le_of_ble_eq_true rfl) dX3_undo_4 ⟨Nat.le_of_ble_eq_true rfl, Nat.le_of_ble_eq_true rfl⟩) (fun r1 cw2 hp3 => ?_)
  refine z_cw hp3.2 ?_
  refine z_top hp3.1 ?_
  refine z_if_ne (tgt := 20) C dX3_undo_7 (by decide) (fun c4 => ?_) (fun c4 => ?_)
  · skip
    obtain ⟨pv, rfl⟩ : ∃ z, past = z + 1 := Nat.exists_eq_succ_of_ne_zero (fun h9 => c4 (by rw [h9]; decide))
    refine z_aload_n C dX3_undo_20 0 rfl ?_
    refine z_get (Cn := RX3) (T := TX3) (NF := 5) (ci := 3) (v := .ref (ad (1))) C qX3_undo_0 rfl 0 (by decide) (C.2.2.2.2.1 _ qX3_undo_1) (fun _ h9 => h9) dX3_undo_21 (0) (by omega) x0 rfl ?_
    refine z_callv (z_runV (As := []) (rest := []) C (c_Hist_stepBack l D cI cR cL B N ad cw (by omega) g3 g1) (cwV 0 C.2.2.2.2.1 gX3_undo_X0_stepBack rfl rfl rfl (by decide +kernel) ⟨Nat.le_of_ble_eq_true rfl, Nat.le_of_ble_eq_true rfl⟩) (by omega) g3 rfl rfl rfl rfl (Nat.le_of_ble_eq_true rfl) dX3_undo_24 ⟨Nat.le_of_ble_eq_true rfl, Nat.le_of_ble_eq_true rfl⟩) (fun cw5 hp6 => ?_)
    have hw_7 : cw5 (0) = .inr (3, [.ref (ad (1)), .ref (ad (29)), .ref (ad (31)), .ref (ad (34)), .ref (ad (36))]) := by rw [hp6.2 (0) (by omega)]; exact x0
    have hw_8 : cw5 (1) = .inr (0, [.ref (ad (2)), .int (nI ((now + 12) % 13)), .int (nI (pv)), .int (nI (fut + 1))]) := hp6.1
    have hw_9 : cw5 (2) = .inl (cR, 13, .inr (.inr (.inr (.inr (fr))))) := by rw [hp6.2 (2) (by omega)]; exact ht
    have hH2 := zHist_back hH hp6.1 hp6.2
    refine z_aload_n C dX3_undo_27 0 rfl ?_
    refine z_get (Cn := RX3) (T := TX3) (NF := 5) (ci := 3) (v := .ref (ad (1))) C qX3_undo_0 rfl 0 (by decide) (C.2.2.2.2.1 _ qX3_undo_1) (fun _ h9 => h9) dX3_undo_28 (0) (by omega) hw_7 rfl ?_
    obtain ⟨k1, k2, kf, k3, k4⟩ := zHist_now hH2
    have kn := hH2.1
    refine z_callr (z_runV (As := []) (rest := []) C (c_Hist_present l D cI cR cL B N ad cw5 (by omega) hw_8 (by omega) hw_9 hfr kn) (cwV 0 C.2.2.2.2.1 gX3_undo_X0_present rfl rfl rfl (by decide +kernel) ⟨Nat.le_of_ble_eq_true rfl, Nat.le_of_ble_eq_true rfl⟩) (by omega) hw_8 rfl rfl rfl rfl (Nat.le_of_ble_eq_true rfl) dX3_undo_31 ⟨Nat.le_of_ble_eq_true rfl, Nat.le_of_ble_eq_true rfl⟩) (fun r10 cw11 hp12 => ?_)
    obtain ⟨rfl, hp12c⟩ := hp12
    refine z_cw hp12c ?_
    refine z_calli (z_runV (As := []) (rest := []) C (c_Row_size l D cI cR cL B N ad cw5 (by omega) k1) (cwV 0 C.2.2.2.2.1 gX3_undo_X2_size rfl rfl rfl (by decide +kernel) ⟨Nat.le_of_ble_eq_true rfl, Nat.le_of_ble_eq_true rfl⟩) (by omega) k1 rfl rfl rfl rfl (Nat.le_of_ble_eq_true rfl) dX3_undo_34 ⟨Nat.le_of_ble_eq_true rfl, Nat.le_of_ble_eq_true rfl⟩) (fun r13 cw14 hp15 => ?_)
    refine z_cw hp15.2 ?_
    refine z_top hp15.1 ?_
    exact z_xiret C hr dX3_undo_37 (⟨pv, rfl, rfl, zRX_hist hX (fun j hj => hp6.2 j (by omega)) hH2, fun j hj => hp6.2 j (by omega)⟩) (Nat.le_of_ble_eq_true rfl) (Nat.le_of_ble_eq_true rfl)
  · skip
    exact z_throw (cls := xIS) (names := xNames) C hl8 h0 rfl (by decide) (by decide) (C.2.2.2.2.1 _ qX3_undo_2) (C.2.2.2.2.1 _ qX3_undo_3) (show (90, "the past has no action") ∈ zStrs by decide +kernel) (fun w h => List.mem_cons_of_mem _ (List.mem_append_right _ h)) zng_IS zgd_IS dX3_undo_10 dX3_undo_13 dX3_undo_14 dX3_undo_16 dX3_undo_19 (Nat.le_of_ble_eq_true rfl) (Nat.le_of_ble_eq_true rfl) (Nat.le_of_ble_eq_true rfl) (Nat.le_of_ble_eq_true rfl) (⟨rfl, (nI_eq (by omega) (by omega)).mp c4⟩) (Nat.le_of_ble_eq_true rfl) (Nat.le_of_ble_eq_true rfl)

theorem qX3_redo_0 : ∀ w ∈ wsX30, w ∈ wsX3_redo := by decide +kernel
theorem qX3_redo_1 : Cond.fieldLink RX3 10 "PieceText" "history" "LPieceText$History;" ∈ wsX3_redo := by decide +kernel
theorem qX3_redo_2 : Cond.classLink RX3 88 "java/lang/IllegalStateException" ∈ wsX3_redo := by decide +kernel
theorem qX3_redo_3 : Cond.initialized "java/lang/IllegalStateException" ∈ wsX3_redo := by decide +kernel
set_option maxHeartbeats 4000000 in
set_option maxRecDepth 100000 in
theorem c_PT_redo (l : Launch) (D : va_G) (cI cR cL : ClassId) (B N : Nat) (ad : Nat → Nat) (cw : Nat → va_E) (hl8 : l.stackTraces = false) (hN : 45 < N) {past fut : Nat} {hs : Nat → List Int32} {pat ws dr : List Int32} (hX : zRX cI cR ad cw past fut hs pat ws dr) : vx_Met l yX3_redo wsX3_redo ({ frames := 6, cells := 1, slots := 6, locals := 95 } : Room) (va_Pc [.ref (ad (0))] (zI D vwCl (zTy cI cR cL) B N ad cw)) (zQi D vwCl B N ad (fun (v : Int32) (cw' : Nat → va_E) => ∃ qv, fut = qv + 1 ∧ v = nI (hs (past + 1)).length ∧ zRX cI cR ad cw' (past + 1) qv hs pat ws dr ∧ ∀ j, 37 ≤ j → cw' j = cw j)) (zXC D vwCl B N ad cw (fun E : String => E = xIS ∧ fut = 0)) 1 6 (zA B) := by
  obtain ⟨x0, ⟨now, hH⟩, ⟨fr, ht, hfr⟩, ⟨p1, p2, pf, p3, p4⟩, ⟨w1, w2, ⟨wf, w3, w4⟩, sf, w5⟩, ⟨d1, d2, g, d3, d4⟩, nf, x6⟩ := id hX
  obtain ⟨g1, g2, g3, g4, g5, g6⟩ := id hH
  obtain ⟨t1, t2, f, t3, t4⟩ := zHist_now hH
  refine z_ofX (cc := cX3_redo) (maxL := 1) (ret := (some .int)) (by decide) rfl (Nat.le_of_ble_eq_true rfl) ?_
  intro p e s m args below meth c C hr h0
  refine z_lv (lv' := [(0, .ref (ad (0)))]) [0] rfl ?_
  refine z_aload_n C dX3_redo_0 0 rfl ?_
  refine z_get (Cn := RX3) (T := TX3) (NF := 5) (ci := 3) (v := .ref (ad (1))) C qX3_redo_0 rfl 0 (by decide) (C.2.2.2.2.1 _ qX3_redo_1) (fun _ h9 => h9) dX3_redo_1 (0) (by omega) x0 rfl ?_
  refine z_calli (z_runV (As := []) (rest := []) C (c_Hist_futureSize l D cI cR cL B N ad cw (by omega) g3) (cwV 0 C.2.2.2.2.1 gX3_redo_X0_futureSize rfl rfl rfl (by decide +kernel) ⟨Nat.le_of_ble_eq_true rfl, Nat.le_of_ble_eq_true rfl⟩) (by omega) g3 rfl rfl rfl rfl (Nat.le_of_ble_eq_true rfl) dX3_redo_4 ⟨Nat.le_of_ble_eq_true rfl, Nat.le_of_ble_eq_true rfl⟩) (fun r1 cw2 hp3 => ?_)
  refine z_cw hp3.2 ?_
  refine z_top hp3.1 ?_
  refine z_if_ne (tgt := 20) C dX3_redo_7 (by decide) (fun c4 => ?_) (fun c4 => ?_)
  · skip
    obtain ⟨qv, rfl⟩ : ∃ z, fut = z + 1 := Nat.exists_eq_succ_of_ne_zero (fun h9 => c4 (by rw [h9]; decide))
    refine z_aload_n C dX3_redo_20 0 rfl ?_
    refine z_get (Cn := RX3) (T := TX3) (NF := 5) (ci := 3) (v := .ref (ad (1))) C qX3_redo_0 rfl 0 (by decide) (C.2.2.2.2.1 _ qX3_redo_1) (fun _ h9 => h9) dX3_redo_21 (0) (by omega) x0 rfl ?_
    refine z_callv (z_runV (As := []) (rest := []) C (c_Hist_stepOn l D cI cR cL B N ad cw (by omega) g3 g1) (cwV 0 C.2.2.2.2.1 gX3_redo_X0_stepOn rfl rfl rfl (by decide +kernel) ⟨Nat.le_of_ble_eq_true rfl, Nat.le_of_ble_eq_true rfl⟩) (by omega) g3 rfl rfl rfl rfl (Nat.le_of_ble_eq_true rfl) dX3_redo_24 ⟨Nat.le_of_ble_eq_true rfl, Nat.le_of_ble_eq_true rfl⟩) (fun cw5 hp6 => ?_)
    have hw_7 : cw5 (0) = .inr (3, [.ref (ad (1)), .ref (ad (29)), .ref (ad (31)), .ref (ad (34)), .ref (ad (36))]) := by rw [hp6.2 (0) (by omega)]; exact x0
    have hw_8 : cw5 (1) = .inr (0, [.ref (ad (2)), .int (nI ((now + 1) % 13)), .int (nI (past + 1)), .int (nI (qv))]) := hp6.1
    have hw_9 : cw5 (2) = .inl (cR, 13, .inr (.inr (.inr (.inr (fr))))) := by rw [hp6.2 (2) (by omega)]; exact ht
    have hH2 := zHist_on hH hp6.1 hp6.2
    refine z_aload_n C dX3_redo_27 0 rfl ?_
    refine z_get (Cn := RX3) (T := TX3) (NF := 5) (ci := 3) (v := .ref (ad (1))) C qX3_redo_0 rfl 0 (by decide) (C.2.2.2.2.1 _ qX3_redo_1) (fun _ h9 => h9) dX3_redo_28 (0) (by omega) hw_7 rfl ?_
    obtain ⟨k1, k2, kf, k3, k4⟩ := zHist_now hH2
    have kn := hH2.1
    refine z_callr (z_runV (As := []) (rest := []) C (c_Hist_present l D cI cR cL B N ad cw5 (by omega) hw_8 (by omega) hw_9 hfr kn) (cwV 0 C.2.2.2.2.1 gX3_redo_X0_present rfl rfl rfl (by decide +kernel) ⟨Nat.le_of_ble_eq_true rfl, Nat.le_of_ble_eq_true rfl⟩) (by omega) hw_8 rfl rfl rfl rfl (Nat.le_of_ble_eq_true rfl) dX3_redo_31 ⟨Nat.le_of_ble_eq_true rfl, Nat.le_of_ble_eq_true rfl⟩) (fun r10 cw11 hp12 => ?_)
    obtain ⟨rfl, hp12c⟩ := hp12
    refine z_cw hp12c ?_
    refine z_calli (z_runV (As := []) (rest := []) C (c_Row_size l D cI cR cL B N ad cw5 (by omega) k1) (cwV 0 C.2.2.2.2.1 gX3_redo_X2_size rfl rfl rfl (by decide +kernel) ⟨Nat.le_of_ble_eq_true rfl, Nat.le_of_ble_eq_true rfl⟩) (by omega) k1 rfl rfl rfl rfl (Nat.le_of_ble_eq_true rfl) dX3_redo_34 ⟨Nat.le_of_ble_eq_true rfl, Nat.le_of_ble_eq_true rfl⟩) (fun r13 cw14 hp15 => ?_)
    refine z_cw hp15.2 ?_
    refine z_top hp15.1 ?_
    exact z_xiret C hr dX3_redo_37 (⟨qv, rfl, rfl, zRX_hist hX (fun j hj => hp6.2 j (by omega)) hH2, fun j hj => hp6.2 j (by omega)⟩) (Nat.le_of_ble_eq_true rfl) (Nat.le_of_ble_eq_true rfl)
  · skip
    exact z_throw (cls := xIS) (names := xNames) C hl8 h0 rfl (by decide) (by decide) (C.2.2.2.2.1 _ qX3_redo_2) (C.2.2.2.2.1 _ qX3_redo_3) (show (99, "the future has no action") ∈ zStrs by decide +kernel) (fun w h => List.mem_cons_of_mem _ (List.mem_append_right _ h)) zng_IS zgd_IS dX3_redo_10 dX3_redo_13 dX3_redo_14 dX3_redo_16 dX3_redo_19 (Nat.le_of_ble_eq_true rfl) (Nat.le_of_ble_eq_true rfl) (Nat.le_of_ble_eq_true rfl) (Nat.le_of_ble_eq_true rfl) (⟨rfl, (nI_eq (by omega) (by omega)).mp c4⟩) (Nat.le_of_ble_eq_true rfl) (Nat.le_of_ble_eq_true rfl)

theorem qX3_pattern_0 : ∀ w ∈ wsX30, w ∈ wsX3_pattern := by decide +kernel
theorem qX3_pattern_1 : Cond.fieldLink RX3 21 "PieceText" "sought" "LPieceText$Row;" ∈ wsX3_pattern := by decide +kernel
theorem qX3_pattern_2 : Cond.classLink RX3 104 "java/lang/UnsupportedOperationException" ∈ wsX3_pattern := by decide +kernel
theorem qX3_pattern_3 : Cond.initialized "java/lang/UnsupportedOperationException" ∈ wsX3_pattern := by decide +kernel
set_option maxHeartbeats 4000000 in
set_option maxRecDepth 100000 in
theorem c_PT_pattern (l : Launch) (D : va_G) (cI cR cL : ClassId) (B N : Nat) (ad : Nat → Nat) (cw : Nat → va_E) (hl8 : l.stackTraces = false) (hN : 45 < N) {past fut : Nat} {hs : Nat → List Int32} {pat ws dr : List Int32} (hX : zRX cI cR ad cw past fut hs pat ws dr) (x : Int32) : vx_Met l yX3_pattern wsX3_pattern ({ frames := 7, cells := 2, slots := 12, locals := 115 } : Room) (va_Pc [.ref (ad (0)), .int (x)] (zI D vwCl (zTy cI cR cL) B N ad cw)) (zQi D vwCl B N ad (fun (v : Int32) (cw' : Nat → va_E) => (∃ q, q < 256 ∧ x = nI q) ∧ pat.length < 16 ∧ v = nI (pat ++ [x]).length ∧ zRX cI cR ad cw' past fut hs (pat ++ [x]) ws dr ∧ ∀ j, 37 ≤ j → cw' j = cw j)) (zXC D vwCl B N ad cw (fun E : String => (E = xIA ∧ ¬ (∃ q, q < 256 ∧ x = nI q)) ∨ (E = xUO ∧ (∃ q, q < 256 ∧ x = nI q) ∧ ¬ (pat.length < 16)))) 2 12 (zA B) := by
  obtain ⟨x0, ⟨now, hH⟩, ⟨fr, ht, hfr⟩, ⟨p1, p2, pf, p3, p4⟩, ⟨w1, w2, ⟨wf, w3, w4⟩, sf, w5⟩, ⟨d1, d2, g, d3, d4⟩, nf, x6⟩ := id hX
  obtain ⟨g1, g2, g3, g4, g5, g6⟩ := id hH
  obtain ⟨t1, t2, f, t3, t4⟩ := zHist_now hH
  refine z_ofX (cc := cX3_pattern) (maxL := 2) (ret := (some .int)) (by decide) rfl (Nat.le_of_ble_eq_true rfl) ?_
  intro p e s m args below meth c C hr h0
  refine z_lv (lv' := [(0, .ref (ad (0))), (1, .int (x))]) [0, 1] rfl ?_
  refine z_iload_n C dX3_pattern_0 1 rfl ?_
  refine z_xcallv (z_xrunS (As := [.int (x)]) (rest := []) C (c_PT_noChar l D cI cR cL B N ad cw hl8 (x)) (va_cwS 1 C.2.2.2.2.1 gX3_pattern_X3_refuseNoCharacter rfl rfl rfl (by decide +kernel) ⟨Nat.le_of_ble_eq_true rfl, Nat.le_of_ble_eq_true rfl⟩) rfl rfl (Nat.le_of_ble_eq_true rfl) dX3_pattern_1 ⟨Nat.le_of_ble_eq_true rfl, Nat.le_of_ble_eq_true rfl⟩) (fun E3 hx4 => ?_) (fun cw1 hp2 => ?_)
  · exact z_xout C h0 (Or.inl hx4) (Nat.le_of_ble_eq_true rfl) (Nat.le_of_ble_eq_true rfl)
  obtain ⟨⟨u, hu, rfl⟩, hp2c⟩ := hp2
  refine z_cw hp2c ?_
  refine z_aload_n C dX3_pattern_4 0 rfl ?_
  refine z_get (Cn := RX3) (T := TX3) (NF := 5) (ci := 3) (v := .ref (ad (29))) C qX3_pattern_0 rfl 1 (by decide) (C.2.2.2.2.1 _ qX3_pattern_1) (fun _ h9 => h9) dX3_pattern_5 (0) (by omega) x0 rfl ?_
  refine z_calli (z_runV (As := []) (rest := []) C (c_Row_size l D cI cR cL B N ad cw (by omega) p1) (cwV 0 C.2.2.2.2.1 gX3_pattern_X2_size rfl rfl rfl (by decide +kernel) ⟨Nat.le_of_ble_eq_true rfl, Nat.le_of_ble_eq_true rfl⟩) (by omega) p1 rfl rfl rfl rfl (Nat.le_of_ble_eq_true rfl) dX3_pattern_8 ⟨Nat.le_of_ble_eq_true rfl, Nat.le_of_ble_eq_true rfl⟩) (fun r5 cw6 hp7 => ?_)
  refine z_cw hp7.2 ?_
  refine z_top hp7.1 ?_
  refine z_bipush (v := nI 16) C dX3_pattern_11 (by decide) ?_
  refine z_icmp_lt (tgt := 26) C dX3_pattern_13 (by decide) (fun c8 => ?_) (fun c8 => ?_)
  · skip
    have hlt : pat.length < 16 := (nI_ltI (by omega) (by omega)).mp c8
    refine z_aload_n C dX3_pattern_26 0 rfl ?_
    refine z_get (Cn := RX3) (T := TX3) (NF := 5) (ci := 3) (v := .ref (ad (29))) C qX3_pattern_0 rfl 1 (by decide) (C.2.2.2.2.1 _ qX3_pattern_1) (fun _ h9 => h9) dX3_pattern_27 (0) (by omega) x0 rfl ?_
    refine z_iload_n C dX3_pattern_30 1 rfl ?_
    refine z_callv (z_runV (As := [.int (nI u)]) (rest := []) C (c_Row_add l D cI cR cL B N ad cw (by omega) p1 (by decide) (by omega) p3 (by decide) (hlt) (nI u)) (cwV 1 C.2.2.2.2.1 gX3_pattern_X2_add rfl rfl rfl (by decide +kernel) ⟨Nat.le_of_ble_eq_true rfl, Nat.le_of_ble_eq_true rfl⟩) (by omega) p1 rfl rfl rfl rfl (Nat.le_of_ble_eq_true rfl) dX3_pattern_31 ⟨Nat.le_of_ble_eq_true rfl, Nat.le_of_ble_eq_true rfl⟩) (fun cw9 hp10 => ?_)
    have hw_11 : cw9 (0) = .inr (3, [.ref (ad (1)), .ref (ad (29)), .ref (ad (31)), .ref (ad (34)), .ref (ad (36))]) := by rw [hp10, va_up_ne _ _ (by decide), va_up_ne _ _ (by decide)]; exact x0
    have hw_12 : cw9 (29) = .inr (2, [.ref (ad (30)), .int (nI (pat.length + 1))]) := by rw [hp10, va_up_self]
    have hw_13 : cw9 (30) = .inl (cI, 16, .inl (upd (pf) (pat.length) (nI u))) := by rw [hp10, va_up_ne _ _ (by decide), va_up_self]
    refine z_aload_n C dX3_pattern_34 0 rfl ?_
    refine z_get (Cn := RX3) (T := TX3) (NF := 5) (ci := 3) (v := .ref (ad (29))) C qX3_pattern_0 rfl 1 (by decide) (C.2.2.2.2.1 _ qX3_pattern_1) (fun _ h9 => h9) dX3_pattern_35 (0) (by omega) hw_11 rfl ?_
    refine z_calli (z_runV (As := []) (rest := []) C (c_Row_size l D cI cR cL B N ad cw9 (by omega) hw_12) (cwV 0 C.2.2.2.2.1 gX3_pattern_X2_size rfl rfl rfl (by decide +kernel) ⟨Nat.le_of_ble_eq_true rfl, Nat.le_of_ble_eq_true rfl⟩) (by omega) hw_12 rfl rfl rfl rfl (Nat.le_of_ble_eq_true rfl) dX3_pattern_38 ⟨Nat.le_of_ble_eq_true rfl, Nat.le_of_ble_eq_true rfl⟩) (fun r14 cw15 hp16 => ?_)
    refine z_cw hp16.2 ?_
    refine z_top hp16.1 ?_
    refine z_top (y := nI (pat ++ [nI u]).length) (by rw [List.length_append]; rfl) ?_
    exact z_xiret C hr dX3_pattern_41 (⟨⟨u, hu, rfl⟩, hlt, rfl, zRX_pat hX (fun j hj => by rw [hp10, va_up_ne _ _ (by omega), va_up_ne _ _ (by omega)]) ⟨by rw [hw_12, List.length_append]; rfl, by rw [List.length_append]; exact hlt, _, hw_13, zIs_add p4 _⟩, fun j hj => by rw [hp10, va_up_ne _ _ (by omega), va_up_ne _ _ (by omega)]⟩) (Nat.le_of_ble_eq_true rfl) (Nat.le_of_ble_eq_true rfl)
  · skip
    exact z_throw (cls := xUO) (names := xNames) C hl8 h0 rfl (by decide) (by decide) (C.2.2.2.2.1 _ qX3_pattern_2) (C.2.2.2.2.1 _ qX3_pattern_3) (show (106, "the pattern would be too long") ∈ zStrs by decide +kernel) (fun w h => List.mem_cons_of_mem _ (List.mem_append_left _ (List.mem_append_right _ h))) zng_UO zgd_UO dX3_pattern_16 dX3_pattern_19 dX3_pattern_20 dX3_pattern_22 dX3_pattern_25 (Nat.le_of_ble_eq_true rfl) (Nat.le_of_ble_eq_true rfl) (Nat.le_of_ble_eq_true rfl) (Nat.le_of_ble_eq_true rfl) (Or.inr ⟨rfl, ⟨u, hu, rfl⟩, fun h9 => c8 (nI_lt h9 (by omega))⟩) (Nat.le_of_ble_eq_true rfl) (Nat.le_of_ble_eq_true rfl)

theorem qX3_noPattern_0 : ∀ w ∈ wsX30, w ∈ wsX3_noPattern := by decide +kernel
theorem qX3_noPattern_1 : Cond.fieldLink RX3 21 "PieceText" "sought" "LPieceText$Row;" ∈ wsX3_noPattern := by decide +kernel
set_option maxHeartbeats 4000000 in
set_option maxRecDepth 100000 in
theorem c_PT_noPattern (l : Launch) (D : va_G) (cI cR cL : ClassId) (B N : Nat) (ad : Nat → Nat) (cw : Nat → va_E) (hN : 45 < N) {past fut : Nat} {hs : Nat → List Int32} {pat ws dr : List Int32} (hX : zRX cI cR ad cw past fut hs pat ws dr) : Met l yX3_noPattern wsX3_noPattern ({ frames := 1, cells := 0, slots := 0, locals := 20 } : Room) (va_Pc [.ref (ad (0))] (zI D vwCl (zTy cI cR cL) B N ad cw)) (zQi D vwCl B N ad (fun (v : Int32) (cw' : Nat → va_E) => v = nI pat.length ∧ zRX cI cR ad cw' past fut hs [] ws dr ∧ ∀ j, 37 ≤ j → cw' j = cw j)) 0 0 (zA B) := by
  obtain ⟨x0, ⟨now, hH⟩, ⟨fr, ht, hfr⟩, ⟨p1, p2, pf, p3, p4⟩, ⟨w1, w2, ⟨wf, w3, w4⟩, sf, w5⟩, ⟨d1, d2, g, d3, d4⟩, nf, x6⟩ := id hX
  obtain ⟨g1, g2, g3, g4, g5, g6⟩ := id hH
  obtain ⟨t1, t2, f, t3, t4⟩ := zHist_now hH
  refine z_ofW (cc := cX3_noPattern) (maxL := 2) (ret := (some .int)) (by decide) rfl (Nat.le_of_ble_eq_true rfl) ?_
  intro p e s m args below meth c C hr hnm
  refine z_lv (lv' := [(0, .ref (ad (0)))]) [0] rfl ?_
  refine z_aload_n C dX3_noPattern_0 0 rfl ?_
  refine z_get (Cn := RX3) (T := TX3) (NF := 5) (ci := 3) (v := .ref (ad (29))) C qX3_noPattern_0 rfl 1 (by decide) (C.2.2.2.2.1 _ qX3_noPattern_1) (fun _ h9 => h9) dX3_noPattern_1 (0) (by omega) x0 rfl ?_
  refine z_calli (z_runV (As := []) (rest := []) C (c_Row_size l D cI cR cL B N ad cw (by omega) p1) (cwV 0 C.2.2.2.2.1 gX3_noPattern_X2_size rfl rfl rfl (by decide +kernel) ⟨Nat.le_of_ble_eq_true rfl, Nat.le_of_ble_eq_true rfl⟩) (by omega) p1 rfl rfl rfl rfl (Nat.le_of_ble_eq_true rfl) dX3_noPattern_4 ⟨Nat.le_of_ble_eq_true rfl, Nat.le_of_ble_eq_true rfl⟩) (fun r1 cw2 hp3 => ?_)
  refine z_cw hp3.2 ?_
  refine z_top hp3.1 ?_
  refine z_istore_n (lv' := [(1, .int (nI (pat.length))), (0, .ref (ad (0)))]) C dX3_noPattern_7 rfl (by decide) rfl ?_
  refine z_aload_n C dX3_noPattern_8 1 rfl ?_
  refine z_get (Cn := RX3) (T := TX3) (NF := 5) (ci := 3) (v := .ref (ad (29))) C qX3_noPattern_0 rfl 1 (by decide) (C.2.2.2.2.1 _ qX3_noPattern_1) (fun _ h9 => h9) dX3_noPattern_9 (0) (by omega) x0 rfl ?_
  refine z_callv (z_runV (As := []) (rest := []) C (c_Row_empty l D cI cR cL B N ad cw (by omega) p1) (cwV 0 C.2.2.2.2.1 gX3_noPattern_X2_empty rfl rfl rfl (by decide +kernel) ⟨Nat.le_of_ble_eq_true rfl, Nat.le_of_ble_eq_true rfl⟩) (by omega) p1 rfl rfl rfl rfl (Nat.le_of_ble_eq_true rfl) dX3_noPattern_12 ⟨Nat.le_of_ble_eq_true rfl, Nat.le_of_ble_eq_true rfl⟩) (fun cw4 hp5 => ?_)
  have hw_6 : cw4 (0) = .inr (3, [.ref (ad (1)), .ref (ad (29)), .ref (ad (31)), .ref (ad (34)), .ref (ad (36))]) := by rw [hp5, va_up_ne _ _ (by decide)]; exact x0
  have hw_7 : cw4 (29) = .inr (2, [.ref (ad (30)), .int (nI 0)]) := by rw [hp5, va_up_self]
  have hw_8 : cw4 (30) = .inl (cI, 16, .inl (pf)) := by rw [hp5, va_up_ne _ _ (by decide)]; exact p3
  refine z_iload_n C dX3_noPattern_15 0 rfl ?_
  exact z_iret C hr dX3_noPattern_16 (⟨rfl, zRX_pat hX (fun j hj => by rw [hp5, va_up_ne _ _ (by omega)]) ⟨hw_7, Nat.zero_le _, _, hw_8, zIs_nil _⟩, fun j hj => by rw [hp5, va_up_ne _ _ (by omega)]⟩) (Nat.le_of_ble_eq_true rfl) (Nat.le_of_ble_eq_true rfl)

theorem qX3_word_0 : ∀ w ∈ wsX30, w ∈ wsX3_word := by decide +kernel
theorem qX3_word_1 : Cond.fieldLink RX3 28 "PieceText" "written" "LPieceText$Phrases;" ∈ wsX3_word := by decide +kernel
set_option maxHeartbeats 4000000 in
set_option maxRecDepth 100000 in
theorem c_PT_word (l : Launch) (D : va_G) (cI cR cL : ClassId) (B N : Nat) (ad : Nat → Nat) (cw : Nat → va_E) (hl8 : l.stackTraces = false) (hN : 45 < N) {past fut : Nat} {hs : Nat → List Int32} {pat ws dr : List Int32} (hX : zRX cI cR ad cw past fut hs pat ws dr) (x : Int32) : vx_Met l yX3_word wsX3_word ({ frames := 7, cells := 1, slots := 6, locals := 116 } : Room) (va_Pc [.ref (ad (0)), .int (x)] (zI D vwCl (zTy cI cR cL) B N ad cw)) (zQi D vwCl B N ad (fun (v : Int32) (cw' : Nat → va_E) => ∃ q, q < ws.length ∧ x = nI q ∧ ws[q]? = some v ∧ cw' = cw)) (zXC D vwCl B N ad cw (fun E : String => E = xIO ∧ ¬ (∃ q, q < ws.length ∧ x = nI q))) 1 6 (zA B) := by
  obtain ⟨x0, ⟨now, hH⟩, ⟨fr, ht, hfr⟩, ⟨p1, p2, pf, p3, p4⟩, ⟨w1, w2, ⟨wf, w3, w4⟩, sf, w5⟩, ⟨d1, d2, g, d3, d4⟩, nf, x6⟩ := id hX
  obtain ⟨g1, g2, g3, g4, g5, g6⟩ := id hH
  obtain ⟨t1, t2, f, t3, t4⟩ := zHist_now hH
  refine z_ofX (cc := cX3_word) (maxL := 2) (ret := (some .int)) (by decide) rfl (Nat.le_of_ble_eq_true rfl) ?_
  intro p e s m args below meth c C hr h0
  refine z_lv (lv' := [(0, .ref (ad (0))), (1, .int (x))]) [0, 1] rfl ?_
  refine z_aload_n C dX3_word_0 0 rfl ?_
  refine z_iload_n C dX3_word_1 1 rfl ?_
  refine z_xcallv (z_xrunV (As := [.int (x)]) (rest := []) C (c_PT_noWord l D cI cR cL B N ad cw hl8 (by omega) x0 w1 w2 (x)) (cwV 1 C.2.2.2.2.1 gX3_word_X3_refuseNoWord rfl rfl rfl (by decide +kernel) ⟨Nat.le_of_ble_eq_true rfl, Nat.le_of_ble_eq_true rfl⟩) (by omega) x0 rfl rfl rfl rfl (Nat.le_of_ble_eq_true rfl) dX3_word_2 ⟨Nat.le_of_ble_eq_true rfl, Nat.le_of_ble_eq_true rfl⟩) (fun E3 hx4 => ?_) (fun cw1 hp2 => ?_)
  · exact z_xout C h0 (hx4) (Nat.le_of_ble_eq_true rfl) (Nat.le_of_ble_eq_true rfl)
  obtain ⟨⟨q, hq, rfl⟩, hp2c⟩ := hp2
  refine z_cw hp2c ?_
  refine z_aload_n C dX3_word_5 0 rfl ?_
  refine z_get (Cn := RX3) (T := TX3) (NF := 5) (ci := 3) (v := .ref (ad (31))) C qX3_word_0 rfl 2 (by decide) (C.2.2.2.2.1 _ qX3_word_1) (fun _ h9 => h9) dX3_word_6 (0) (by omega) x0 rfl ?_
  refine z_iload_n C dX3_word_9 1 rfl ?_
  refine z_calli (z_runV (As := [.int (nI q)]) (rest := []) C (c_Phr_get l D cI cR cL B N ad cw (by omega) w1 w3 (j := q) (by omega)) (cwV 1 C.2.2.2.2.1 gX3_word_X1_get rfl rfl rfl (by decide +kernel) ⟨Nat.le_of_ble_eq_true rfl, Nat.le_of_ble_eq_true rfl⟩) (by omega) w1 rfl rfl rfl rfl (Nat.le_of_ble_eq_true rfl) dX3_word_10 ⟨Nat.le_of_ble_eq_true rfl, Nat.le_of_ble_eq_true rfl⟩) (fun r5 cw6 hp7 => ?_)
  refine z_cw hp7.2 ?_
  refine z_top hp7.1 ?_
  exact z_xiret C hr dX3_word_13 (⟨q, hq, rfl, w4 q hq, rfl⟩) (Nat.le_of_ble_eq_true rfl) (Nat.le_of_ble_eq_true rfl)

theorem qX3_poke_0 : ∀ w ∈ wsX30, w ∈ wsX3_poke := by decide +kernel
theorem qX3_poke_1 : Cond.fieldLink RX3 28 "PieceText" "written" "LPieceText$Phrases;" ∈ wsX3_poke := by decide +kernel
set_option maxHeartbeats 4000000 in
set_option maxRecDepth 100000 in
theorem c_PT_poke (l : Launch) (D : va_G) (cI cR cL : ClassId) (B N : Nat) (ad : Nat → Nat) (cw : Nat → va_E) (hl8 : l.stackTraces = false) (hN : 45 < N) {past fut : Nat} {hs : Nat → List Int32} {pat ws dr : List Int32} (hX : zRX cI cR ad cw past fut hs pat ws dr) (x y : Int32) : vx_Met l yX3_poke wsX3_poke ({ frames := 7, cells := 1, slots := 6, locals := 116 } : Room) (va_Pc [.ref (ad (0)), .int (x), .int (y)] (zI D vwCl (zTy cI cR cL) B N ad cw)) (zQi D vwCl B N ad (fun (v : Int32) (cw' : Nat → va_E) => ∃ q, q < ws.length ∧ x = nI q ∧ ws[q]? = some v ∧ zRX cI cR ad cw' past fut hs pat (ws.set q y) dr ∧ ∀ j, 37 ≤ j → cw' j = cw j)) (zXC D vwCl B N ad cw (fun E : String => E = xIO ∧ ¬ (∃ q, q < ws.length ∧ x = nI q))) 1 6 (zA B) := by
  obtain ⟨x0, ⟨now, hH⟩, ⟨fr, ht, hfr⟩, ⟨p1, p2, pf, p3, p4⟩, ⟨w1, w2, ⟨wf, w3, w4⟩, sf, w5⟩, ⟨d1, d2, g, d3, d4⟩, nf, x6⟩ := id hX
  obtain ⟨g1, g2, g3, g4, g5, g6⟩ := id hH
  obtain ⟨t1, t2, f, t3, t4⟩ := zHist_now hH
  refine z_ofX (cc := cX3_poke) (maxL := 4) (ret := (some .int)) (by decide) rfl (Nat.le_of_ble_eq_true rfl) ?_
  intro p e s m args below meth c C hr h0
  refine z_lv (lv' := [(0, .ref (ad (0))), (1, .int (x)), (2, .int (y))]) [0, 1, 2] rfl ?_
  refine z_aload_n C dX3_poke_0 0 rfl ?_
  refine z_iload_n C dX3_poke_1 1 rfl ?_
  refine z_xcallv (z_xrunV (As := [.int (x)]) (rest := []) C (c_PT_noWord l D cI cR cL B N ad cw hl8 (by omega) x0 w1 w2 (x)) (cwV 1 C.2.2.2.2.1 gX3_poke_X3_refuseNoWord rfl rfl rfl (by decide +kernel) ⟨Nat.le_of_ble_eq_true rfl, Nat.le_of_ble_eq_true rfl⟩) (by omega) x0 rfl rfl rfl rfl (Nat.le_of_ble_eq_true rfl) dX3_poke_2 ⟨Nat.le_of_ble_eq_true rfl, Nat.le_of_ble_eq_true rfl⟩) (fun E3 hx4 => ?_) (fun cw1 hp2 => ?_)
  · exact z_xout C h0 (hx4) (Nat.le_of_ble_eq_true rfl) (Nat.le_of_ble_eq_true rfl)
  obtain ⟨⟨q, hq, rfl⟩, hp2c⟩ := hp2
  refine z_cw hp2c ?_
  refine z_aload_n C dX3_poke_5 0 rfl ?_
  refine z_get (Cn := RX3) (T := TX3) (NF := 5) (ci := 3) (v := .ref (ad (31))) C qX3_poke_0 rfl 2 (by decide) (C.2.2.2.2.1 _ qX3_poke_1) (fun _ h9 => h9) dX3_poke_6 (0) (by omega) x0 rfl ?_
  refine z_iload_n C dX3_poke_9 1 rfl ?_
  refine z_calli (z_runV (As := [.int (nI q)]) (rest := []) C (c_Phr_get l D cI cR cL B N ad cw (by omega) w1 w3 (j := q) (by omega)) (cwV 1 C.2.2.2.2.1 gX3_poke_X1_get rfl rfl rfl (by decide +kernel) ⟨Nat.le_of_ble_eq_true rfl, Nat.le_of_ble_eq_true rfl⟩) (by omega) w1 rfl rfl rfl rfl (Nat.le_of_ble_eq_true rfl) dX3_poke_10 ⟨Nat.le_of_ble_eq_true rfl, Nat.le_of_ble_eq_true rfl⟩) (fun r5 cw6 hp7 => ?_)
  refine z_cw hp7.2 ?_
  refine z_top hp7.1 ?_
  refine z_istore_n (lv' := [(3, .int (wf q)), (0, .ref (ad (0))), (1, .int (nI q)), (2, .int (y))]) C dX3_poke_13 rfl (by decide) rfl ?_
  refine z_aload_n C dX3_poke_14 1 rfl ?_
  refine z_get (Cn := RX3) (T := TX3) (NF := 5) (ci := 3) (v := .ref (ad (31))) C qX3_poke_0 rfl 2 (by decide) (C.2.2.2.2.1 _ qX3_poke_1) (fun _ h9 => h9) dX3_poke_15 (0) (by omega) x0 rfl ?_
  refine z_iload_n C dX3_poke_18 2 rfl ?_
  refine z_iload_n C dX3_poke_19 3 rfl ?_
  refine z_callv (z_runV (As := [.int (nI q), .int (y)]) (rest := []) C (c_Phr_set l D cI cR cL B N ad cw (by omega) w1 w3 (j := q) (by omega) y) (cwV 2 C.2.2.2.2.1 gX3_poke_X1_set rfl rfl rfl (by decide +kernel) ⟨Nat.le_of_ble_eq_true rfl, Nat.le_of_ble_eq_true rfl⟩) (by omega) w1 rfl rfl rfl rfl (Nat.le_of_ble_eq_true rfl) dX3_poke_20 ⟨Nat.le_of_ble_eq_true rfl, Nat.le_of_ble_eq_true rfl⟩) (fun cw8 hp9 => ?_)
  have hw_10 : cw8 (0) = .inr (3, [.ref (ad (1)), .ref (ad (29)), .ref (ad (31)), .ref (ad (34)), .ref (ad (36))]) := by rw [hp9, va_up_ne _ _ (by decide)]; exact x0
  have hw_11 : cw8 (31) = .inr (1, [.ref (ad (32)), .ref (ad (33)), .int (nI (ws.length))]) := by rw [hp9, va_up_ne _ _ (by decide)]; exact w1
  have hw_12 : cw8 (32) = .inl (cI, 240, .inl (upd wf q y)) := by rw [hp9, va_up_self]
  have hw_13 : cw8 (33) = .inl (cI, 241, .inl (sf)) := by rw [hp9, va_up_ne _ _ (by decide)]; exact w5
  refine z_iload_n C dX3_poke_23 0 rfl ?_
  exact z_xiret C hr dX3_poke_24 (⟨q, hq, rfl, w4 q hq, zRX_words hX (fun j hj => by rw [hp9, va_up_ne _ _ (by omega)]) ⟨by rw [hw_11, List.length_set], by rw [List.length_set]; exact w2, ⟨_, hw_12, zIs_set w4 q y⟩, _, hw_13⟩, fun j hj => by rw [hp9, va_up_ne _ _ (by omega)]⟩) (Nat.le_of_ble_eq_true rfl) (Nat.le_of_ble_eq_true rfl)

theorem qX3_clear_0 : ∀ w ∈ wsX30, w ∈ wsX3_clear := by decide +kernel
theorem qX3_clear_1 : Cond.fieldLink RX3 10 "PieceText" "history" "LPieceText$History;" ∈ wsX3_clear := by decide +kernel
theorem qX3_clear_2 : Cond.fieldLink RX3 21 "PieceText" "sought" "LPieceText$Row;" ∈ wsX3_clear := by decide +kernel
theorem qX3_clear_3 : Cond.fieldLink RX3 28 "PieceText" "written" "LPieceText$Phrases;" ∈ wsX3_clear := by decide +kernel
set_option maxHeartbeats 4000000 in
set_option maxRecDepth 100000 in
theorem c_PT_clear (l : Launch) (D : va_G) (cI cR cL : ClassId) (B N : Nat) (ad : Nat → Nat) (cw : Nat → va_E) (hN : 45 < N) {past fut : Nat} {hs : Nat → List Int32} {pat ws dr : List Int32} (hX : zRX cI cR ad cw past fut hs pat ws dr) : Met l yX3_clear wsX3_clear ({ frames := 2, cells := 0, slots := 0, locals := 40 } : Room) (va_Pc [.ref (ad (0))] (zI D vwCl (zTy cI cR cL) B N ad cw)) (zQv D vwCl B N ad (fun (cw' : Nat → va_E) => zRX cI cR ad cw' 0 0 (fun _ => []) [] [] dr ∧ ∀ j, 37 ≤ j → cw' j = cw j)) 0 0 (zA B) := by
  obtain ⟨x0, ⟨now, hH⟩, ⟨fr, ht, hfr⟩, ⟨p1, p2, pf, p3, p4⟩, ⟨w1, w2, ⟨wf, w3, w4⟩, sf, w5⟩, ⟨d1, d2, g, d3, d4⟩, nf, x6⟩ := id hX
  obtain ⟨g1, g2, g3, g4, g5, g6⟩ := id hH
  obtain ⟨t1, t2, f, t3, t4⟩ := zHist_now hH
  refine z_ofW (cc := cX3_clear) (maxL := 1) (ret := none) (by decide) rfl (Nat.le_of_ble_eq_true rfl) ?_
  intro p e s m args below meth c C hr hnm
  refine z_lv (lv' := [(0, .ref (ad (0)))]) [0] rfl ?_
  refine z_aload_n C dX3_clear_0 0 rfl ?_
  refine z_get (Cn := RX3) (T := TX3) (NF := 5) (ci := 3) (v := .ref (ad (1))) C qX3_clear_0 rfl 0 (by decide) (C.2.2.2.2.1 _ qX3_clear_1) (fun _ h9 => h9) dX3_clear_1 (0) (by omega) x0 rfl ?_
  refine z_callv (z_runV (As := []) (rest := []) C (c_Hist_forget l D cI cR cL B N ad cw (by omega) g3 (by omega) ht hfr g1 (by omega) t1 t3) (cwV 0 C.2.2.2.2.1 gX3_clear_X0_forget rfl rfl rfl (by decide +kernel) ⟨Nat.le_of_ble_eq_true rfl, Nat.le_of_ble_eq_true rfl⟩) (by omega) g3 rfl rfl rfl rfl (Nat.le_of_ble_eq_true rfl) dX3_clear_4 ⟨Nat.le_of_ble_eq_true rfl, Nat.le_of_ble_eq_true rfl⟩) (fun cw1 hp2 => ?_)
  have hw_3 : cw1 (0) = .inr (3, [.ref (ad (1)), .ref (ad (29)), .ref (ad (31)), .ref (ad (34)), .ref (ad (36))]) := by rw [hp2.2.2 (0) (by omega)]; exact x0
  have hw_4 : cw1 (1) = .inr (0, [.ref (ad (2)), .int (nI now), .int (nI 0), .int (nI 0)]) := hp2.1
  have hw_5 : cw1 (2) = .inl (cR, 13, .inr (.inr (.inr (.inr (fr))))) := by rw [hp2.2.2 (2) (by omega)]; exact ht
  have hw_6 : cw1 (3 + 2 * now) = .inr (2, [.ref (ad (4 + 2 * now)), .int (nI 0)]) := hp2.2.1
  have hw_7 : cw1 (29) = .inr (2, [.ref (ad (30)), .int (nI (pat.length))]) := by rw [hp2.2.2 (29) (by omega)]; exact p1
  have hw_8 : cw1 (30) = .inl (cI, 16, .inl (pf)) := by rw [hp2.2.2 (30) (by omega)]; exact p3
  have hw_9 : cw1 (31) = .inr (1, [.ref (ad (32)), .ref (ad (33)), .int (nI (ws.length))]) := by rw [hp2.2.2 (31) (by omega)]; exact w1
  have hw_10 : cw1 (32) = .inl (cI, 240, .inl (wf)) := by rw [hp2.2.2 (32) (by omega)]; exact w3
  have hw_11 : cw1 (33) = .inl (cI, 241, .inl (sf)) := by rw [hp2.2.2 (33) (by omega)]; exact w5
  have hX1 := zRX_hist hX (fun j hj => hp2.2.2 j (by omega)) (zHist_forget hH hp2.1 hp2.2.1 hp2.2.2)
  refine z_aload_n C dX3_clear_7 0 rfl ?_
  refine z_get (Cn := RX3) (T := TX3) (NF := 5) (ci := 3) (v := .ref (ad (29))) C qX3_clear_0 rfl 1 (by decide) (C.2.2.2.2.1 _ qX3_clear_2) (fun _ h9 => h9) dX3_clear_8 (0) (by omega) hw_3 rfl ?_
  refine z_callv (z_runV (As := []) (rest := []) C (c_Row_empty l D cI cR cL B N ad cw1 (by omega) hw_7) (cwV 0 C.2.2.2.2.1 gX3_clear_X2_empty rfl rfl rfl (by decide +kernel) ⟨Nat.le_of_ble_eq_true rfl, Nat.le_of_ble_eq_true rfl⟩) (by omega) hw_7 rfl rfl rfl rfl (Nat.le_of_ble_eq_true rfl) dX3_clear_11 ⟨Nat.le_of_ble_eq_true rfl, Nat.le_of_ble_eq_true rfl⟩) (fun cw12 hp13 => ?_)
  have hw_14 : cw12 (0) = .inr (3, [.ref (ad (1)), .ref (ad (29)), .ref (ad (31)), .ref (ad (34)), .ref (ad (36))]) := by rw [hp13, va_up_ne _ _ (by decide)]; exact hw_3
  have hw_15 : cw12 (1) = .inr (0, [.ref (ad (2)), .int (nI now), .int (nI 0), .int (nI 0)]) := by rw [hp13, va_up_ne _ _ (by decide)]; exact hw_4
  have hw_16 : cw12 (2) = .inl (cR, 13, .inr (.inr (.inr (.inr (fr))))) := by rw [hp13, va_up_ne _ _ (by decide)]; exact hw_5
  have hw_17 : cw12 (3 + 2 * now) = .inr (2, [.ref (ad (4 + 2 * now)), .int (nI 0)]) := by rw [hp13, va_up_ne _ _ (by omega)]; exact hw_6
  have hw_18 : cw12 (29) = .inr (2, [.ref (ad (30)), .int (nI 0)]) := by rw [hp13, va_up_self]
  have hw_19 : cw12 (30) = .inl (cI, 16, .inl (pf)) := by rw [hp13, va_up_ne _ _ (by decide)]; exact hw_8
  have hw_20 : cw12 (31) = .inr (1, [.ref (ad (32)), .ref (ad (33)), .int (nI (ws.length))]) := by rw [hp13, va_up_ne _ _ (by decide)]; exact hw_9
  have hw_21 : cw12 (32) = .inl (cI, 240, .inl (wf)) := by rw [hp13, va_up_ne _ _ (by decide)]; exact hw_10
  have hw_22 : cw12 (33) = .inl (cI, 241, .inl (sf)) := by rw [hp13, va_up_ne _ _ (by decide)]; exact hw_11
  have hX2 := zRX_pat (pat' := []) hX1 (fun j hj => by rw [hp13, va_up_ne _ _ (by omega)]) ⟨hw_18, Nat.zero_le _, _, hw_19, zIs_nil _⟩
  refine z_aload_n C dX3_clear_14 0 rfl ?_
  refine z_get (Cn := RX3) (T := TX3) (NF := 5) (ci := 3) (v := .ref (ad (31))) C qX3_clear_0 rfl 2 (by decide) (C.2.2.2.2.1 _ qX3_clear_3) (fun _ h9 => h9) dX3_clear_15 (0) (by omega) hw_14 rfl ?_
  refine z_callv (z_runV (As := []) (rest := []) C (c_Phr_forget l D cI cR cL B N ad cw12 (by omega) hw_20) (cwV 0 C.2.2.2.2.1 gX3_clear_X1_forget rfl rfl rfl (by decide +kernel) ⟨Nat.le_of_ble_eq_true rfl, Nat.le_of_ble_eq_true rfl⟩) (by omega) hw_20 rfl rfl rfl rfl (Nat.le_of_ble_eq_true rfl) dX3_clear_18 ⟨Nat.le_of_ble_eq_true rfl, Nat.le_of_ble_eq_true rfl⟩) (fun cw23 hp24 => ?_)
  have hw_25 : cw23 (0) = .inr (3, [.ref (ad (1)), .ref (ad (29)), .ref (ad (31)), .ref (ad (34)), .ref (ad (36))]) := by rw [hp24, va_up_ne _ _ (by decide)]; exact hw_14
  have hw_26 : cw23 (1) = .inr (0, [.ref (ad (2)), .int (nI now), .int (nI 0), .int (nI 0)]) := by rw [hp24, va_up_ne _ _ (by decide)]; exact hw_15
  have hw_27 : cw23 (2) = .inl (cR, 13, .inr (.inr (.inr (.inr (fr))))) := by rw [hp24, va_up_ne _ _ (by decide)]; exact hw_16
  have hw_28 : cw23 (3 + 2 * now) = .inr (2, [.ref (ad (4 + 2 * now)), .int (nI 0)]) := by rw [hp24, va_up_ne _ _ (by omega)]; exact hw_17
  have hw_29 : cw23 (29) = .inr (2, [.ref (ad (30)), .int (nI 0)]) := by rw [hp24, va_up_ne _ _ (by decide)]; exact hw_18
  have hw_30 : cw23 (30) = .inl (cI, 16, .inl (pf)) := by rw [hp24, va_up_ne _ _ (by decide)]; exact hw_19
  have hw_31 : cw23 (31) = .inr (1, [.ref (ad (32)), .ref (ad (33)), .int (nI 0)]) := by rw [hp24, va_up_self]
  have hw_32 : cw23 (32) = .inl (cI, 240, .inl (wf)) := by rw [hp24, va_up_ne _ _ (by decide)]; exact hw_21
  have hw_33 : cw23 (33) = .inl (cI, 241, .inl (sf)) := by rw [hp24, va_up_ne _ _ (by decide)]; exact hw_22
  exact z_vret C hr dX3_clear_21 (⟨zRX_words (ws' := []) hX2 (fun j hj => by rw [hp24, va_up_ne _ _ (by omega)]) ⟨hw_31, Nat.zero_le _, ⟨_, hw_32, zIs_nil _⟩, _, hw_33⟩, fun j hj => by rw [hp24, va_up_ne _ _ (by omega)]; rw [hp13, va_up_ne _ _ (by omega)]; rw [hp2.2.2 j (by omega)]⟩) (Nat.le_of_ble_eq_true rfl) (Nat.le_of_ble_eq_true rfl)

