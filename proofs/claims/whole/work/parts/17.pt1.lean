theorem zPart_all (xs : List Int32) : zPart xs 0 xs.length = xs := by
  unfold zPart
  rw [List.take_length, List.drop_zero]
theorem z_keepRow {f g : Nat → Int32} {xs : List Int32} (h : zIs g xs) : zIs (va_cpy g f 0 0 (xs.length - 0)) xs := by
  have h1 := zIs_cpy (zIs_nil f) h (b := 0) (k := xs.length) (Nat.le_refl _)
  rw [List.nil_append, zPart_all] at h1
  exact h1
theorem zIs_cpyN {f g : Nat → Int32} {xs ys : List Int32} {n : Nat} (h : zIs f xs) (hn : n = xs.length) (h2 : zIs g ys) {b k : Nat} (hk : k ≤ ys.length) : zIs (va_cpy g f b n (k - b)) (xs ++ zPart ys b k) := by
  subst hn; exact zIs_cpy h h2 hk
theorem zIs_addN {f : Nat → Int32} {xs : List Int32} {n : Nat} (h : zIs f xs) (hn : n = xs.length) (x : Int32) : zIs (upd f n x) (xs ++ [x]) := by
  subst hn; exact zIs_add h x
def sIns (xs : List Int32) (q : Nat) (x : Int32) : List Int32 := (([] ++ zPart xs 0 q) ++ [x]) ++ zPart xs q xs.length
def sDel (xs : List Int32) (q k : Nat) : List Int32 := ([] ++ zPart xs 0 q) ++ zPart xs (q + k) xs.length
def sCopy (xs : List Int32) (q k u : Nat) : List Int32 := (([] ++ zPart xs 0 u) ++ zPart xs q (q + k)) ++ zPart xs u xs.length
theorem sIns_len {xs : List Int32} {q : Nat} (hq : q ≤ xs.length) (x : Int32) : (sIns xs q x).length = 0 + (q - 0) + 1 + (xs.length - q) := by
  unfold sIns
  rw [List.nil_append, List.length_append, List.length_append, zPart_len hq, zPart_len (Nat.le_refl _), List.length_singleton]
  omega
theorem sDel_len {xs : List Int32} {q k : Nat} (hq : q ≤ xs.length) : (sDel xs q k).length = 0 + (q - 0) + (xs.length - (q + k)) := by
  unfold sDel
  rw [List.nil_append, List.length_append, zPart_len hq, zPart_len (Nat.le_refl _)]
  omega
theorem sCopy_len {xs : List Int32} {q k u : Nat} (hq : q + k ≤ xs.length) (hu : u ≤ xs.length) : (sCopy xs q k u).length = 0 + (u - 0) + (q + k - q) + (xs.length - u) := by
  unfold sCopy
  rw [List.nil_append, List.length_append, List.length_append, zPart_len hu, zPart_len hq, zPart_len (Nat.le_refl _)]
  omega
theorem sIns_ch {xs : List Int32} {q : Nat} {x : Int32} (h : zCh xs) (hx : ∃ q, q < 256 ∧ x = nI q) : zCh (sIns xs q x) := zCh_app (zCh_app (zCh_app zCh_nil (zCh_part h _ _)) (zCh_one hx)) (zCh_part h _ _)
theorem sDel_ch {xs : List Int32} {q k : Nat} (h : zCh xs) : zCh (sDel xs q k) := zCh_app (zCh_app zCh_nil (zCh_part h _ _)) (zCh_part h _ _)
theorem sCopy_ch {xs : List Int32} {q k u : Nat} (h : zCh xs) : zCh (sCopy xs q k u) := zCh_app (zCh_app (zCh_app zCh_nil (zCh_part h _ _)) (zCh_part h _ _)) (zCh_part h _ _)
theorem qX3_keepDraft_0 : ∀ w ∈ wsX30, w ∈ wsX3_keepDraft := by decide +kernel
theorem qX3_keepDraft_1 : Cond.fieldLink RX3 10 "PieceText" "history" "LPieceText$History;" ∈ wsX3_keepDraft := by decide +kernel
theorem qX3_keepDraft_2 : Cond.fieldLink RX3 32 "PieceText" "draft" "LPieceText$Row;" ∈ wsX3_keepDraft := by decide +kernel
set_option maxHeartbeats 4000000 in
set_option maxRecDepth 100000 in
theorem c_PT_keepDraft (l : Launch) (D : va_G) (cI cR cL : ClassId) (B N : Nat) (ad : Nat → Nat) (cw : Nat → va_E) (hN : 45 < N) {past fut : Nat} {hs : Nat → List Int32} {pat ws dr : List Int32} (hX : zRX cI cR ad cw past fut hs pat ws dr) (hc : zCh dr) : Met l yX3_keepDraft wsX3_keepDraft ({ frames := 3, cells := 0, slots := 0, locals := 104 } : Room) (va_Pc [.ref (ad (0))] (zI D vwCl (zTy cI cR cL) B N ad cw)) (zQi D vwCl B N ad (fun (v : Int32) (cw' : Nat → va_E) => v = nI dr.length ∧ zRX cI cR ad cw' (aPast past) 0 (aHs past hs dr) pat ws dr ∧ ∀ j, 37 ≤ j → cw' j = cw j)) 0 0 (zA B) := by
  obtain ⟨x0, ⟨now, hH⟩, ⟨fr, ht, hfr⟩, ⟨p1, p2, pf, p3, p4⟩, ⟨w1, w2, ⟨wf, w3, w4⟩, sf, w5⟩, ⟨d1, d2, g, d3, d4⟩, nf, x6⟩ := id hX
  obtain ⟨g1, g2, g3, g4, g5, g6⟩ := id hH
  obtain ⟨t1, t2, f, t3, t4⟩ := zHist_now hH
  obtain ⟨ys, y1, y2, fk, y3, y4⟩ := g5 ((now + 1) % 13) (Nat.mod_lt _ (by omega))
  refine z_ofW (cc := cX3_keepDraft) (maxL := 1) (ret := (some .int)) (by decide) rfl (Nat.le_of_ble_eq_true rfl) ?_
  intro p e s m args below meth c C hr hnm
  refine z_lv (lv' := [(0, .ref (ad (0)))]) [0] rfl ?_
  refine z_aload_n C dX3_keepDraft_0 0 rfl ?_
  refine z_get (Cn := RX3) (T := TX3) (NF := 5) (ci := 3) (v := .ref (ad (1))) C qX3_keepDraft_0 rfl 0 (by decide) (C.2.2.2.2.1 _ qX3_keepDraft_1) (fun _ h9 => h9) dX3_keepDraft_1 (0) (by omega) x0 rfl ?_
  refine z_aload_n C dX3_keepDraft_4 0 rfl ?_
  refine z_get (Cn := RX3) (T := TX3) (NF := 5) (ci := 3) (v := .ref (ad (34))) C qX3_keepDraft_0 rfl 3 (by decide) (C.2.2.2.2.1 _ qX3_keepDraft_2) (fun _ h9 => h9) dX3_keepDraft_5 (0) (by omega) x0 rfl ?_
  refine z_callv (z_runV (As := [.ref (ad (34))]) (rest := []) C (c_Hist_keep l D cI cR cL B N ad cw (by omega) g3 (by omega) ht hfr g1 (k := (now + 1) % 13) (Nat.mod_lt _ (by omega)) (by omega) y1 y3 (by omega) d1 d3 d2 rfl (by omega)) (cwV 1 C.2.2.2.2.1 gX3_keepDraft_X0_keep rfl rfl rfl (by decide +kernel) ⟨Nat.le_of_ble_eq_true rfl, Nat.le_of_ble_eq_true rfl⟩) (by omega) g3 rfl rfl rfl rfl (Nat.le_of_ble_eq_true rfl) dX3_keepDraft_8 ⟨Nat.le_of_ble_eq_true rfl, Nat.le_of_ble_eq_true rfl⟩) (fun cw2 hp1 => ?_)
  have hw_3 : cw2 (0) = .inr (3, [.ref (ad (1)), .ref (ad (29)), .ref (ad (31)), .ref (ad (34)), .ref (ad (36))]) := by rw [hp1.2.2.2 (0) (by omega)]; exact x0
  have hw_4 : cw2 (1) = .inr (0, [.ref (ad (2)), .int (nI ((now + 1) % 13)), .int (nI (aPast past)), .int (nI 0)]) := hp1.1
  have hw_5 : cw2 (2) = .inl (cR, 13, .inr (.inr (.inr (.inr (fr))))) := by rw [hp1.2.2.2 (2) (by omega)]; exact ht
  have hw_6 : cw2 (34) = .inr (2, [.ref (ad (35)), .int (nI (dr.length))]) := by rw [hp1.2.2.2 (34) (by omega)]; exact d1
  have hw_7 : cw2 (35) = .inl (cI, 240, .inl (g)) := by rw [hp1.2.2.2 (35) (by omega)]; exact d3
  refine z_aload_n C dX3_keepDraft_11 0 rfl ?_
  refine z_get (Cn := RX3) (T := TX3) (NF := 5) (ci := 3) (v := .ref (ad (34))) C qX3_keepDraft_0 rfl 3 (by decide) (C.2.2.2.2.1 _ qX3_keepDraft_2) (fun _ h9 => h9) dX3_keepDraft_12 (0) (by omega) hw_3 rfl ?_
  refine z_calli (z_runV (As := []) (rest := []) C (c_Row_size l D cI cR cL B N ad cw2 (by omega) hw_6) (cwV 0 C.2.2.2.2.1 gX3_keepDraft_X2_size rfl rfl rfl (by decide +kernel) ⟨Nat.le_of_ble_eq_true rfl, Nat.le_of_ble_eq_true rfl⟩) (by omega) hw_6 rfl rfl rfl rfl (Nat.le_of_ble_eq_true rfl) dX3_keepDraft_15 ⟨Nat.le_of_ble_eq_true rfl, Nat.le_of_ble_eq_true rfl⟩) (fun r8 cw9 hp10 => ?_)
  refine z_cw hp10.2 ?_
  refine z_top hp10.1 ?_
  exact z_iret C hr dX3_keepDraft_18 (⟨rfl, zRX_hist hX (fun j hj => hp1.2.2.2 j (by omega)) (zHist_keep hH hc hp1.1 ⟨by rw [hp1.2.1, Nat.zero_add]; rfl, d2, _, hp1.2.2.1, z_keepRow d4⟩ hp1.2.2.2), fun j hj => hp1.2.2.2 j (by omega)⟩) (Nat.le_of_ble_eq_true rfl) (Nat.le_of_ble_eq_true rfl)

theorem qX3_insert_0 : ∀ w ∈ wsX30, w ∈ wsX3_insert := by decide +kernel
theorem qX3_insert_1 : Cond.fieldLink RX3 10 "PieceText" "history" "LPieceText$History;" ∈ wsX3_insert := by decide +kernel
theorem qX3_insert_2 : Cond.fieldLink RX3 32 "PieceText" "draft" "LPieceText$Row;" ∈ wsX3_insert := by decide +kernel
set_option maxHeartbeats 4000000 in
set_option maxRecDepth 100000 in
theorem c_PT_insert (l : Launch) (D : va_G) (cI cR cL : ClassId) (B N : Nat) (ad : Nat → Nat) (cw : Nat → va_E) (hl8 : l.stackTraces = false) (hN : 45 < N) {past fut : Nat} {hs : Nat → List Int32} {pat ws dr : List Int32} (hX : zRX cI cR ad cw past fut hs pat ws dr) (x ch : Int32) : vx_Met l yX3_insert wsX3_insert ({ frames := 7, cells := 3, slots := 18, locals := 124 } : Room) (va_Pc [.ref (ad (0)), .int (x), .int (ch)] (zI D vwCl (zTy cI cR cL) B N ad cw)) (zQi D vwCl B N ad (fun (v : Int32) (cw' : Nat → va_E) => ∃ q, q ≤ (hs past).length ∧ x = nI q ∧ (∃ q, q < 256 ∧ ch = nI q) ∧ (hs past).length + 1 ≤ 240 ∧ v = nI (sIns (hs past) q ch).length ∧ zRX cI cR ad cw' (aPast past) 0 (aHs past hs (sIns (hs past) q ch)) pat ws (sIns (hs past) q ch) ∧ ∀ j, 37 ≤ j → cw' j = cw j)) (zXC D vwCl B N ad cw (fun E : String => (E = xIO ∧ ¬ (∃ q, q ≤ (hs past).length ∧ x = nI q)) ∨ (E = xIA ∧ (∃ q, q ≤ (hs past).length ∧ x = nI q) ∧ ¬ (∃ q, q < 256 ∧ ch = nI q)) ∨ (E = xUO ∧ (∃ q, q ≤ (hs past).length ∧ x = nI q) ∧ (∃ q, q < 256 ∧ ch = nI q) ∧ ¬ ((hs past).length + 1 ≤ 240)))) 3 18 (zA B) := by
  obtain ⟨x0, ⟨now, hH⟩, ⟨fr, ht, hfr⟩, ⟨p1, p2, pf, p3, p4⟩, ⟨w1, w2, ⟨wf, w3, w4⟩, sf, w5⟩, ⟨d1, d2, g, d3, d4⟩, nf, x6⟩ := id hX
  obtain ⟨g1, g2, g3, g4, g5, g6⟩ := id hH
  obtain ⟨t1, t2, f, t3, t4⟩ := zHist_now hH
  refine z_ofX (cc := cX3_insert) (maxL := 4) (ret := (some .int)) (by decide) rfl (Nat.le_of_ble_eq_true rfl) ?_
  intro p e s m args below meth c C hr h0
  refine z_lv (lv' := [(0, .ref (ad (0))), (1, .int (x)), (2, .int (ch))]) [0, 1, 2] rfl ?_
  refine z_aload_n C dX3_insert_0 0 rfl ?_
  refine z_get (Cn := RX3) (T := TX3) (NF := 5) (ci := 3) (v := .ref (ad (1))) C qX3_insert_0 rfl 0 (by decide) (C.2.2.2.2.1 _ qX3_insert_1) (fun _ h9 => h9) dX3_insert_1 (0) (by omega) x0 rfl ?_
  refine z_callr (z_runV (As := []) (rest := []) C (c_Hist_present l D cI cR cL B N ad cw (by omega) g3 (by omega) ht hfr g1) (cwV 0 C.2.2.2.2.1 gX3_insert_X0_present rfl rfl rfl (by decide +kernel) ⟨Nat.le_of_ble_eq_true rfl, Nat.le_of_ble_eq_true rfl⟩) (by omega) g3 rfl rfl rfl rfl (Nat.le_of_ble_eq_true rfl) dX3_insert_4 ⟨Nat.le_of_ble_eq_true rfl, Nat.le_of_ble_eq_true rfl⟩) (fun r1 cw2 hp3 => ?_)
  obtain ⟨rfl, hp3c⟩ := hp3
  refine z_cw hp3c ?_
  refine z_astore_n (lv' := [(3, .ref (ad (3 + 2 * now))), (0, .ref (ad (0))), (1, .int (x)), (2, .int (ch))]) C dX3_insert_7 rfl (by decide) rfl ?_
  refine z_iload_n C dX3_insert_8 2 rfl ?_
  refine z_aload_n C dX3_insert_9 0 rfl ?_
  refine z_xcallv (z_xrunS (As := [.int (x), .ref (ad (3 + 2 * now))]) (rest := []) C (c_PT_noPlace l D cI cR cL B N ad cw hl8 (by omega) t1 (by omega) (x)) (va_cwS 2 C.2.2.2.2.1 gX3_insert_X3_refuseNoPlace rfl rfl rfl (by decide +kernel) ⟨Nat.le_of_ble_eq_true rfl, Nat.le_of_ble_eq_true rfl⟩) rfl rfl (Nat.le_of_ble_eq_true rfl) dX3_insert_10 ⟨Nat.le_of_ble_eq_true rfl, Nat.le_of_ble_eq_true rfl⟩) (fun E6 hx7 => ?_) (fun cw4 hp5 => ?_)
  · exact z_xout C h0 (Or.inl hx7) (Nat.le_of_ble_eq_true rfl) (Nat.le_of_ble_eq_true rfl)
  obtain ⟨⟨q, hq, rfl⟩, hp5c⟩ := hp5
  refine z_cw hp5c ?_
  refine z_iload_n C dX3_insert_13 3 rfl ?_
  refine z_xcallv (z_xrunS (As := [.int (ch)]) (rest := []) C (c_PT_noChar l D cI cR cL B N ad cw hl8 (ch)) (va_cwS 1 C.2.2.2.2.1 gX3_insert_X3_refuseNoCharacter rfl rfl rfl (by decide +kernel) ⟨Nat.le_of_ble_eq_true rfl, Nat.le_of_ble_eq_true rfl⟩) rfl rfl (Nat.le_of_ble_eq_true rfl) dX3_insert_14 ⟨Nat.le_of_ble_eq_true rfl, Nat.le_of_ble_eq_true rfl⟩) (fun E10 hx11 => ?_) (fun cw8 hp9 => ?_)
  · exact z_xout C h0 (Or.inr (Or.inl ⟨hx11.1, ⟨q, hq, rfl⟩, hx11.2⟩)) (Nat.le_of_ble_eq_true rfl) (Nat.le_of_ble_eq_true rfl)
  obtain ⟨⟨u, hu, rfl⟩, hp9c⟩ := hp9
  refine z_cw hp9c ?_
  refine z_iconst (v := nI 1) C dX3_insert_17 (by decide) ?_
  refine z_aload_n C dX3_insert_18 0 rfl ?_
  refine z_xcallv (z_xrunS (As := [.int (nI 1), .ref (ad (3 + 2 * now))]) (rest := []) C (c_PT_tooLong l D cI cR cL B N ad cw hl8 (by omega) t1 (by omega) (k := 1) (by omega)) (va_cwS 2 C.2.2.2.2.1 gX3_insert_X3_refuseTooLong rfl rfl rfl (by decide +kernel) ⟨Nat.le_of_ble_eq_true rfl, Nat.le_of_ble_eq_true rfl⟩) rfl rfl (Nat.le_of_ble_eq_true rfl) dX3_insert_19 ⟨Nat.le_of_ble_eq_true rfl, Nat.le_of_ble_eq_true rfl⟩) (fun E14 hx15 => ?_) (fun cw12 hp13 => ?_)
  · exact z_xout C h0 (Or.inr (Or.inr ⟨hx15.1, ⟨q, hq, rfl⟩, ⟨u, hu, rfl⟩, hx15.2⟩)) (Nat.le_of_ble_eq_true rfl) (Nat.le_of_ble_eq_true rfl)
  obtain ⟨h240, hp13c⟩ := hp13
  refine z_cw hp13c ?_
  refine z_aload_n C dX3_insert_22 1 rfl ?_
  refine z_get (Cn := RX3) (T := TX3) (NF := 5) (ci := 3) (v := .ref (ad (34))) C qX3_insert_0 rfl 3 (by decide) (C.2.2.2.2.1 _ qX3_insert_2) (fun _ h9 => h9) dX3_insert_23 (0) (by omega) x0 rfl ?_
  refine z_callv (z_runV (As := []) (rest := []) C (c_Row_empty l D cI cR cL B N ad cw (by omega) d1) (cwV 0 C.2.2.2.2.1 gX3_insert_X2_empty rfl rfl rfl (by decide +kernel) ⟨Nat.le_of_ble_eq_true rfl, Nat.le_of_ble_eq_true rfl⟩) (by omega) d1 rfl rfl rfl rfl (Nat.le_of_ble_eq_true rfl) dX3_insert_26 ⟨Nat.le_of_ble_eq_true rfl, Nat.le_of_ble_eq_true rfl⟩) (fun cw16 hp17 => ?_)
  have hw_18 : cw16 (0) = .inr (3, [.ref (ad (1)), .ref (ad (29)), .ref (ad (31)), .ref (ad (34)), .ref (ad (36))]) := by rw [hp17, va_up_ne _ _ (by decide)]; exact x0
  have hw_19 : cw16 (1) = .inr (0, [.ref (ad (2)), .int (nI now), .int (nI past), .int (nI fut)]) := by rw [hp17, va_up_ne _ _ (by decide)]; exact g3
  have hw_20 : cw16 (2) = .inl (cR, 13, .inr (.inr (.inr (.inr (fr))))) := by rw [hp17, va_up_ne _ _ (by decide)]; exact ht
  have hw_21 : cw16 (3 + 2 * now) = .inr (2, [.ref (ad (4 + 2 * now)), .int (nI ((hs past).length))]) := by rw [hp17, va_up_ne _ _ (by omega)]; exact t1
  have hw_22 : cw16 (4 + 2 * now) = .inl (cI, 240, .inl (f)) := by rw [hp17, va_up_ne _ _ (by omega)]; exact t3
  have hw_23 : cw16 (34) = .inr (2, [.ref (ad (35)), .int (nI 0)]) := by rw [hp17, va_up_self]
  have hw_24 : cw16 (35) = .inl (cI, 240, .inl (g)) := by rw [hp17, va_up_ne _ _ (by decide)]; exact d3
  refine z_aload_n C dX3_insert_29 1 rfl ?_
  refine z_get (Cn := RX3) (T := TX3) (NF := 5) (ci := 3) (v := .ref (ad (34))) C qX3_insert_0 rfl 3 (by decide) (C.2.2.2.2.1 _ qX3_insert_2) (fun _ h9 => h9) dX3_insert_30 (0) (by omega) hw_18 rfl ?_
  refine z_aload_n C dX3_insert_33 0 rfl ?_
  refine z_iconst (v := nI 0) C dX3_insert_34 (by decide) ?_
  refine z_iload_n C dX3_insert_35 2 rfl ?_
  refine z_callv (z_runV (As := [.ref (ad (3 + 2 * now)), .int (nI (0)), .int (nI (q))]) (rest := []) C (c_Row_addPart l D cI cR cL B N ad cw16 (by omega) hw_23 (by decide) (by omega) hw_24 (by decide) (by omega) hw_21 (by omega) hw_22 (by decide) ⟨(by omega), (by omega), (by omega), (by omega)⟩ (b := 0) (k := q) (Nat.zero_le _) (by omega) (by omega)) (cwV 3 C.2.2.2.2.1 gX3_insert_X2_addPart rfl rfl rfl (by decide +kernel) ⟨Nat.le_of_ble_eq_true rfl, Nat.le_of_ble_eq_true rfl⟩) (by omega) hw_23 rfl rfl rfl rfl (Nat.le_of_ble_eq_true rfl) dX3_insert_36 ⟨Nat.le_of_ble_eq_true rfl, Nat.le_of_ble_eq_true rfl⟩) (fun cw25 hp26 => ?_)
  have hw_27 : cw25 (0) = .inr (3, [.ref (ad (1)), .ref (ad (29)), .ref (ad (31)), .ref (ad (34)), .ref (ad (36))]) := by rw [hp26, va_up_ne _ _ (by decide), va_up_ne _ _ (by decide)]; exact hw_18
  have hw_28 : cw25 (1) = .inr (0, [.ref (ad (2)), .int (nI now), .int (nI past), .int (nI fut)]) := by rw [hp26, va_up_ne _ _ (by decide), va_up_ne _ _ (by decide)]; exact hw_19
  have hw_29 : cw25 (2) = .inl (cR, 13, .inr (.inr (.inr (.inr (fr))))) := by rw [hp26, va_up_ne _ _ (by decide), va_up_ne _ _ (by decide)]; exact hw_20
  have hw_30 : cw25 (3 + 2 * now) = .inr (2, [.ref (ad (4 + 2 * now)), .int (nI ((hs past).length))]) := by rw [hp26, va_up_ne _ _ (by omega), va_up_ne _ _ (by omega)]; exact hw_21
  have hw_31 : cw25 (4 + 2 * now) = .inl (cI, 240, .inl (f)) := by rw [hp26, va_up_ne _ _ (by omega), va_up_ne _ _ (by omega)]; exact hw_22
  have hw_32 : cw25 (34) = .inr (2, [.ref (ad (35)), .int (nI (0 + (q - 0)))]) := by rw [hp26, va_up_self]
  have hw_33 : cw25 (35) = .inl (cI, 240, .inl (va_cpy (f) (g) (0) (0) (q - 0))) := by rw [hp26, va_up_ne _ _ (by decide), va_up_self]
  refine z_aload_n C dX3_insert_39 1 rfl ?_
  refine z_get (Cn := RX3) (T := TX3) (NF := 5) (ci := 3) (v := .ref (ad (34))) C qX3_insert_0 rfl 3 (by decide) (C.2.2.2.2.1 _ qX3_insert_2) (fun _ h9 => h9) dX3_insert_40 (0) (by omega) hw_27 rfl ?_
  refine z_iload_n C dX3_insert_43 3 rfl ?_
  refine z_callv (z_runV (As := [.int (nI u)]) (rest := []) C (c_Row_add l D cI cR cL B N ad cw25 (by omega) hw_32 (by decide) (by omega) hw_33 (by decide) (by omega) (nI u)) (cwV 1 C.2.2.2.2.1 gX3_insert_X2_add rfl rfl rfl (by decide +kernel) ⟨Nat.le_of_ble_eq_true rfl, Nat.le_of_ble_eq_true rfl⟩) (by omega) hw_32 rfl rfl rfl rfl (Nat.le_of_ble_eq_true rfl) dX3_insert_44 ⟨Nat.le_of_ble_eq_true rfl, Nat.le_of_ble_eq_true rfl⟩) (fun cw34 hp35 => ?_)
  have hw_36 : cw34 (0) = .inr (3, [.ref (ad (1)), .ref (ad (29)), .ref (ad (31)), .ref (ad (34)), .ref (ad (36))]) := by rw [hp35, va_up_ne _ _ (by decide), va_up_ne _ _ (by decide)]; exact hw_27
  have hw_37 : cw34 (1) = .inr (0, [.ref (ad (2)), .int (nI now), .int (nI past), .int (nI fut)]) := by rw [hp35, va_up_ne _ _ (by decide), va_up_ne _ _ (by decide)]; exact hw_28
  have hw_38 : cw34 (2) = .inl (cR, 13, .inr (.inr (.inr (.inr (fr))))) := by rw [hp35, va_up_ne _ _ (by decide), va_up_ne _ _ (by decide)]; exact hw_29
  have hw_39 : cw34 (3 + 2 * now) = .inr (2, [.ref (ad (4 + 2 * now)), .int (nI ((hs past).length))]) := by rw [hp35, va_up_ne _ _ (by omega), va_up_ne _ _ (by omega)]; exact hw_30
  have hw_40 : cw34 (4 + 2 * now) = .inl (cI, 240, .inl (f)) := by rw [hp35, va_up_ne _ _ (by omega), va_up_ne _ _ (by omega)]; exact hw_31
  have hw_41 : cw34 (34) = .inr (2, [.ref (ad (35)), .int (nI (0 + (q - 0) + 1))]) := by rw [hp35, va_up_self]
  have hw_42 : cw34 (35) = .inl (cI, 240, .inl (upd (va_cpy (f) (g) (0) (0) (q - 0)) (0 + (q - 0)) (nI u))) := by rw [hp35, va_up_ne _ _ (by decide), va_up_self]
  refine z_aload_n C dX3_insert_47 1 rfl ?_
  refine z_get (Cn := RX3) (T := TX3) (NF := 5) (ci := 3) (v := .ref (ad (34))) C qX3_insert_0 rfl 3 (by decide) (C.2.2.2.2.1 _ qX3_insert_2) (fun _ h9 => h9) dX3_insert_48 (0) (by omega) hw_36 rfl ?_
  refine z_aload_n C dX3_insert_51 0 rfl ?_
  refine z_iload_n C dX3_insert_52 2 rfl ?_
  refine z_aload_n C dX3_insert_53 0 rfl ?_
  refine z_calli (z_runV (As := []) (rest := [.int (nI q), .ref (ad (3 + 2 * now)), .ref (ad (34))]) C (c_Row_size l D cI cR cL B N ad cw34 (by omega) hw_39) (cwV 0 C.2.2.2.2.1 gX3_insert_X2_size rfl rfl rfl (by decide +kernel) ⟨Nat.le_of_ble_eq_true rfl, Nat.le_of_ble_eq_true rfl⟩) (by omega) hw_39 rfl rfl rfl rfl (Nat.le_of_ble_eq_true rfl) dX3_insert_54 ⟨Nat.le_of_ble_eq_true rfl, Nat.le_of_ble_eq_true rfl⟩) (fun r43 cw44 hp45 => ?_)
  refine z_cw hp45.2 ?_
  refine z_top hp45.1 ?_
  refine z_callv (z_runV (As := [.ref (ad (3 + 2 * now)), .int (nI (q)), .int (nI ((hs past).length))]) (rest := []) C (c_Row_addPart l D cI cR cL B N ad cw34 (by omega) hw_41 (by decide) (by omega) hw_42 (by decide) (by omega) hw_39 (by omega) hw_40 (by decide) ⟨(by omega), (by omega), (by omega), (by omega)⟩ (b := q) (k := (hs past).length) (hq) (t2) (by omega)) (cwV 3 C.2.2.2.2.1 gX3_insert_X2_addPart rfl rfl rfl (by decide +kernel) ⟨Nat.le_of_ble_eq_true rfl, Nat.le_of_ble_eq_true rfl⟩) (by omega) hw_41 rfl rfl rfl rfl (Nat.le_of_ble_eq_true rfl) dX3_insert_57 ⟨Nat.le_of_ble_eq_true rfl, Nat.le_of_ble_eq_true rfl⟩) (fun cw46 hp47 => ?_)
  have hw_48 : cw46 (0) = .inr (3, [.ref (ad (1)), .ref (ad (29)), .ref (ad (31)), .ref (ad (34)), .ref (ad (36))]) := by rw [hp47, va_up_ne _ _ (by decide), va_up_ne _ _ (by decide)]; exact hw_36
  have hw_49 : cw46 (1) = .inr (0, [.ref (ad (2)), .int (nI now), .int (nI past), .int (nI fut)]) := by rw [hp47, va_up_ne _ _ (by decide), va_up_ne _ _ (by decide)]; exact hw_37
  have hw_50 : cw46 (2) = .inl (cR, 13, .inr (.inr (.inr (.inr (fr))))) := by rw [hp47, va_up_ne _ _ (by decide), va_up_ne _ _ (by decide)]; exact hw_38
  have hw_51 : cw46 (3 + 2 * now) = .inr (2, [.ref (ad (4 + 2 * now)), .int (nI ((hs past).length))]) := by rw [hp47, va_up_ne _ _ (by omega), va_up_ne _ _ (by omega)]; exact hw_39
  have hw_52 : cw46 (4 + 2 * now) = .inl (cI, 240, .inl (f)) := by rw [hp47, va_up_ne _ _ (by omega), va_up_ne _ _ (by omega)]; exact hw_40
  have hw_53 : cw46 (34) = .inr (2, [.ref (ad (35)), .int (nI (0 + (q - 0) + 1 + ((hs past).length - q)))]) := by rw [hp47, va_up_self]
  have hw_54 : cw46 (35) = .inl (cI, 240, .inl (va_cpy (f) (upd (va_cpy (f) (g) (0) (0) (q - 0)) (0 + (q - 0)) (nI u)) (q) (0 + (q - 0) + 1) ((hs past).length - q))) := by rw [hp47, va_up_ne _ _ (by decide), va_up_self]
  refine z_aload_n C dX3_insert_60 1 rfl ?_
  have hX55 : zRX cI cR ad cw46 past fut hs pat ws (sIns (hs past) q (nI u)) := zRX_draft hX (fun j hj => by rw [hp47, va_up_ne _ _ (by omega), va_up_ne _ _ (by omega)]; rw [hp35, va_up_ne _ _ (by omega), va_up_ne _ _ (by omega)]; rw [hp26, va_up_ne _ _ (by omega), va_up_ne _ _ (by omega)]; rw [hp17, va_up_ne _ _ (by omega)]) (⟨by rw [hw_53, sIns_len hq], by rw [sIns_len hq]; omega, _, hw_54, zIs_cpyN (zIs_addN (zIs_cpyN (zIs_nil _) rfl t4 hq) (by rw [List.nil_append, zPart_len hq]; omega) _) (by rw [List.nil_append, List.length_append, zPart_len hq, List.length_singleton]; omega) t4 (Nat.le_refl _)⟩)
  refine z_calli (z_runV (As := []) (rest := []) C (c_PT_keepDraft l D cI cR cL B N ad cw46 hN hX55 (sIns_ch (g6 past (by omega)) ⟨u, hu, rfl⟩)) (cwV 0 C.2.2.2.2.1 gX3_insert_X3_keepDraft rfl rfl rfl (by decide +kernel) ⟨Nat.le_of_ble_eq_true rfl, Nat.le_of_ble_eq_true rfl⟩) (by omega) hw_48 rfl rfl rfl rfl (Nat.le_of_ble_eq_true rfl) dX3_insert_61 ⟨Nat.le_of_ble_eq_true rfl, Nat.le_of_ble_eq_true rfl⟩) (fun r56 cw57 hp58 => ?_)
  exact z_xiret C hr dX3_insert_64 (⟨q, hq, rfl, ⟨u, hu, rfl⟩, h240, hp58.1, hp58.2.1, fun j hj => (hp58.2.2 j hj).trans ((fun j hj => by rw [hp47, va_up_ne _ _ (by omega), va_up_ne _ _ (by omega)]; rw [hp35, va_up_ne _ _ (by omega), va_up_ne _ _ (by omega)]; rw [hp26, va_up_ne _ _ (by omega), va_up_ne _ _ (by omega)]; rw [hp17, va_up_ne _ _ (by omega)]) j (by omega))⟩) (Nat.le_of_ble_eq_true rfl) (Nat.le_of_ble_eq_true rfl)

theorem qX3_delete_0 : ∀ w ∈ wsX30, w ∈ wsX3_delete := by decide +kernel
theorem qX3_delete_1 : Cond.fieldLink RX3 10 "PieceText" "history" "LPieceText$History;" ∈ wsX3_delete := by decide +kernel
theorem qX3_delete_2 : Cond.fieldLink RX3 32 "PieceText" "draft" "LPieceText$Row;" ∈ wsX3_delete := by decide +kernel
set_option maxHeartbeats 4000000 in
set_option maxRecDepth 100000 in
theorem c_PT_delete (l : Launch) (D : va_G) (cI cR cL : ClassId) (B N : Nat) (ad : Nat → Nat) (cw : Nat → va_E) (hl8 : l.stackTraces = false) (hN : 45 < N) {past fut : Nat} {hs : Nat → List Int32} {pat ws dr : List Int32} (hX : zRX cI cR ad cw past fut hs pat ws dr) (x y : Int32) : vx_Met l yX3_delete wsX3_delete ({ frames := 7, cells := 2, slots := 12, locals := 124 } : Room) (va_Pc [.ref (ad (0)), .int (x), .int (y)] (zI D vwCl (zTy cI cR cL) B N ad cw)) (zQi D vwCl B N ad (fun (v : Int32) (cw' : Nat → va_E) => ∃ q k, q + k ≤ (hs past).length ∧ x = nI q ∧ y = nI k ∧ v = nI (sDel (hs past) q k).length ∧ zRX cI cR ad cw' (aPast past) 0 (aHs past hs (sDel (hs past) q k)) pat ws (sDel (hs past) q k) ∧ ∀ j, 37 ≤ j → cw' j = cw j)) (zXC D vwCl B N ad cw (fun E : String => (E = xIO ∧ ¬ (∃ q, q ≤ (hs past).length ∧ x = nI q)) ∨ (E = xIA ∧ ∃ q, q ≤ (hs past).length ∧ x = nI q ∧ ¬ (∃ k, k ≤ (hs past).length - q ∧ y = nI k)))) 2 12 (zA B) := by
  obtain ⟨x0, ⟨now, hH⟩, ⟨fr, ht, hfr⟩, ⟨p1, p2, pf, p3, p4⟩, ⟨w1, w2, ⟨wf, w3, w4⟩, sf, w5⟩, ⟨d1, d2, g, d3, d4⟩, nf, x6⟩ := id hX
  obtain ⟨g1, g2, g3, g4, g5, g6⟩ := id hH
  obtain ⟨t1, t2, f, t3, t4⟩ := zHist_now hH
  refine z_ofX (cc := cX3_delete) (maxL := 4) (ret := (some .int)) (by decide) rfl (Nat.le_of_ble_eq_true rfl) ?_
  intro p e s m args below meth c C hr h0
  refine z_lv (lv' := [(0, .ref (ad (0))), (1, .int (x)), (2, .int (y))]) [0, 1, 2] rfl ?_
  refine z_aload_n C dX3_delete_0 0 rfl ?_
  refine z_get (Cn := RX3) (T := TX3) (NF := 5) (ci := 3) (v := .ref (ad (1))) C qX3_delete_0 rfl 0 (by decide) (C.2.2.2.2.1 _ qX3_delete_1) (fun _ h9 => h9) dX3_delete_1 (0) (by omega) x0 rfl ?_
  refine z_callr (z_runV (As := []) (rest := []) C (c_Hist_present l D cI cR cL B N ad cw (by omega) g3 (by omega) ht hfr g1) (cwV 0 C.2.2.2.2.1 gX3_delete_X0_present rfl rfl rfl (by decide +kernel) ⟨Nat.le_of_ble_eq_true rfl, Nat.le_of_ble_eq_true rfl⟩) (by omega) g3 rfl rfl rfl rfl (Nat.le_of_ble_eq_true rfl) dX3_delete_4 ⟨Nat.le_of_ble_eq_true rfl, Nat.le_of_ble_eq_true rfl⟩) (fun r1 cw2 hp3 => ?_)
  obtain ⟨rfl, hp3c⟩ := hp3
  refine z_cw hp3c ?_
  refine z_astore_n (lv' := [(3, .ref (ad (3 + 2 * now))), (0, .ref (ad (0))), (1, .int (x)), (2, .int (y))]) C dX3_delete_7 rfl (by decide) rfl ?_
  refine z_iload_n C dX3_delete_8 2 rfl ?_
  refine z_aload_n C dX3_delete_9 0 rfl ?_
  refine z_xcallv (z_xrunS (As := [.int (x), .ref (ad (3 + 2 * now))]) (rest := []) C (c_PT_noPlace l D cI cR cL B N ad cw hl8 (by omega) t1 (by omega) (x)) (va_cwS 2 C.2.2.2.2.1 gX3_delete_X3_refuseNoPlace rfl rfl rfl (by decide +kernel) ⟨Nat.le_of_ble_eq_true rfl, Nat.le_of_ble_eq_true rfl⟩) rfl rfl (Nat.le_of_ble_eq_true rfl) dX3_delete_10 ⟨Nat.le_of_ble_eq_true rfl, Nat.le_of_ble_eq_true rfl⟩) (fun E6 hx7 => ?_) (fun cw4 hp5 => ?_)
  · exact z_xout C h0 (Or.inl hx7) (Nat.le_of_ble_eq_true rfl) (Nat.le_of_ble_eq_true rfl)
  obtain ⟨⟨q, hq, rfl⟩, hp5c⟩ := hp5
  refine z_cw hp5c ?_
  refine z_iload_n C dX3_delete_13 2 rfl ?_
  refine z_iload_n C dX3_delete_14 3 rfl ?_
  refine z_aload_n C dX3_delete_15 0 rfl ?_
  refine z_xcallv (z_xrunS (As := [.int (nI q), .int (y), .ref (ad (3 + 2 * now))]) (rest := []) C (c_PT_noPart l D cI cR cL B N ad cw hl8 (by omega) t1 (by omega) (pl := q) (hq) (y)) (va_cwS 3 C.2.2.2.2.1 gX3_delete_X3_refuseNoPart rfl rfl rfl (by decide +kernel) ⟨Nat.le_of_ble_eq_true rfl, Nat.le_of_ble_eq_true rfl⟩) rfl rfl (Nat.le_of_ble_eq_true rfl) dX3_delete_16 ⟨Nat.le_of_ble_eq_true rfl, Nat.le_of_ble_eq_true rfl⟩) (fun E10 hx11 => ?_) (fun cw8 hp9 => ?_)
  · exact z_xout C h0 (Or.inr ⟨hx11.1, q, hq, rfl, hx11.2⟩) (Nat.le_of_ble_eq_true rfl) (Nat.le_of_ble_eq_true rfl)
  obtain ⟨⟨k, hk, rfl⟩, hp9c⟩ := hp9
  refine z_cw hp9c ?_
  refine z_aload_n C dX3_delete_19 1 rfl ?_
  refine z_get (Cn := RX3) (T := TX3) (NF := 5) (ci := 3) (v := .ref (ad (34))) C qX3_delete_0 rfl 3 (by decide) (C.2.2.2.2.1 _ qX3_delete_2) (fun _ h9 => h9) dX3_delete_20 (0) (by omega) x0 rfl ?_
  refine z_callv (z_runV (As := []) (rest := []) C (c_Row_empty l D cI cR cL B N ad cw (by omega) d1) (cwV 0 C.2.2.2.2.1 gX3_delete_X2_empty rfl rfl rfl (by decide +kernel) ⟨Nat.le_of_ble_eq_true rfl, Nat.le_of_ble_eq_true rfl⟩) (by omega) d1 rfl rfl rfl rfl (Nat.le_of_ble_eq_true rfl) dX3_delete_23 ⟨Nat.le_of_ble_eq_true rfl, Nat.le_of_ble_eq_true rfl⟩) (fun cw12 hp13 => ?_)
  have hw_14 : cw12 (0) = .inr (3, [.ref (ad (1)), .ref (ad (29)), .ref (ad (31)), .ref (ad (34)), .ref (ad (36))]) := by rw [hp13, va_up_ne _ _ (by decide)]; exact x0
  have hw_15 : cw12 (1) = .inr (0, [.ref (ad (2)), .int (nI now), .int (nI past), .int (nI fut)]) := by rw [hp13, va_up_ne _ _ (by decide)]; exact g3
  have hw_16 : cw12 (2) = .inl (cR, 13, .inr (.inr (.inr (.inr (fr))))) := by rw [hp13, va_up_ne _ _ (by decide)]; exact ht
  have hw_17 : cw12 (3 + 2 * now) = .inr (2, [.ref (ad (4 + 2 * now)), .int (nI ((hs past).length))]) := by rw [hp13, va_up_ne _ _ (by omega)]; exact t1
  have hw_18 : cw12 (4 + 2 * now) = .inl (cI, 240, .inl (f)) := by rw [hp13, va_up_ne _ _ (by omega)]; exact t3
  have hw_19 : cw12 (34) = .inr (2, [.ref (ad (35)), .int (nI 0)]) := by rw [hp13, va_up_self]
  have hw_20 : cw12 (35) = .inl (cI, 240, .inl (g)) := by rw [hp13, va_up_ne _ _ (by decide)]; exact d3
  refine z_aload_n C dX3_delete_26 1 rfl ?_
  refine z_get (Cn := RX3) (T := TX3) (NF := 5) (ci := 3) (v := .ref (ad (34))) C qX3_delete_0 rfl 3 (by decide) (C.2.2.2.2.1 _ qX3_delete_2) (fun _ h9 => h9) dX3_delete_27 (0) (by omega) hw_14 rfl ?_
  refine z_aload_n C dX3_delete_30 0 rfl ?_
  refine z_iconst (v := nI 0) C dX3_delete_31 (by decide) ?_
  refine z_iload_n C dX3_delete_32 2 rfl ?_
  refine z_callv (z_runV (As := [.ref (ad (3 + 2 * now)), .int (nI (0)), .int (nI (q))]) (rest := []) C (c_Row_addPart l D cI cR cL B N ad cw12 (by omega) hw_19 (by decide) (by omega) hw_20 (by decide) (by omega) hw_17 (by omega) hw_18 (by decide) ⟨(by omega), (by omega), (by omega), (by omega)⟩ (b := 0) (k := q) (Nat.zero_le _) (by omega) (by omega)) (cwV 3 C.2.2.2.2.1 gX3_delete_X2_addPart rfl rfl rfl (by decide +kernel) ⟨Nat.le_of_ble_eq_true rfl, Nat.le_of_ble_eq_true rfl⟩) (by omega) hw_19 rfl rfl rfl rfl (Nat.le_of_ble_eq_true rfl) dX3_delete_33 ⟨Nat.le_of_ble_eq_true rfl, Nat.le_of_ble_eq_true rfl⟩) (fun cw21 hp22 => ?_)
  have hw_23 : cw21 (0) = .inr (3, [.ref (ad (1)), .ref (ad (29)), .ref (ad (31)), .ref (ad (34)), .ref (ad (36))]) := by rw [hp22, va_up_ne _ _ (by decide), va_up_ne _ _ (by decide)]; exact hw_14
  have hw_24 : cw21 (1) = .inr (0, [.ref (ad (2)), .int (nI now), .int (nI past), .int (nI fut)]) := by rw [hp22, va_up_ne _ _ (by decide), va_up_ne _ _ (by decide)]; exact hw_15
  have hw_25 : cw21 (2) = .inl (cR, 13, .inr (.inr (.inr (.inr (fr))))) := by rw [hp22, va_up_ne _ _ (by decide), va_up_ne _ _ (by decide)]; exact hw_16
  have hw_26 : cw21 (3 + 2 * now) = .inr (2, [.ref (ad (4 + 2 * now)), .int (nI ((hs past).length))]) := by rw [hp22, va_up_ne _ _ (by omega), va_up_ne _ _ (by omega)]; exact hw_17
  have hw_27 : cw21 (4 + 2 * now) = .inl (cI, 240, .inl (f)) := by rw [hp22, va_up_ne _ _ (by omega), va_up_ne _ _ (by omega)]; exact hw_18
  have hw_28 : cw21 (34) = .inr (2, [.ref (ad (35)), .int (nI (0 + (q - 0)))]) := by rw [hp22, va_up_self]
  have hw_29 : cw21 (35) = .inl (cI, 240, .inl (va_cpy (f) (g) (0) (0) (q - 0))) := by rw [hp22, va_up_ne _ _ (by decide), va_up_self]
  refine z_aload_n C dX3_delete_36 1 rfl ?_
  refine z_get (Cn := RX3) (T := TX3) (NF := 5) (ci := 3) (v := .ref (ad (34))) C qX3_delete_0 rfl 3 (by decide) (C.2.2.2.2.1 _ qX3_delete_2) (fun _ h9 => h9) dX3_delete_37 (0) (by omega) hw_23 rfl ?_
  refine z_aload_n C dX3_delete_40 0 rfl ?_
  refine z_iload_n C dX3_delete_41 2 rfl ?_
  refine z_iload_n C dX3_delete_42 3 rfl ?_
  refine z_iadd C dX3_delete_43 ?_
  refine z_top (y := nI (q + k)) (nI_add _ _) ?_
  refine z_aload_n C dX3_delete_44 0 rfl ?_
  refine z_calli (z_runV (As := []) (rest := [.int (nI (q + k)), .ref (ad (3 + 2 * now)), .ref (ad (34))]) C (c_Row_size l D cI cR cL B N ad cw21 (by omega) hw_26) (cwV 0 C.2.2.2.2.1 gX3_delete_X2_size rfl rfl rfl (by decide +kernel) ⟨Nat.le_of_ble_eq_true rfl, Nat.le_of_ble_eq_true rfl⟩) (by omega) hw_26 rfl rfl rfl rfl (Nat.le_of_ble_eq_true rfl) dX3_delete_45 ⟨Nat.le_of_ble_eq_true rfl, Nat.le_of_ble_eq_true rfl⟩) (fun r30 cw31 hp32 => ?_)
  refine z_cw hp32.2 ?_
  refine z_top hp32.1 ?_
  refine z_callv (z_runV (As := [.ref (ad (3 + 2 * now)), .int (nI (q + k)), .int (nI ((hs past).length))]) (rest := []) C (c_Row_addPart l D cI cR cL B N ad cw21 (by omega) hw_28 (by decide) (by omega) hw_29 (by decide) (by omega) hw_26 (by omega) hw_27 (by decide) ⟨(by omega), (by omega), (by omega), (by omega)⟩ (b := q + k) (k := (hs past).length) (by omega) (t2) (by omega)) (cwV 3 C.2.2.2.2.1 gX3_delete_X2_addPart rfl rfl rfl (by decide +kernel) ⟨Nat.le_of_ble_eq_true rfl, Nat.le_of_ble_eq_true rfl⟩) (by omega) hw_28 rfl rfl rfl rfl (Nat.le_of_ble_eq_true rfl) dX3_delete_48 ⟨Nat.le_of_ble_eq_true rfl, Nat.le_of_ble_eq_true rfl⟩) (fun cw33 hp34 => ?_)
  have hw_35 : cw33 (0) = .inr (3, [.ref (ad (1)), .ref (ad (29)), .ref (ad (31)), .ref (ad (34)), .ref (ad (36))]) := by rw [hp34, va_up_ne _ _ (by decide), va_up_ne _ _ (by decide)]; exact hw_23
  have hw_36 : cw33 (1) = .inr (0, [.ref (ad (2)), .int (nI now), .int (nI past), .int (nI fut)]) := by rw [hp34, va_up_ne _ _ (by decide), va_up_ne _ _ (by decide)]; exact hw_24
  have hw_37 : cw33 (2) = .inl (cR, 13, .inr (.inr (.inr (.inr (fr))))) := by rw [hp34, va_up_ne _ _ (by decide), va_up_ne _ _ (by decide)]; exact hw_25
  have hw_38 : cw33 (3 + 2 * now) = .inr (2, [.ref (ad (4 + 2 * now)), .int (nI ((hs past).length))]) := by rw [hp34, va_up_ne _ _ (by omega), va_up_ne _ _ (by omega)]; exact hw_26
  have hw_39 : cw33 (4 + 2 * now) = .inl (cI, 240, .inl (f)) := by rw [hp34, va_up_ne _ _ (by omega), va_up_ne _ _ (by omega)]; exact hw_27
  have hw_40 : cw33 (34) = .inr (2, [.ref (ad (35)), .int (nI (0 + (q - 0) + ((hs past).length - (q + k))))]) := by rw [hp34, va_up_self]
  have hw_41 : cw33 (35) = .inl (cI, 240, .inl (va_cpy (f) (va_cpy (f) (g) (0) (0) (q - 0)) (q + k) (0 + (q - 0)) ((hs past).length - (q + k)))) := by rw [hp34, va_up_ne _ _ (by decide), va_up_self]
  refine z_aload_n C dX3_delete_51 1 rfl ?_
  have hX42 : zRX cI cR ad cw33 past fut hs pat ws (sDel (hs past) q k) := zRX_draft hX (fun j hj => by rw [hp34, va_up_ne _ _ (by omega), va_up_ne _ _ (by omega)]; rw [hp22, va_up_ne _ _ (by omega), va_up_ne _ _ (by omega)]; rw [hp13, va_up_ne _ _ (by omega)]) (⟨by rw [hw_40, sDel_len hq], by rw [sDel_len hq]; omega, _, hw_41, zIs_cpyN (zIs_cpyN (zIs_nil _) rfl t4 hq) (by rw [List.nil_append, zPart_len hq]; omega) t4 (Nat.le_refl _)⟩)
  refine z_calli (z_runV (As := []) (rest := []) C (c_PT_keepDraft l D cI cR cL B N ad cw33 hN hX42 (sDel_ch (g6 past (by omega)))) (cwV 0 C.2.2.2.2.1 gX3_delete_X3_keepDraft rfl rfl rfl (by decide +kernel) ⟨Nat.le_of_ble_eq_true rfl, Nat.le_of_ble_eq_true rfl⟩) (by omega) hw_35 rfl rfl rfl rfl (Nat.le_of_ble_eq_true rfl) dX3_delete_52 ⟨Nat.le_of_ble_eq_true rfl, Nat.le_of_ble_eq_true rfl⟩) (fun r43 cw44 hp45 => ?_)
  exact z_xiret C hr dX3_delete_55 (⟨q, k, by omega, rfl, rfl, hp45.1, hp45.2.1, fun j hj => (hp45.2.2 j hj).trans ((fun j hj => by rw [hp34, va_up_ne _ _ (by omega), va_up_ne _ _ (by omega)]; rw [hp22, va_up_ne _ _ (by omega), va_up_ne _ _ (by omega)]; rw [hp13, va_up_ne _ _ (by omega)]) j (by omega))⟩) (Nat.le_of_ble_eq_true rfl) (Nat.le_of_ble_eq_true rfl)

theorem qX3_copy_0 : ∀ w ∈ wsX30, w ∈ wsX3_copy := by decide +kernel
theorem qX3_copy_1 : Cond.fieldLink RX3 10 "PieceText" "history" "LPieceText$History;" ∈ wsX3_copy := by decide +kernel
theorem qX3_copy_2 : Cond.fieldLink RX3 32 "PieceText" "draft" "LPieceText$Row;" ∈ wsX3_copy := by decide +kernel
set_option maxHeartbeats 4000000 in
set_option maxRecDepth 100000 in
theorem c_PT_copy (l : Launch) (D : va_G) (cI cR cL : ClassId) (B N : Nat) (ad : Nat → Nat) (cw : Nat → va_E) (hl8 : l.stackTraces = false) (hN : 45 < N) {past fut : Nat} {hs : Nat → List Int32} {pat ws dr : List Int32} (hX : zRX cI cR ad cw past fut hs pat ws dr) (x y z : Int32) : vx_Met l yX3_copy wsX3_copy ({ frames := 7, cells := 4, slots := 24, locals := 124 } : Room) (va_Pc [.ref (ad (0)), .int (x), .int (y), .int (z)] (zI D vwCl (zTy cI cR cL) B N ad cw)) (zQi D vwCl B N ad (fun (v : Int32) (cw' : Nat → va_E) => ∃ q k u, q + k ≤ (hs past).length ∧ u ≤ (hs past).length ∧ (hs past).length + k ≤ 240 ∧ x = nI q ∧ y = nI k ∧ z = nI u ∧ v = nI (sCopy (hs past) q k u).length ∧ zRX cI cR ad cw' (aPast past) 0 (aHs past hs (sCopy (hs past) q k u)) pat ws (sCopy (hs past) q k u) ∧ ∀ j, 37 ≤ j → cw' j = cw j)) (zXC D vwCl B N ad cw (fun E : String => (E = xIO ∧ ¬ ((∃ q, q ≤ (hs past).length ∧ x = nI q) ∧ (∃ u, u ≤ (hs past).length ∧ z = nI u))) ∨ (E = xIA ∧ (∃ u, u ≤ (hs past).length ∧ z = nI u) ∧ ∃ q, q ≤ (hs past).length ∧ x = nI q ∧ ¬ (∃ k, k ≤ (hs past).length - q ∧ y = nI k)) ∨ (E = xUO ∧ (∃ u, u ≤ (hs past).length ∧ z = nI u) ∧ ∃ q k, q + k ≤ (hs past).length ∧ x = nI q ∧ y = nI k ∧ ¬ ((hs past).length + k ≤ 240)))) 4 24 (zA B) := by
  obtain ⟨x0, ⟨now, hH⟩, ⟨fr, ht, hfr⟩, ⟨p1, p2, pf, p3, p4⟩, ⟨w1, w2, ⟨wf, w3, w4⟩, sf, w5⟩, ⟨d1, d2, g, d3, d4⟩, nf, x6⟩ := id hX
  obtain ⟨g1, g2, g3, g4, g5, g6⟩ := id hH
  obtain ⟨t1, t2, f, t3, t4⟩ := zHist_now hH
  refine z_ofX (cc := cX3_copy) (maxL := 5) (ret := (some .int)) (by decide) rfl (Nat.le_of_ble_eq_true rfl) ?_
  intro p e s m args below meth c C hr h0
  refine z_lv (lv' := [(0, .ref (ad (0))), (1, .int (x)), (2, .int (y)), (3, .int (z))]) [0, 1, 2, 3] rfl ?_
  refine z_aload_n C dX3_copy_0 0 rfl ?_
  refine z_get (Cn := RX3) (T := TX3) (NF := 5) (ci := 3) (v := .ref (ad (1))) C qX3_copy_0 rfl 0 (by decide) (C.2.2.2.2.1 _ qX3_copy_1) (fun _ h9 => h9) dX3_copy_1 (0) (by omega) x0 rfl ?_
  refine z_callr (z_runV (As := []) (rest := []) C (c_Hist_present l D cI cR cL B N ad cw (by omega) g3 (by omega) ht hfr g1) (cwV 0 C.2.2.2.2.1 gX3_copy_X0_present rfl rfl rfl (by decide +kernel) ⟨Nat.le_of_ble_eq_true rfl, Nat.le_of_ble_eq_true rfl⟩) (by omega) g3 rfl rfl rfl rfl (Nat.le_of_ble_eq_true rfl) dX3_copy_4 ⟨Nat.le_of_ble_eq_true rfl, Nat.le_of_ble_eq_true rfl⟩) (fun r1 cw2 hp3 => ?_)
  obtain ⟨rfl, hp3c⟩ := hp3
  refine z_cw hp3c ?_
  refine z_astore (lv' := [(4, .ref (ad (3 + 2 * now))), (0, .ref (ad (0))), (1, .int (x)), (2, .int (y)), (3, .int (z))]) C dX3_copy_7 (by decide) rfl ?_
  refine z_iload_n C dX3_copy_9 2 rfl ?_
  refine z_aload C dX3_copy_10 0 rfl ?_
  refine z_xcallv (z_xrunS (As := [.int (x), .ref (ad (3 + 2 * now))]) (rest := []) C (c_PT_noPlace l D cI cR cL B N ad cw hl8 (by omega) t1 (by omega) (x)) (va_cwS 2 C.2.2.2.2.1 gX3_copy_X3_refuseNoPlace rfl rfl rfl (by decide +kernel) ⟨Nat.le_of_ble_eq_true rfl, Nat.le_of_ble_eq_true rfl⟩) rfl rfl (Nat.le_of_ble_eq_true rfl) dX3_copy_12 ⟨Nat.le_of_ble_eq_true rfl, Nat.le_of_ble_eq_true rfl⟩) (fun E6 hx7 => ?_) (fun cw4 hp5 => ?_)
  · exact z_xout C h0 (Or.inl ⟨hx7.1, fun h9 => hx7.2 h9.1⟩) (Nat.le_of_ble_eq_true rfl) (Nat.le_of_ble_eq_true rfl)
  obtain ⟨⟨q, hq, rfl⟩, hp5c⟩ := hp5
  refine z_cw hp5c ?_
  refine z_iload_n C dX3_copy_15 4 rfl ?_
  refine z_aload C dX3_copy_16 0 rfl ?_
  refine z_xcallv (z_xrunS (As := [.int (z), .ref (ad (3 + 2 * now))]) (rest := []) C (c_PT_noPlace l D cI cR cL B N ad cw hl8 (by omega) t1 (by omega) (z)) (va_cwS 2 C.2.2.2.2.1 gX3_copy_X3_refuseNoPlace rfl rfl rfl (by decide +kernel) ⟨Nat.le_of_ble_eq_true rfl, Nat.le_of_ble_eq_true rfl⟩) rfl rfl (Nat.le_of_ble_eq_true rfl) dX3_copy_18 ⟨Nat.le_of_ble_eq_true rfl, Nat.le_of_ble_eq_true rfl⟩) (fun E10 hx11 => ?_) (fun cw8 hp9 => ?_)
  · exact z_xout C h0 (Or.inl ⟨hx11.1, fun h9 => hx11.2 h9.2⟩) (Nat.le_of_ble_eq_true rfl) (Nat.le_of_ble_eq_true rfl)
  obtain ⟨⟨u, hu, rfl⟩, hp9c⟩ := hp9
  refine z_cw hp9c ?_
  refine z_iload_n C dX3_copy_21 2 rfl ?_
  refine z_iload_n C dX3_copy_22 3 rfl ?_
  refine z_aload C dX3_copy_23 0 rfl ?_
  refine z_xcallv (z_xrunS (As := [.int (nI q), .int (y), .ref (ad (3 + 2 * now))]) (rest := []) C (c_PT_noPart l D cI cR cL B N ad cw hl8 (by omega) t1 (by omega) (pl := q) (hq) (y)) (va_cwS 3 C.2.2.2.2.1 gX3_copy_X3_refuseNoPart rfl rfl rfl (by decide +kernel) ⟨Nat.le_of_ble_eq_true rfl, Nat.le_of_ble_eq_true rfl⟩) rfl rfl (Nat.le_of_ble_eq_true rfl) dX3_copy_25 ⟨Nat.le_of_ble_eq_true rfl, Nat.le_of_ble_eq_true rfl⟩) (fun E14 hx15 => ?_) (fun cw12 hp13 => ?_)
  · exact z_xout C h0 (Or.inr (Or.inl ⟨hx15.1, ⟨u, hu, rfl⟩, q, hq, rfl, hx15.2⟩)) (Nat.le_of_ble_eq_true rfl) (Nat.le_of_ble_eq_true rfl)
  obtain ⟨⟨k, hk, rfl⟩, hp13c⟩ := hp13
  refine z_cw hp13c ?_
  refine z_iload_n C dX3_copy_28 3 rfl ?_
  refine z_aload C dX3_copy_29 0 rfl ?_
  refine z_xcallv (z_xrunS (As := [.int (nI k), .ref (ad (3 + 2 * now))]) (rest := []) C (c_PT_tooLong l D cI cR cL B N ad cw hl8 (by omega) t1 (by omega) (k := k) (by omega)) (va_cwS 2 C.2.2.2.2.1 gX3_copy_X3_refuseTooLong rfl rfl rfl (by decide +kernel) ⟨Nat.le_of_ble_eq_true rfl, Nat.le_of_ble_eq_true rfl⟩) rfl rfl (Nat.le_of_ble_eq_true rfl) dX3_copy_31 ⟨Nat.le_of_ble_eq_true rfl, Nat.le_of_ble_eq_true rfl⟩) (fun E18 hx19 => ?_) (fun cw16 hp17 => ?_)
  · exact z_xout C h0 (Or.inr (Or.inr ⟨hx19.1, ⟨u, hu, rfl⟩, q, k, by omega, rfl, rfl, hx19.2⟩)) (Nat.le_of_ble_eq_true rfl) (Nat.le_of_ble_eq_true rfl)
  obtain ⟨h240, hp17c⟩ := hp17
  refine z_cw hp17c ?_
  refine z_aload_n C dX3_copy_34 1 rfl ?_
  refine z_get (Cn := RX3) (T := TX3) (NF := 5) (ci := 3) (v := .ref (ad (34))) C qX3_copy_0 rfl 3 (by decide) (C.2.2.2.2.1 _ qX3_copy_2) (fun _ h9 => h9) dX3_copy_35 (0) (by omega) x0 rfl ?_
  refine z_callv (z_runV (As := []) (rest := []) C (c_Row_empty l D cI cR cL B N ad cw (by omega) d1) (cwV 0 C.2.2.2.2.1 gX3_copy_X2_empty rfl rfl rfl (by decide +kernel) ⟨Nat.le_of_ble_eq_true rfl, Nat.le_of_ble_eq_true rfl⟩) (by omega) d1 rfl rfl rfl rfl (Nat.le_of_ble_eq_true rfl) dX3_copy_38 ⟨Nat.le_of_ble_eq_true rfl, Nat.le_of_ble_eq_true rfl⟩) (fun cw20 hp21 => ?_)
  have hw_22 : cw20 (0) = .inr (3, [.ref (ad (1)), .ref (ad (29)), .ref (ad (31)), .ref (ad (34)), .ref (ad (36))]) := by rw [hp21, va_up_ne _ _ (by decide)]; exact x0
  have hw_23 : cw20 (1) = .inr (0, [.ref (ad (2)), .int (nI now), .int (nI past), .int (nI fut)]) := by rw [hp21, va_up_ne _ _ (by decide)]; exact g3
  have hw_24 : cw20 (2) = .inl (cR, 13, .inr (.inr (.inr (.inr (fr))))) := by rw [hp21, va_up_ne _ _ (by decide)]; exact ht
  have hw_25 : cw20 (3 + 2 * now) = .inr (2, [.ref (ad (4 + 2 * now)), .int (nI ((hs past).length))]) := by rw [hp21, va_up_ne _ _ (by omega)]; exact t1
  have hw_26 : cw20 (4 + 2 * now) = .inl (cI, 240, .inl (f)) := by rw [hp21, va_up_ne _ _ (by omega)]; exact t3
  have hw_27 : cw20 (34) = .inr (2, [.ref (ad (35)), .int (nI 0)]) := by rw [hp21, va_up_self]
  have hw_28 : cw20 (35) = .inl (cI, 240, .inl (g)) := by rw [hp21, va_up_ne _ _ (by decide)]; exact d3
  refine z_aload_n C dX3_copy_41 1 rfl ?_
  refine z_get (Cn := RX3) (T := TX3) (NF := 5) (ci := 3) (v := .ref (ad (34))) C qX3_copy_0 rfl 3 (by decide) (C.2.2.2.2.1 _ qX3_copy_2) (fun _ h9 => h9) dX3_copy_42 (0) (by omega) hw_22 rfl ?_
  refine z_aload C dX3_copy_45 0 rfl ?_
  refine z_iconst (v := nI 0) C dX3_copy_47 (by decide) ?_
  refine z_iload_n C dX3_copy_48 4 rfl ?_
  refine z_callv (z_runV (As := [.ref (ad (3 + 2 * now)), .int (nI (0)), .int (nI (u))]) (rest := []) C (c_Row_addPart l D cI cR cL B N ad cw20 (by omega) hw_27 (by decide) (by omega) hw_28 (by decide) (by omega) hw_25 (by omega) hw_26 (by decide) ⟨(by omega), (by omega), (by omega), (by omega)⟩ (b := 0) (k := u) (Nat.zero_le _) (by omega) (by omega)) (cwV 3 C.2.2.2.2.1 gX3_copy_X2_addPart rfl rfl rfl (by decide +kernel) ⟨Nat.le_of_ble_eq_true rfl, Nat.le_of_ble_eq_true rfl⟩) (by omega) hw_27 rfl rfl rfl rfl (Nat.le_of_ble_eq_true rfl) dX3_copy_49 ⟨Nat.le_of_ble_eq_true rfl, Nat.le_of_ble_eq_true rfl⟩) (fun cw29 hp30 => ?_)
  have hw_31 : cw29 (0) = .inr (3, [.ref (ad (1)), .ref (ad (29)), .ref (ad (31)), .ref (ad (34)), .ref (ad (36))]) := by rw [hp30, va_up_ne _ _ (by decide), va_up_ne _ _ (by decide)]; exact hw_22
  have hw_32 : cw29 (1) = .inr (0, [.ref (ad (2)), .int (nI now), .int (nI past), .int (nI fut)]) := by rw [hp30, va_up_ne _ _ (by decide), va_up_ne _ _ (by decide)]; exact hw_23
  have hw_33 : cw29 (2) = .inl (cR, 13, .inr (.inr (.inr (.inr (fr))))) := by rw [hp30, va_up_ne _ _ (by decide), va_up_ne _ _ (by decide)]; exact hw_24
  have hw_34 : cw29 (3 + 2 * now) = .inr (2, [.ref (ad (4 + 2 * now)), .int (nI ((hs past).length))]) := by rw [hp30, va_up_ne _ _ (by omega), va_up_ne _ _ (by omega)]; exact hw_25
  have hw_35 : cw29 (4 + 2 * now) = .inl (cI, 240, .inl (f)) := by rw [hp30, va_up_ne _ _ (by omega), va_up_ne _ _ (by omega)]; exact hw_26
  have hw_36 : cw29 (34) = .inr (2, [.ref (ad (35)), .int (nI (0 + (u - 0)))]) := by rw [hp30, va_up_self]
  have hw_37 : cw29 (35) = .inl (cI, 240, .inl (va_cpy (f) (g) (0) (0) (u - 0))) := by rw [hp30, va_up_ne _ _ (by decide), va_up_self]
  refine z_aload_n C dX3_copy_52 1 rfl ?_
  refine z_get (Cn := RX3) (T := TX3) (NF := 5) (ci := 3) (v := .ref (ad (34))) C qX3_copy_0 rfl 3 (by decide) (C.2.2.2.2.1 _ qX3_copy_2) (fun _ h9 => h9) dX3_copy_53 (0) (by omega) hw_31 rfl ?_
  refine z_aload C dX3_copy_56 0 rfl ?_
  refine z_iload_n C dX3_copy_58 2 rfl ?_
  refine z_iload_n C dX3_copy_59 2 rfl ?_
  refine z_iload_n C dX3_copy_60 3 rfl ?_
  refine z_iadd C dX3_copy_61 ?_
  refine z_top (y := nI (q + k)) (nI_add _ _) ?_
  refine z_callv (z_runV (As := [.ref (ad (3 + 2 * now)), .int (nI (q)), .int (nI (q + k))]) (rest := []) C (c_Row_addPart l D cI cR cL B N ad cw29 (by omega) hw_36 (by decide) (by omega) hw_37 (by decide) (by omega) hw_34 (by omega) hw_35 (by decide) ⟨(by omega), (by omega), (by omega), (by omega)⟩ (b := q) (k := q + k) (by omega) (by omega) (by omega)) (cwV 3 C.2.2.2.2.1 gX3_copy_X2_addPart rfl rfl rfl (by decide +kernel) ⟨Nat.le_of_ble_eq_true rfl, Nat.le_of_ble_eq_true rfl⟩) (by omega) hw_36 rfl rfl rfl rfl (Nat.le_of_ble_eq_true rfl) dX3_copy_62 ⟨Nat.le_of_ble_eq_true rfl, Nat.le_of_ble_eq_true rfl⟩) (fun cw38 hp39 => ?_)
  have hw_40 : cw38 (0) = .inr (3, [.ref (ad (1)), .ref (ad (29)), .ref (ad (31)), .ref (ad (34)), .ref (ad (36))]) := by rw [hp39, va_up_ne _ _ (by decide), va_up_ne _ _ (by decide)]; exact hw_31
  have hw_41 : cw38 (1) = .inr (0, [.ref (ad (2)), .int (nI now), .int (nI past), .int (nI fut)]) := by rw [hp39, va_up_ne _ _ (by decide), va_up_ne _ _ (by decide)]; exact hw_32
  have hw_42 : cw38 (2) = .inl (cR, 13, .inr (.inr (.inr (.inr (fr))))) := by rw [hp39, va_up_ne _ _ (by decide), va_up_ne _ _ (by decide)]; exact hw_33
  have hw_43 : cw38 (3 + 2 * now) = .inr (2, [.ref (ad (4 + 2 * now)), .int (nI ((hs past).length))]) := by rw [hp39, va_up_ne _ _ (by omega), va_up_ne _ _ (by omega)]; exact hw_34
  have hw_44 : cw38 (4 + 2 * now) = .inl (cI, 240, .inl (f)) := by rw [hp39, va_up_ne _ _ (by omega), va_up_ne _ _ (by omega)]; exact hw_35
  have hw_45 : cw38 (34) = .inr (2, [.ref (ad (35)), .int (nI (0 + (u - 0) + ((q + k) - q)))]) := by rw [hp39, va_up_self]
  have hw_46 : cw38 (35) = .inl (cI, 240, .inl (va_cpy (f) (va_cpy (f) (g) (0) (0) (u - 0)) (q) (0 + (u - 0)) ((q + k) - q))) := by rw [hp39, va_up_ne _ _ (by decide), va_up_self]
  refine z_aload_n C dX3_copy_65 1 rfl ?_
  refine z_get (Cn := RX3) (T := TX3) (NF := 5) (ci := 3) (v := .ref (ad (34))) C qX3_copy_0 rfl 3 (by decide) (C.2.2.2.2.1 _ qX3_copy_2) (fun _ h9 => h9) dX3_copy_66 (0) (by omega) hw_40 rfl ?_
  refine z_aload C dX3_copy_69 0 rfl ?_
  refine z_iload_n C dX3_copy_71 4 rfl ?_
  refine z_aload C dX3_copy_72 0 rfl ?_
  refine z_calli (z_runV (As := []) (rest := [.int (nI u), .ref (ad (3 + 2 * now)), .ref (ad (34))]) C (c_Row_size l D cI cR cL B N ad cw38 (by omega) hw_43) (cwV 0 C.2.2.2.2.1 gX3_copy_X2_size rfl rfl rfl (by decide +kernel) ⟨Nat.le_of_ble_eq_true rfl, Nat.le_of_ble_eq_true rfl⟩) (by omega) hw_43 rfl rfl rfl rfl (Nat.le_of_ble_eq_true rfl) dX3_copy_74 ⟨Nat.le_of_ble_eq_true rfl, Nat.le_of_ble_eq_true rfl⟩) (fun r47 cw48 hp49 => ?_)
  refine z_cw hp49.2 ?_
  refine z_top hp49.1 ?_
  refine z_callv (z_runV (As := [.ref (ad (3 + 2 * now)), .int (nI (u)), .int (nI ((hs past).length))]) (rest := []) C (c_Row_addPart l D cI cR cL B N ad cw38 (by omega) hw_45 (by decide) (by omega) hw_46 (by decide) (by omega) hw_43 (by omega) hw_44 (by decide) ⟨(by omega), (by omega), (by omega), (by omega)⟩ (b := u) (k := (hs past).length) (hu) (t2) (by omega)) (cwV 3 C.2.2.2.2.1 gX3_copy_X2_addPart rfl rfl rfl (by decide +kernel) ⟨Nat.le_of_ble_eq_true rfl, Nat.le_of_ble_eq_true rfl⟩) (by omega) hw_45 rfl rfl rfl rfl (Nat.le_of_ble_eq_true rfl) dX3_copy_77 ⟨Nat.le_of_ble_eq_true rfl, Nat.le_of_ble_eq_true rfl⟩) (fun cw50 hp51 => ?_)
  have hw_52 : cw50 (0) = .inr (3, [.ref (ad (1)), .ref (ad (29)), .ref (ad (31)), .ref (ad (34)), .ref (ad (36))]) := by rw [hp51, va_up_ne _ _ (by decide), va_up_ne _ _ (by decide)]; exact hw_40
  have hw_53 : cw50 (1) = .inr (0, [.ref (ad (2)), .int (nI now), .int (nI past), .int (nI fut)]) := by rw [hp51, va_up_ne _ _ (by decide), va_up_ne _ _ (by decide)]; exact hw_41
  have hw_54 : cw50 (2) = .inl (cR, 13, .inr (.inr (.inr (.inr (fr))))) := by rw [hp51, va_up_ne _ _ (by decide), va_up_ne _ _ (by decide)]; exact hw_42
  have hw_55 : cw50 (3 + 2 * now) = .inr (2, [.ref (ad (4 + 2 * now)), .int (nI ((hs past).length))]) := by rw [hp51, va_up_ne _ _ (by omega), va_up_ne _ _ (by omega)]; exact hw_43
  have hw_56 : cw50 (4 + 2 * now) = .inl (cI, 240, .inl (f)) := by rw [hp51, va_up_ne _ _ (by omega), va_up_ne _ _ (by omega)]; exact hw_44
  have hw_57 : cw50 (34) = .inr (2, [.ref (ad (35)), .int (nI (0 + (u - 0) + ((q + k) - q) + ((hs past).length - u)))]) := by rw [hp51, va_up_self]
  have hw_58 : cw50 (35) = .inl (cI, 240, .inl (va_cpy (f) (va_cpy (f) (va_cpy (f) (g) (0) (0) (u - 0)) (q) (0 + (u - 0)) ((q + k) - q)) (u) (0 + (u - 0) + ((q + k) - q)) ((hs past).length - u))) := by rw [hp51, va_up_ne _ _ (by decide), va_up_self]
  refine z_aload_n C dX3_copy_80 1 rfl ?_
  have hqk : q + k ≤ (hs past).length := by omega
  have hX59 : zRX cI cR ad cw50 past fut hs pat ws (sCopy (hs past) q k u) := zRX_draft hX (fun j hj => by rw [hp51, va_up_ne _ _ (by omega), va_up_ne _ _ (by omega)]; rw [hp39, va_up_ne _ _ (by omega), va_up_ne _ _ (by omega)]; rw [hp30, va_up_ne _ _ (by omega), va_up_ne _ _ (by omega)]; rw [hp21, va_up_ne _ _ (by omega)]) (⟨by rw [hw_57, sCopy_len hqk hu], by rw [sCopy_len hqk hu]; omega, _, hw_58, zIs_cpyN (zIs_cpyN (zIs_cpyN (zIs_nil _) rfl t4 hu) (by rw [List.nil_append, zPart_len hu]; omega) t4 hqk) (by rw [List.nil_append, List.length_append, zPart_len hu, zPart_len hqk]; omega) t4 (Nat.le_refl _)⟩)
  refine z_calli (z_runV (As := []) (rest := []) C (c_PT_keepDraft l D cI cR cL B N ad cw50 hN hX59 (sCopy_ch (g6 past (by omega)))) (cwV 0 C.2.2.2.2.1 gX3_copy_X3_keepDraft rfl rfl rfl (by decide +kernel) ⟨Nat.le_of_ble_eq_true rfl, Nat.le_of_ble_eq_true rfl⟩) (by omega) hw_52 rfl rfl rfl rfl (Nat.le_of_ble_eq_true rfl) dX3_copy_81 ⟨Nat.le_of_ble_eq_true rfl, Nat.le_of_ble_eq_true rfl⟩) (fun r60 cw61 hp62 => ?_)
  exact z_xiret C hr dX3_copy_84 (⟨q, k, u, hqk, hu, h240, rfl, rfl, rfl, hp62.1, hp62.2.1, fun j hj => (hp62.2.2 j hj).trans ((fun j hj => by rw [hp51, va_up_ne _ _ (by omega), va_up_ne _ _ (by omega)]; rw [hp39, va_up_ne _ _ (by omega), va_up_ne _ _ (by omega)]; rw [hp30, va_up_ne _ _ (by omega), va_up_ne _ _ (by omega)]; rw [hp21, va_up_ne _ _ (by omega)]) j (by omega))⟩) (Nat.le_of_ble_eq_true rfl) (Nat.le_of_ble_eq_true rfl)

