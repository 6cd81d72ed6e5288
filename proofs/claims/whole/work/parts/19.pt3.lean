def lOcc (xs pat : List Int32) (q : Nat) : Prop := zPart xs q (q + pat.length) = pat
theorem lOcc_iff {f g : Nat → Int32} {xs pat : List Int32} (h1 : zIs f xs) (h2 : zIs g pat) {q : Nat} (hq : q ≤ xs.length) : zOcc f g xs.length pat.length q ↔ lOcc xs pat q := by
  unfold lOcc
  constructor
  · rintro ⟨hle, he⟩
    apply List.ext_getElem?
    intro i
    by_cases hi : i < pat.length
    · rw [zPart_get (by omega), h1 _ (by omega), h2 i hi, he i hi]
    · rw [List.getElem?_eq_none (by rw [zPart_len hle]; omega), List.getElem?_eq_none (by omega)]
  · intro he
    have hl : (zPart xs q (q + pat.length)).length = pat.length := by rw [he]
    have hle : q + pat.length ≤ xs.length := by
      unfold zPart at hl
      rw [List.length_drop, List.length_take] at hl
      omega
    refine ⟨hle, fun i hi => ?_⟩
    have h3 : (zPart xs q (q + pat.length))[i]? = pat[i]? := by rw [he]
    rw [zPart_get (by omega), h1 _ (by omega), h2 i hi] at h3
    exact Option.some.inj h3
theorem lOcc_le {xs pat : List Int32} {q : Nat} (h : lOcc xs pat q) (hq : q ≤ xs.length) : q + pat.length ≤ xs.length := by
  have hl : (zPart xs q (q + pat.length)).length = pat.length := by rw [h]
  unfold zPart at hl
  rw [List.length_drop, List.length_take] at hl
  omega
def sFind (xs pat : List Int32) (q : Nat) (v : Int32) : Prop :=
  (∃ k, q ≤ k ∧ k ≤ xs.length ∧ lOcc xs pat k ∧ (∀ j, q ≤ j → j < k → ¬ lOcc xs pat j) ∧ v = nI k) ∨ ((∀ j, q ≤ j → j ≤ xs.length → ¬ lOcc xs pat j) ∧ v = -1)
theorem sFind_one {xs pat : List Int32} {q : Nat} {v u : Int32} (h : sFind xs pat q v) (h2 : sFind xs pat q u) : v = u := by
  rcases h with ⟨k, a1, a2, a3, a4, a5⟩ | ⟨a1, a2⟩
  · rcases h2 with ⟨j, b1, b2, b3, b4, b5⟩ | ⟨b1, b2⟩
    · have : k = j := by
        rcases Nat.lt_trichotomy k j with h | h | h
        · exact absurd a3 (b4 k a1 h)
        · exact h
        · exact absurd b3 (a4 j b1 h)
      rw [a5, b5, this]
    · exact absurd a3 (b1 k a1 a2)
  · rcases h2 with ⟨j, b1, b2, b3, b4, b5⟩ | ⟨b1, b2⟩
    · exact absurd b3 (a1 j b1 b2)
    · rw [a2, b2]
theorem qX3_find_0 : ∀ w ∈ wsX30, w ∈ wsX3_find := by decide +kernel
theorem qX3_find_1 : Cond.fieldLink RX3 10 "PieceText" "history" "LPieceText$History;" ∈ wsX3_find := by decide +kernel
theorem qX3_find_2 : Cond.fieldLink RX3 21 "PieceText" "sought" "LPieceText$Row;" ∈ wsX3_find := by decide +kernel
set_option maxHeartbeats 4000000 in
set_option maxRecDepth 100000 in
theorem c_PT_find (l : Launch) (D : va_G) (cI cR cL : ClassId) (B N : Nat) (ad : Nat → Nat) (cw : Nat → va_E) (hl8 : l.stackTraces = false) (hN : 45 < N) {past fut : Nat} {hs : Nat → List Int32} {pat ws dr : List Int32} (hX : zRX cI cR ad cw past fut hs pat ws dr) (x : Int32) : vx_Met l yX3_find wsX3_find ({ frames := 7, cells := 1, slots := 6, locals := 116 } : Room) (va_Pc [.ref (ad (0)), .int (x)] (zI D vwCl (zTy cI cR cL) B N ad cw)) (zQi D vwCl B N ad (fun (v : Int32) (cw' : Nat → va_E) => ∃ q, q ≤ (hs past).length ∧ x = nI q ∧ sFind (hs past) pat q v ∧ cw' = cw)) (zXC D vwCl B N ad cw (fun E : String => E = xIO ∧ ¬ (∃ q, q ≤ (hs past).length ∧ x = nI q))) 1 6 (zA B) := by
  obtain ⟨x0, ⟨now, hH⟩, ⟨fr, ht, hfr⟩, ⟨p1, p2, pf, p3, p4⟩, ⟨w1, w2, ⟨wf, w3, w4⟩, sf, w5⟩, ⟨d1, d2, g, d3, d4⟩, nf, x6⟩ := id hX
  obtain ⟨g1, g2, g3, g4, g5, g6⟩ := id hH
  obtain ⟨t1, t2, f, t3, t4⟩ := zHist_now hH
  refine z_ofX (cc := cX3_find) (maxL := 4) (ret := (some .int)) (by decide) rfl (Nat.le_of_ble_eq_true rfl) ?_
  intro p e s m args below meth c C hr h0
  refine z_lv (lv' := [(0, .ref (ad (0))), (1, .int (x))]) [0, 1] rfl ?_
  refine z_aload_n C dX3_find_0 0 rfl ?_
  refine z_get (Cn := RX3) (T := TX3) (NF := 5) (ci := 3) (v := .ref (ad (1))) C qX3_find_0 rfl 0 (by decide) (C.2.2.2.2.1 _ qX3_find_1) (fun _ h9 => h9) dX3_find_1 (0) (by omega) x0 rfl ?_
  refine z_callr (z_runV (As := []) (rest := []) C (c_Hist_present l D cI cR cL B N ad cw (by omega) g3 (by omega) ht hfr g1) (cwV 0 C.2.2.2.2.1 gX3_find_X0_present rfl rfl rfl (by decide +kernel) ⟨Nat.le_of_ble_eq_true rfl, Nat.le_of_ble_eq_true rfl⟩) (by omega) g3 rfl rfl rfl rfl (Nat.le_of_ble_eq_true rfl) dX3_find_4 ⟨Nat.le_of_ble_eq_true rfl, Nat.le_of_ble_eq_true rfl⟩) (fun r1 cw2 hp3 => ?_)
  obtain ⟨rfl, hp3c⟩ := hp3
  refine z_cw hp3c ?_
  refine z_astore_n (lv' := [(2, .ref (ad (3 + 2 * now))), (0, .ref (ad (0))), (1, .int (x))]) C dX3_find_7 rfl (by decide) rfl ?_
  refine z_iload_n C dX3_find_8 2 rfl ?_
  refine z_aload_n C dX3_find_9 0 rfl ?_
  refine z_xcallv (z_xrunS (As := [.int (x), .ref (ad (3 + 2 * now))]) (rest := []) C (c_PT_noPlace l D cI cR cL B N ad cw hl8 (by omega) t1 (by omega) (x)) (va_cwS 2 C.2.2.2.2.1 gX3_find_X3_refuseNoPlace rfl rfl rfl (by decide +kernel) ⟨Nat.le_of_ble_eq_true rfl, Nat.le_of_ble_eq_true rfl⟩) rfl rfl (Nat.le_of_ble_eq_true rfl) dX3_find_10 ⟨Nat.le_of_ble_eq_true rfl, Nat.le_of_ble_eq_true rfl⟩) (fun E6 hx7 => ?_) (fun cw4 hp5 => ?_)
  · exact z_xout C h0 (hx7) (Nat.le_of_ble_eq_true rfl) (Nat.le_of_ble_eq_true rfl)
  obtain ⟨⟨q0, hq0, rfl⟩, hp5c⟩ := hp5
  refine z_cw hp5c ?_
  refine z_iload_n C dX3_find_13 2 rfl ?_
  refine z_istore_n (lv' := [(3, .int (nI q0)), (2, .ref (ad (3 + 2 * now))), (0, .ref (ad (0))), (1, .int (nI q0))]) C dX3_find_14 rfl (by decide) rfl ?_
  refine z_lv (lv' := [(3, .int (nI q0)), (0, .ref (ad (0))), (1, .int (nI q0)), (2, .ref (ad (3 + 2 * now)))]) [0, 2, 3, 1] rfl ?_
  suffices loop : ∀ (t i : Nat), (hs past).length + 1 = i + t → q0 ≤ i → (∀ j, q0 ≤ j → j < i → ¬ lOcc (hs past) pat j) → zG p l e (headSpec wsX3_find ({ frames := 7, cells := 1, slots := 6, locals := 116 } : Room)).room s m args below meth c (vx_MQ below (zQi D vwCl B N ad (fun (v : Int32) (cw' : Nat → va_E) => ∃ q, q ≤ (hs past).length ∧ (nI q0) = nI q ∧ sFind (hs past) pat q v ∧ cw' = cw)) (zXC D vwCl B N ad cw (fun E : String => E = xIO ∧ ¬ (∃ q, q ≤ (hs past).length ∧ (nI q0) = nI q))) args s 1 6 (zA B)) D vwCl B 4 N ad cw (0 + 1) (0 + 6) [(3, .int (nI i)), (0, .ref (ad (0))), (1, .int (nI q0)), (2, .ref (ad (3 + 2 * now)))] 15 [] from loop ((hs past).length + 1 - q0) q0 (by omega) (Nat.le_refl _) (fun j h1 h2 => absurd h1 (by omega))
  intro t
  induction t with
  | zero =>
    intro i hi hqi hpre
    refine z_iload_n C dX3_find_15 0 rfl ?_
    refine z_aload_n C dX3_find_16 3 rfl ?_
    refine z_calli (z_runV (As := []) (rest := [.int (nI i)]) C (c_Row_size l D cI cR cL B N ad cw (by omega) t1) (cwV 0 C.2.2.2.2.1 gX3_find_X2_size rfl rfl rfl (by decide +kernel) ⟨Nat.le_of_ble_eq_true rfl, Nat.le_of_ble_eq_true rfl⟩) (by omega) t1 rfl rfl rfl rfl (Nat.le_of_ble_eq_true rfl) dX3_find_17 ⟨Nat.le_of_ble_eq_true rfl, Nat.le_of_ble_eq_true rfl⟩) (fun r8 cw9 hp10 => ?_)
    refine z_cw hp10.2 ?_
    refine z_top hp10.1 ?_
    refine z_icmp_gt (tgt := 43) C dX3_find_20 (by decide) (fun c11 => ?_) (fun c11 => ?_)
    · skip
      refine z_iconst (v := -1) C dX3_find_43 (by decide) ?_
      exact z_xiret C hr dX3_find_44 (⟨q0, hq0, rfl, Or.inr ⟨fun j h1 h2 => hpre j h1 (by omega), rfl⟩, rfl⟩) (Nat.le_of_ble_eq_true rfl) (Nat.le_of_ble_eq_true rfl)
    · skip
      exact absurd (nI_lt (by omega) (by omega)) c11
  | succ t ih =>
    intro i hi hqi hpre
    refine z_iload_n C dX3_find_15 0 rfl ?_
    refine z_aload_n C dX3_find_16 3 rfl ?_
    refine z_calli (z_runV (As := []) (rest := [.int (nI i)]) C (c_Row_size l D cI cR cL B N ad cw (by omega) t1) (cwV 0 C.2.2.2.2.1 gX3_find_X2_size rfl rfl rfl (by decide +kernel) ⟨Nat.le_of_ble_eq_true rfl, Nat.le_of_ble_eq_true rfl⟩) (by omega) t1 rfl rfl rfl rfl (Nat.le_of_ble_eq_true rfl) dX3_find_17 ⟨Nat.le_of_ble_eq_true rfl, Nat.le_of_ble_eq_true rfl⟩) (fun r12 cw13 hp14 => ?_)
    refine z_cw hp14.2 ?_
    refine z_top hp14.1 ?_
    refine z_icmp_gt (tgt := 43) C dX3_find_20 (by decide) (fun c15 => ?_) (fun c15 => ?_)
    · skip
      exact absurd ((nI_ltI (by omega) (by omega)).mp c15) (by omega)
    · skip
      refine z_aload_n C dX3_find_23 3 rfl ?_
      refine z_iload_n C dX3_find_24 0 rfl ?_
      refine z_aload_n C dX3_find_25 1 rfl ?_
      refine z_get (Cn := RX3) (T := TX3) (NF := 5) (ci := 3) (v := .ref (ad (29))) C qX3_find_0 rfl 1 (by decide) (C.2.2.2.2.1 _ qX3_find_2) (fun _ h9 => h9) dX3_find_26 (0) (by omega) x0 rfl ?_
      refine z_calli (z_runV (As := [.int (nI i), .ref (ad (29))]) (rest := []) C (c_Row_hasAt l D cI cR cL B N ad cw (by omega) t1 (by decide) (by omega) t3 (by decide) (by omega) p1 (by omega) p3 (q := i) (by omega) (t2) (p2) (by decide)) (cwV 2 C.2.2.2.2.1 gX3_find_X2_hasAt rfl rfl rfl (by decide +kernel) ⟨Nat.le_of_ble_eq_true rfl, Nat.le_of_ble_eq_true rfl⟩) (by omega) t1 rfl rfl rfl rfl (Nat.le_of_ble_eq_true rfl) dX3_find_29 ⟨Nat.le_of_ble_eq_true rfl, Nat.le_of_ble_eq_true rfl⟩) (fun r16 cw17 hp18 => ?_)
      refine z_cw hp18.2 ?_
      refine z_if_eq (tgt := 37) C dX3_find_32 (by decide) (fun c19 => ?_) (fun c19 => ?_)
      · skip
        have hno : ¬ lOcc (hs past) pat i := by rcases hp18.1 with ⟨h1, h2⟩ | ⟨h1, h2⟩; exact absurd (h1.symm.trans c19) (by decide); exact fun h3 => h2 ((lOcc_iff t4 p4 (by omega)).mpr h3)
        refine z_iinc (x := nI (i + 1)) (lv' := [(3, .int (nI (i + 1))), (0, .ref (ad (0))), (1, .int (nI q0)), (2, .ref (ad (3 + 2 * now)))]) C dX3_find_37 0 rfl (nI_1 i) (by decide) rfl ?_
        refine z_goto (tgt := 15) C dX3_find_40 (by decide) ?_
        refine z_lv (lv' := [(3, .int (nI (i + 1))), (0, .ref (ad (0))), (1, .int (nI q0)), (2, .ref (ad (3 + 2 * now)))]) [0, 1, 2, 3] rfl ?_
        exact ih (i + 1) (by omega) (by omega) (fun j h1 h2 => by rcases Nat.lt_succ_iff_lt_or_eq.mp h2 with h | h; exact hpre j h1 h; rw [h]; exact hno)
      · skip
        have hyes : lOcc (hs past) pat i := by rcases hp18.1 with ⟨h1, h2⟩ | ⟨h1, h2⟩; exact (lOcc_iff t4 p4 (by omega)).mp h2; exact absurd h1 c19
        refine z_iload_n C dX3_find_35 0 rfl ?_
        exact z_xiret C hr dX3_find_36 (⟨q0, hq0, rfl, Or.inl ⟨i, hqi, by omega, hyes, hpre, rfl⟩, rfl⟩) (Nat.le_of_ble_eq_true rfl) (Nat.le_of_ble_eq_true rfl)

def sRep (xs pat : List Int32) (x : Int32) : Nat → Nat → List Int32 → Nat → List Int32 × Nat
  | 0, _, o, t => (o, t)
  | n + 1, q, o, t => if xs.length ≤ q then (o, t) else if zPart xs q (q + pat.length) = pat then sRep xs pat x n (q + pat.length) (o ++ [x]) (t + 1) else sRep xs pat x n (q + 1) (o ++ [xs.getD q 0]) t
theorem sRep_end {xs pat : List Int32} {x : Int32} {n q : Nat} {o : List Int32} {t : Nat} (h : xs.length ≤ q) : sRep xs pat x n q o t = (o, t) := by
  cases n with
  | zero => rfl
  | succ n => unfold sRep; rw [if_pos h]
theorem sRep_yes {xs pat : List Int32} {x : Int32} {n q : Nat} {o : List Int32} {t : Nat} (h : q < xs.length) (h2 : lOcc xs pat q) : sRep xs pat x (n + 1) q o t = sRep xs pat x n (q + pat.length) (o ++ [x]) (t + 1) := by
  rw [sRep, if_neg (by omega), if_pos (show zPart xs q (q + pat.length) = pat from h2)]
theorem sRep_no {xs pat : List Int32} {x : Int32} {n q : Nat} {o : List Int32} {t : Nat} (h : q < xs.length) (h2 : ¬ lOcc xs pat q) : sRep xs pat x (n + 1) q o t = sRep xs pat x n (q + 1) (o ++ [xs.getD q 0]) t := by
  rw [sRep, if_neg (by omega), if_neg (show ¬ zPart xs q (q + pat.length) = pat from h2)]
theorem zIs_getD {f : Nat → Int32} {xs : List Int32} (h : zIs f xs) {i : Nat} (hi : i < xs.length) : xs.getD i 0 = f i := by
  rw [List.getD_eq_getElem?_getD, h i hi]
  rfl
theorem qX3_draftReplaced_0 : ∀ w ∈ wsX30, w ∈ wsX3_draftReplaced := by decide +kernel
theorem qX3_draftReplaced_1 : Cond.fieldLink RX3 10 "PieceText" "history" "LPieceText$History;" ∈ wsX3_draftReplaced := by decide +kernel
theorem qX3_draftReplaced_2 : Cond.fieldLink RX3 32 "PieceText" "draft" "LPieceText$Row;" ∈ wsX3_draftReplaced := by decide +kernel
theorem qX3_draftReplaced_3 : Cond.fieldLink RX3 21 "PieceText" "sought" "LPieceText$Row;" ∈ wsX3_draftReplaced := by decide +kernel
set_option maxHeartbeats 4000000 in
set_option maxRecDepth 100000 in
theorem c_PT_draftReplaced (l : Launch) (D : va_G) (cI cR cL : ClassId) (B N : Nat) (ad : Nat → Nat) (cw : Nat → va_E) (hN : 45 < N) {past fut : Nat} {hs : Nat → List Int32} {pat ws dr : List Int32} (hX : zRX cI cR ad cw past fut hs pat ws dr) (hp0 : 0 < pat.length) (x : Int32) (hx : ∃ q, q < 256 ∧ x = nI q) : Met l yX3_draftReplaced wsX3_draftReplaced ({ frames := 1, cells := 0, slots := 0, locals := 23 } : Room) (va_Pc [.ref (ad (0)), .int (x)] (zI D vwCl (zTy cI cR cL) B N ad cw)) (zQi D vwCl B N ad (fun (v : Int32) (cw' : Nat → va_E) => v = nI (sRep (hs past) pat x (hs past).length 0 [] 0).2 ∧ zRow cI ad cw' 34 35 240 (sRep (hs past) pat x (hs past).length 0 [] 0).1 ∧ zCh (sRep (hs past) pat x (hs past).length 0 [] 0).1 ∧ ∀ j, (j ≠ 34 ∧ j ≠ 35) → cw' j = cw j)) 0 0 (zA B) := by
  obtain ⟨x0, ⟨now, hH⟩, ⟨fr, ht, hfr⟩, ⟨p1, p2, pf, p3, p4⟩, ⟨w1, w2, ⟨wf, w3, w4⟩, sf, w5⟩, ⟨d1, d2, g, d3, d4⟩, nf, x6⟩ := id hX
  obtain ⟨g1, g2, g3, g4, g5, g6⟩ := id hH
  obtain ⟨t1, t2, f, t3, t4⟩ := zHist_now hH
  refine z_ofW (cc := cX3_draftReplaced) (maxL := 6) (ret := (some .int)) (by decide) rfl (Nat.le_of_ble_eq_true rfl) ?_
  intro p e s m args below meth c C hr hnm
  refine z_lv (lv' := [(0, .ref (ad (0))), (1, .int (x))]) [0, 1] rfl ?_
  refine z_aload_n C dX3_draftReplaced_0 0 rfl ?_
  refine z_get (Cn := RX3) (T := TX3) (NF := 5) (ci := 3) (v := .ref (ad (1))) C qX3_draftReplaced_0 rfl 0 (by decide) (C.2.2.2.2.1 _ qX3_draftReplaced_1) (fun _ h9 => h9) dX3_draftReplaced_1 (0) (by omega) x0 rfl ?_
  refine z_callr (z_runV (As := []) (rest := []) C (c_Hist_present l D cI cR cL B N ad cw (by omega) g3 (by omega) ht hfr g1) (cwV 0 C.2.2.2.2.1 gX3_draftReplaced_X0_present rfl rfl rfl (by decide +kernel) ⟨Nat.le_of_ble_eq_true rfl, Nat.le_of_ble_eq_true rfl⟩) (by omega) g3 rfl rfl rfl rfl (Nat.le_of_ble_eq_true rfl) dX3_draftReplaced_4 ⟨Nat.le_of_ble_eq_true rfl, Nat.le_of_ble_eq_true rfl⟩) (fun r1 cw2 hp3 => ?_)
  obtain ⟨rfl, hp3c⟩ := hp3
  refine z_cw hp3c ?_
  refine z_astore_n (lv' := [(2, .ref (ad (3 + 2 * now))), (0, .ref (ad (0))), (1, .int (x))]) C dX3_draftReplaced_7 rfl (by decide) rfl ?_
  refine z_aload_n C dX3_draftReplaced_8 1 rfl ?_
  refine z_get (Cn := RX3) (T := TX3) (NF := 5) (ci := 3) (v := .ref (ad (34))) C qX3_draftReplaced_0 rfl 3 (by decide) (C.2.2.2.2.1 _ qX3_draftReplaced_2) (fun _ h9 => h9) dX3_draftReplaced_9 (0) (by omega) x0 rfl ?_
  refine z_callv (z_runV (As := []) (rest := []) C (c_Row_empty l D cI cR cL B N ad cw (by omega) d1) (cwV 0 C.2.2.2.2.1 gX3_draftReplaced_X2_empty rfl rfl rfl (by decide +kernel) ⟨Nat.le_of_ble_eq_true rfl, Nat.le_of_ble_eq_true rfl⟩) (by omega) d1 rfl rfl rfl rfl (Nat.le_of_ble_eq_true rfl) dX3_draftReplaced_12 ⟨Nat.le_of_ble_eq_true rfl, Nat.le_of_ble_eq_true rfl⟩) (fun cw4 hp5 => ?_)
  have hw_6 : cw4 (0) = .inr (3, [.ref (ad (1)), .ref (ad (29)), .ref (ad (31)), .ref (ad (34)), .ref (ad (36))]) := by rw [hp5, va_up_ne _ _ (by decide)]; exact x0
  have hw_7 : cw4 (1) = .inr (0, [.ref (ad (2)), .int (nI now), .int (nI past), .int (nI fut)]) := by rw [hp5, va_up_ne _ _ (by decide)]; exact g3
  have hw_8 : cw4 (2) = .inl (cR, 13, .inr (.inr (.inr (.inr (fr))))) := by rw [hp5, va_up_ne _ _ (by decide)]; exact ht
  have hw_9 : cw4 (3 + 2 * now) = .inr (2, [.ref (ad (4 + 2 * now)), .int (nI ((hs past).length))]) := by rw [hp5, va_up_ne _ _ (by omega)]; exact t1
  have hw_10 : cw4 (4 + 2 * now) = .inl (cI, 240, .inl (f)) := by rw [hp5, va_up_ne _ _ (by omega)]; exact t3
  have hw_11 : cw4 (29) = .inr (2, [.ref (ad (30)), .int (nI (pat.length))]) := by rw [hp5, va_up_ne _ _ (by decide)]; exact p1
  have hw_12 : cw4 (30) = .inl (cI, 16, .inl (pf)) := by rw [hp5, va_up_ne _ _ (by decide)]; exact p3
  have hw_13 : cw4 (34) = .inr (2, [.ref (ad (35)), .int (nI 0)]) := by rw [hp5, va_up_self]
  have hw_14 : cw4 (35) = .inl (cI, 240, .inl (g)) := by rw [hp5, va_up_ne _ _ (by decide)]; exact d3
  refine z_iconst (v := nI 0) C dX3_draftReplaced_15 (by decide) ?_
  refine z_istore_n (lv' := [(3, .int (nI 0)), (2, .ref (ad (3 + 2 * now))), (0, .ref (ad (0))), (1, .int (x))]) C dX3_draftReplaced_16 rfl (by decide) rfl ?_
  refine z_iconst (v := nI 0) C dX3_draftReplaced_17 (by decide) ?_
  refine z_istore (lv' := [(4, .int (nI 0)), (3, .int (nI 0)), (2, .ref (ad (3 + 2 * now))), (0, .ref (ad (0))), (1, .int (x))]) C dX3_draftReplaced_18 (by decide) rfl ?_
  refine z_iconst (v := nI 0) C dX3_draftReplaced_20 (by decide) ?_
  refine z_istore (lv' := [(5, .int (nI 0)), (4, .int (nI 0)), (3, .int (nI 0)), (2, .ref (ad (3 + 2 * now))), (0, .ref (ad (0))), (1, .int (x))]) C dX3_draftReplaced_21 (by decide) rfl ?_
  refine z_lv (lv' := [(5, .int (nI 0)), (4, .int (nI 0)), (3, .int (nI 0)), (0, .ref (ad (0))), (1, .int (x)), (2, .ref (ad (3 + 2 * now)))]) [0, 1, 2, 4, 5, 3] rfl ?_
  suffices loop : ∀ (mm i b t : Nat) (o : List Int32) (cwk : Nat → va_E), (hs past).length = i + mm → b ≤ (hs past).length → o.length ≤ i → t ≤ i → zCh o → (∃ n, (hs past).length ≤ n + max i b ∧ sRep (hs past) pat x n (max i b) o t = sRep (hs past) pat x (hs past).length 0 [] 0) → zRow cI ad cwk 34 35 240 o → (∀ j, (j ≠ 34 ∧ j ≠ 35) → cwk j = cw j) → zG p l e (headSpec wsX3_draftReplaced ({ frames := 1, cells := 0, slots := 0, locals := 23 } : Room)).room s m args below meth c (MQ below (zQi D vwCl B N ad (fun (v : Int32) (cw' : Nat → va_E) => v = nI (sRep (hs past) pat x (hs past).length 0 [] 0).2 ∧ zRow cI ad cw' 34 35 240 (sRep (hs past) pat x (hs past).length 0 [] 0).1 ∧ zCh (sRep (hs past) pat x (hs past).length 0 [] 0).1 ∧ ∀ j, (j ≠ 34 ∧ j ≠ 35) → cw' j = cw j)) args s 0 0 (zA B)) D vwCl B 6 N ad cwk 0 0 [(5, .int (nI i)), (4, .int (nI b)), (3, .int (nI t)), (0, .ref (ad (0))), (1, .int (x)), (2, .ref (ad (3 + 2 * now)))] 23 [] from loop (hs past).length 0 0 0 [] cw4 (by omega) (Nat.zero_le _) (Nat.le_refl _) (Nat.le_refl _) zCh_nil ⟨(hs past).length, by omega, rfl⟩ ⟨hw_13, Nat.zero_le _, _, hw_14, zIs_nil _⟩ (fun j hj => by rw [hp5, va_up_ne _ _ (by omega)])
  intro mm
  induction mm with
  | zero =>
    intro i b t o cwk hi hb ho ht2 hch hrep hrow hfrm
    obtain ⟨r1, r2, h8, r3, r4⟩ := id hrow
    have hk_15 : cwk (0) = .inr (3, [.ref (ad (1)), .ref (ad (29)), .ref (ad (31)), .ref (ad (34)), .ref (ad (36))]) := (hfrm (0) (by omega)).trans x0
    have hk_16 : cwk (1) = .inr (0, [.ref (ad (2)), .int (nI now), .int (nI past), .int (nI fut)]) := (hfrm (1) (by omega)).trans g3
    have hk_17 : cwk (2) = .inl (cR, 13, .inr (.inr (.inr (.inr (fr))))) := (hfrm (2) (by omega)).trans ht
    have hk_18 : cwk (3 + 2 * now) = .inr (2, [.ref (ad (4 + 2 * now)), .int (nI ((hs past).length))]) := (hfrm (3 + 2 * now) (by omega)).trans t1
    have hk_19 : cwk (4 + 2 * now) = .inl (cI, 240, .inl (f)) := (hfrm (4 + 2 * now) (by omega)).trans t3
    have hk_20 : cwk (29) = .inr (2, [.ref (ad (30)), .int (nI (pat.length))]) := (hfrm (29) (by omega)).trans p1
    have hk_21 : cwk (30) = .inl (cI, 16, .inl (pf)) := (hfrm (30) (by omega)).trans p3
    refine z_iload C dX3_draftReplaced_23 0 rfl ?_
    refine z_aload_n C dX3_draftReplaced_25 5 rfl ?_
    refine z_calli (z_runV (As := []) (rest := [.int (nI i)]) C (c_Row_size l D cI cR cL B N ad cwk (by omega) hk_18) (cwV 0 C.2.2.2.2.1 gX3_draftReplaced_X2_size rfl rfl rfl (by decide +kernel) ⟨Nat.le_of_ble_eq_true rfl, Nat.le_of_ble_eq_true rfl⟩) (by omega) hk_18 rfl rfl rfl rfl (Nat.le_of_ble_eq_true rfl) dX3_draftReplaced_26 ⟨Nat.le_of_ble_eq_true rfl, Nat.le_of_ble_eq_true rfl⟩) (fun r22 cw23 hp24 => ?_)
    refine z_cw hp24.2 ?_
    refine z_top hp24.1 ?_
    refine z_icmp_ge (tgt := 100) C dX3_draftReplaced_29 (by decide) (fun c25 => ?_) (fun c25 => ?_)
    · skip
      obtain ⟨n, hn1, hn2⟩ := hrep
      rw [sRep_end (by omega)] at hn2
      refine z_iload_n C dX3_draftReplaced_100 2 rfl ?_
      exact z_iret C hr dX3_draftReplaced_101 (⟨by rw [← hn2], by rw [← hn2]; exact hrow, by rw [← hn2]; exact hch, hfrm⟩) (Nat.le_of_ble_eq_true rfl) (Nat.le_of_ble_eq_true rfl)
    · skip
      exact absurd (nI_le (by omega) (by omega)) c25
  | succ mm ih =>
    intro i b t o cwk hi hb ho ht2 hch hrep hrow hfrm
    obtain ⟨r1, r2, h8, r3, r4⟩ := id hrow
    have hk_26 : cwk (0) = .inr (3, [.ref (ad (1)), .ref (ad (29)), .ref (ad (31)), .ref (ad (34)), .ref (ad (36))]) := (hfrm (0) (by omega)).trans x0
    have hk_27 : cwk (1) = .inr (0, [.ref (ad (2)), .int (nI now), .int (nI past), .int (nI fut)]) := (hfrm (1) (by omega)).trans g3
    have hk_28 : cwk (2) = .inl (cR, 13, .inr (.inr (.inr (.inr (fr))))) := (hfrm (2) (by omega)).trans ht
    have hk_29 : cwk (3 + 2 * now) = .inr (2, [.ref (ad (4 + 2 * now)), .int (nI ((hs past).length))]) := (hfrm (3 + 2 * now) (by omega)).trans t1
    have hk_30 : cwk (4 + 2 * now) = .inl (cI, 240, .inl (f)) := (hfrm (4 + 2 * now) (by omega)).trans t3
    have hk_31 : cwk (29) = .inr (2, [.ref (ad (30)), .int (nI (pat.length))]) := (hfrm (29) (by omega)).trans p1
    have hk_32 : cwk (30) = .inl (cI, 16, .inl (pf)) := (hfrm (30) (by omega)).trans p3
    refine z_iload C dX3_draftReplaced_23 0 rfl ?_
    refine z_aload_n C dX3_draftReplaced_25 5 rfl ?_
    refine z_calli (z_runV (As := []) (rest := [.int (nI i)]) C (c_Row_size l D cI cR cL B N ad cwk (by omega) hk_29) (cwV 0 C.2.2.2.2.1 gX3_draftReplaced_X2_size rfl rfl rfl (by decide +kernel) ⟨Nat.le_of_ble_eq_true rfl, Nat.le_of_ble_eq_true rfl⟩) (by omega) hk_29 rfl rfl rfl rfl (Nat.le_of_ble_eq_true rfl) dX3_draftReplaced_26 ⟨Nat.le_of_ble_eq_true rfl, Nat.le_of_ble_eq_true rfl⟩) (fun r33 cw34 hp35 => ?_)
    refine z_cw hp35.2 ?_
    refine z_top hp35.1 ?_
    refine z_icmp_ge (tgt := 100) C dX3_draftReplaced_29 (by decide) (fun c36 => ?_) (fun c36 => ?_)
    · skip
      exact absurd ((nI_leI (by omega) (by omega)).mp c36) (by omega)
    · skip
      refine z_iload C dX3_draftReplaced_32 0 rfl ?_
      refine z_iload C dX3_draftReplaced_34 1 rfl ?_
      refine z_icmp_ge (tgt := 42) C dX3_draftReplaced_36 (by decide) (fun c37 => ?_) (fun c37 => ?_)
      · skip
        have hbi : b ≤ i := (nI_leI (by omega) (by omega)).mp c37
        rw [Nat.max_eq_left hbi] at hrep
        obtain ⟨n0, hn1, hn2⟩ := hrep
        obtain ⟨n, rfl⟩ : ∃ z, n0 = z + 1 := Nat.exists_eq_succ_of_ne_zero (by omega)
        refine z_aload_n C dX3_draftReplaced_42 5 rfl ?_
        refine z_iload C dX3_draftReplaced_43 0 rfl ?_
        refine z_aload_n C dX3_draftReplaced_45 3 rfl ?_
        refine z_get (Cn := RX3) (T := TX3) (NF := 5) (ci := 3) (v := .ref (ad (29))) C qX3_draftReplaced_0 rfl 1 (by decide) (C.2.2.2.2.1 _ qX3_draftReplaced_3) (fun _ h9 => h9) dX3_draftReplaced_46 (0) (by omega) hk_26 rfl ?_
        refine z_calli (z_runV (As := [.int (nI i), .ref (ad (29))]) (rest := []) C (c_Row_hasAt l D cI cR cL B N ad cwk (by omega) hk_29 (by decide) (by omega) hk_30 (by decide) (by omega) hk_31 (by omega) hk_32 (q := i) (by omega) (t2) (p2) (by decide)) (cwV 2 C.2.2.2.2.1 gX3_draftReplaced_X2_hasAt rfl rfl rfl (by decide +kernel) ⟨Nat.le_of_ble_eq_true rfl, Nat.le_of_ble_eq_true rfl⟩) (by omega) hk_29 rfl rfl rfl rfl (Nat.le_of_ble_eq_true rfl) dX3_draftReplaced_49 ⟨Nat.le_of_ble_eq_true rfl, Nat.le_of_ble_eq_true rfl⟩) (fun r38 cw39 hp40 => ?_)
        refine z_cw hp40.2 ?_
        refine z_if_eq (tgt := 81) C dX3_draftReplaced_52 (by decide) (fun c41 => ?_) (fun c41 => ?_)
        · skip
          have hno : ¬ lOcc (hs past) pat i := by rcases hp40.1 with ⟨h1, h2⟩ | ⟨h1, h2⟩; exact absurd (h1.symm.trans c41) (by decide); exact fun h3 => h2 ((lOcc_iff t4 p4 (by omega)).mpr h3)
          rw [sRep_no (by omega) hno, zIs_getD t4 (by omega)] at hn2
          refine z_aload_n C dX3_draftReplaced_81 3 rfl ?_
          refine z_get (Cn := RX3) (T := TX3) (NF := 5) (ci := 3) (v := .ref (ad (34))) C qX3_draftReplaced_0 rfl 3 (by decide) (C.2.2.2.2.1 _ qX3_draftReplaced_2) (fun _ h9 => h9) dX3_draftReplaced_82 (0) (by omega) hk_26 rfl ?_
          refine z_aload_n C dX3_draftReplaced_85 5 rfl ?_
          refine z_iload C dX3_draftReplaced_86 0 rfl ?_
          refine z_calli (z_runV (As := [.int (nI (i))]) (rest := [.ref (ad (34))]) C (c_Row_get l D cI cR cL B N ad cwk (by omega) hk_29 (by decide) (by omega) hk_30 (j := i) (by omega)) (cwV 1 C.2.2.2.2.1 gX3_draftReplaced_X2_get rfl rfl rfl (by decide +kernel) ⟨Nat.le_of_ble_eq_true rfl, Nat.le_of_ble_eq_true rfl⟩) (by omega) hk_29 rfl rfl rfl rfl (Nat.le_of_ble_eq_true rfl) dX3_draftReplaced_88 ⟨Nat.le_of_ble_eq_true rfl, Nat.le_of_ble_eq_true rfl⟩) (fun r42 cw43 hp44 => ?_)
          refine z_cw hp44.2 ?_
          refine z_top hp44.1 ?_
          refine z_callv (z_runV (As := [.int (f (i))]) (rest := []) C (c_Row_add l D cI cR cL B N ad cwk (by omega) r1 (by decide) (by omega) r3 (by decide) (by omega) (f (i))) (cwV 1 C.2.2.2.2.1 gX3_draftReplaced_X2_add rfl rfl rfl (by decide +kernel) ⟨Nat.le_of_ble_eq_true rfl, Nat.le_of_ble_eq_true rfl⟩) (by omega) r1 rfl rfl rfl rfl (Nat.le_of_ble_eq_true rfl) dX3_draftReplaced_91 ⟨Nat.le_of_ble_eq_true rfl, Nat.le_of_ble_eq_true rfl⟩) (fun cw45 hp46 => ?_)
          have hw_47 : cw45 (0) = .inr (3, [.ref (ad (1)), .ref (ad (29)), .ref (ad (31)), .ref (ad (34)), .ref (ad (36))]) := by rw [hp46, va_up_ne _ _ (by decide), va_up_ne _ _ (by decide)]; exact hk_26
          have hw_48 : cw45 (1) = .inr (0, [.ref (ad (2)), .int (nI now), .int (nI past), .int (nI fut)]) := by rw [hp46, va_up_ne _ _ (by decide), va_up_ne _ _ (by decide)]; exact hk_27
          have hw_49 : cw45 (2) = .inl (cR, 13, .inr (.inr (.inr (.inr (fr))))) := by rw [hp46, va_up_ne _ _ (by decide), va_up_ne _ _ (by decide)]; exact hk_28
          have hw_50 : cw45 (3 + 2 * now) = .inr (2, [.ref (ad (4 + 2 * now)), .int (nI ((hs past).length))]) := by rw [hp46, va_up_ne _ _ (by omega), va_up_ne _ _ (by omega)]; exact hk_29
          have hw_51 : cw45 (4 + 2 * now) = .inl (cI, 240, .inl (f)) := by rw [hp46, va_up_ne _ _ (by omega), va_up_ne _ _ (by omega)]; exact hk_30
          have hw_52 : cw45 (29) = .inr (2, [.ref (ad (30)), .int (nI (pat.length))]) := by rw [hp46, va_up_ne _ _ (by decide), va_up_ne _ _ (by decide)]; exact hk_31
          have hw_53 : cw45 (30) = .inl (cI, 16, .inl (pf)) := by rw [hp46, va_up_ne _ _ (by decide), va_up_ne _ _ (by decide)]; exact hk_32
          have hw_54 : cw45 (34) = .inr (2, [.ref (ad (35)), .int (nI (o.length + 1))]) := by rw [hp46, va_up_self]
          have hw_55 : cw45 (35) = .inl (cI, 240, .inl (upd (h8) (o.length) (f (i)))) := by rw [hp46, va_up_ne _ _ (by decide), va_up_self]
          refine z_iinc (x := nI (i + 1)) (lv' := [(5, .int (nI (i + 1))), (4, .int (nI b)), (3, .int (nI t)), (0, .ref (ad (0))), (1, .int (x)), (2, .ref (ad (3 + 2 * now)))]) C dX3_draftReplaced_94 0 rfl (nI_1 i) (by decide) rfl ?_
          refine z_goto (tgt := 23) C dX3_draftReplaced_97 (by decide) ?_
          refine z_lv (lv' := [(5, .int (nI (i + 1))), (4, .int (nI b)), (3, .int (nI t)), (0, .ref (ad (0))), (1, .int (x)), (2, .ref (ad (3 + 2 * now)))]) [0, 1, 2, 3, 4, 5] rfl ?_
          exact ih (i + 1) b t (o ++ [f i]) _ (by omega) hb (by rw [List.length_append]; show o.length + 1 ≤ _; omega) (by omega) (zCh_app hch (zCh_one (g6 past (by omega) _ (zIs_get t4 (by omega))))) ⟨n, by omega, by rw [Nat.max_eq_left (by omega)]; exact hn2⟩ ⟨by rw [hw_54, List.length_append]; rfl, by rw [List.length_append]; show o.length + 1 ≤ _; omega, _, hw_55, zIs_add r4 _⟩ (fun j hj => ((fun j hj => by rw [hp46, va_up_ne _ _ (by omega), va_up_ne _ _ (by omega)]) : ∀ j, (j ≠ 34 ∧ j ≠ 35) → _ = cwk j) j hj |>.trans (hfrm j hj))
        · skip
          have hyes : lOcc (hs past) pat i := by rcases hp40.1 with ⟨h1, h2⟩ | ⟨h1, h2⟩; exact (lOcc_iff t4 p4 (by omega)).mp h2; exact absurd h1 c41
          have hle := lOcc_le hyes (by omega)
          rw [sRep_yes (by omega) hyes] at hn2
          refine z_aload_n C dX3_draftReplaced_55 3 rfl ?_
          refine z_get (Cn := RX3) (T := TX3) (NF := 5) (ci := 3) (v := .ref (ad (34))) C qX3_draftReplaced_0 rfl 3 (by decide) (C.2.2.2.2.1 _ qX3_draftReplaced_2) (fun _ h9 => h9) dX3_draftReplaced_56 (0) (by omega) hk_26 rfl ?_
          refine z_iload_n C dX3_draftReplaced_59 4 rfl ?_
          refine z_callv (z_runV (As := [.int (x)]) (rest := []) C (c_Row_add l D cI cR cL B N ad cwk (by omega) r1 (by decide) (by omega) r3 (by decide) (by omega) (x)) (cwV 1 C.2.2.2.2.1 gX3_draftReplaced_X2_add rfl rfl rfl (by decide +kernel) ⟨Nat.le_of_ble_eq_true rfl, Nat.le_of_ble_eq_true rfl⟩) (by omega) r1 rfl rfl rfl rfl (Nat.le_of_ble_eq_true rfl) dX3_draftReplaced_60 ⟨Nat.le_of_ble_eq_true rfl, Nat.le_of_ble_eq_true rfl⟩) (fun cw56 hp57 => ?_)
          have hw_58 : cw56 (0) = .inr (3, [.ref (ad (1)), .ref (ad (29)), .ref (ad (31)), .ref (ad (34)), .ref (ad (36))]) := by rw [hp57, va_up_ne _ _ (by decide), va_up_ne _ _ (by decide)]; exact hk_26
          have hw_59 : cw56 (1) = .inr (0, [.ref (ad (2)), .int (nI now), .int (nI past), .int (nI fut)]) := by rw [hp57, va_up_ne _ _ (by decide), va_up_ne _ _ (by decide)]; exact hk_27
          have hw_60 : cw56 (2) = .inl (cR, 13, .inr (.inr (.inr (.inr (fr))))) := by rw [hp57, va_up_ne _ _ (by decide), va_up_ne _ _ (by decide)]; exact hk_28
          have hw_61 : cw56 (3 + 2 * now) = .inr (2, [.ref (ad (4 + 2 * now)), .int (nI ((hs past).length))]) := by rw [hp57, va_up_ne _ _ (by omega), va_up_ne _ _ (by omega)]; exact hk_29
          have hw_62 : cw56 (4 + 2 * now) = .inl (cI, 240, .inl (f)) := by rw [hp57, va_up_ne _ _ (by omega), va_up_ne _ _ (by omega)]; exact hk_30
          have hw_63 : cw56 (29) = .inr (2, [.ref (ad (30)), .int (nI (pat.length))]) := by rw [hp57, va_up_ne _ _ (by decide), va_up_ne _ _ (by decide)]; exact hk_31
          have hw_64 : cw56 (30) = .inl (cI, 16, .inl (pf)) := by rw [hp57, va_up_ne _ _ (by decide), va_up_ne _ _ (by decide)]; exact hk_32
          have hw_65 : cw56 (34) = .inr (2, [.ref (ad (35)), .int (nI (o.length + 1))]) := by rw [hp57, va_up_self]
          have hw_66 : cw56 (35) = .inl (cI, 240, .inl (upd (h8) (o.length) (x))) := by rw [hp57, va_up_ne _ _ (by decide), va_up_self]
          refine z_iinc (x := nI (t + 1)) (lv' := [(3, .int (nI (t + 1))), (5, .int (nI i)), (4, .int (nI b)), (0, .ref (ad (0))), (1, .int (x)), (2, .ref (ad (3 + 2 * now)))]) C dX3_draftReplaced_63 2 rfl (nI_1 t) (by decide) rfl ?_
          refine z_iload C dX3_draftReplaced_66 1 rfl ?_
          refine z_aload_n C dX3_draftReplaced_68 3 rfl ?_
          refine z_get (Cn := RX3) (T := TX3) (NF := 5) (ci := 3) (v := .ref (ad (29))) C qX3_draftReplaced_0 rfl 1 (by decide) (C.2.2.2.2.1 _ qX3_draftReplaced_3) (fun _ h9 => h9) dX3_draftReplaced_69 (0) (by omega) hw_58 rfl ?_
          refine z_calli (z_runV (As := []) (rest := [.int (nI i)]) C (c_Row_size l D cI cR cL B N ad cw56 (by omega) hw_63) (cwV 0 C.2.2.2.2.1 gX3_draftReplaced_X2_size rfl rfl rfl (by decide +kernel) ⟨Nat.le_of_ble_eq_true rfl, Nat.le_of_ble_eq_true rfl⟩) (by omega) hw_63 rfl rfl rfl rfl (Nat.le_of_ble_eq_true rfl) dX3_draftReplaced_72 ⟨Nat.le_of_ble_eq_true rfl, Nat.le_of_ble_eq_true rfl⟩) (fun r67 cw68 hp69 => ?_)
          refine z_cw hp69.2 ?_
          refine z_top hp69.1 ?_
          refine z_iadd C dX3_draftReplaced_75 ?_
          refine z_top (y := nI (i + pat.length)) (nI_add _ _) ?_
          refine z_istore (lv' := [(4, .int (nI (i + pat.length))), (3, .int (nI (t + 1))), (5, .int (nI i)), (0, .ref (ad (0))), (1, .int (x)), (2, .ref (ad (3 + 2 * now)))]) C dX3_draftReplaced_76 (by decide) rfl ?_
          refine z_goto (tgt := 94) C dX3_draftReplaced_78 (by decide) ?_
          refine z_iinc (x := nI (i + 1)) (lv' := [(5, .int (nI (i + 1))), (4, .int (nI (i + pat.length))), (3, .int (nI (t + 1))), (0, .ref (ad (0))), (1, .int (x)), (2, .ref (ad (3 + 2 * now)))]) C dX3_draftReplaced_94 2 rfl (nI_1 i) (by decide) rfl ?_
          refine z_goto (tgt := 23) C dX3_draftReplaced_97 (by decide) ?_
          refine z_lv (lv' := [(5, .int (nI (i + 1))), (4, .int (nI (i + pat.length))), (3, .int (nI (t + 1))), (0, .ref (ad (0))), (1, .int (x)), (2, .ref (ad (3 + 2 * now)))]) [0, 1, 2, 3, 4, 5] rfl ?_
          exact ih (i + 1) (i + pat.length) (t + 1) (o ++ [x]) _ (by omega) hle (by rw [List.length_append]; show o.length + 1 ≤ _; omega) (by omega) (zCh_app hch (zCh_one hx)) ⟨n, by omega, by rw [Nat.max_eq_right (by omega)]; exact hn2⟩ ⟨by rw [hw_65, List.length_append]; rfl, by rw [List.length_append]; show o.length + 1 ≤ _; omega, _, hw_66, zIs_add r4 _⟩ (fun j hj => ((fun j hj => by rw [hp57, va_up_ne _ _ (by omega), va_up_ne _ _ (by omega)]) : ∀ j, (j ≠ 34 ∧ j ≠ 35) → _ = cwk j) j hj |>.trans (hfrm j hj))
      · skip
        have hbi : i < b := Nat.lt_of_not_le (fun h9 => c37 (nI_le h9 (by omega)))
        refine z_goto (tgt := 94) C dX3_draftReplaced_39 (by decide) ?_
        refine z_iinc (x := nI (i + 1)) (lv' := [(5, .int (nI (i + 1))), (4, .int (nI b)), (3, .int (nI t)), (0, .ref (ad (0))), (1, .int (x)), (2, .ref (ad (3 + 2 * now)))]) C dX3_draftReplaced_94 0 rfl (nI_1 i) (by decide) rfl ?_
        refine z_goto (tgt := 23) C dX3_draftReplaced_97 (by decide) ?_
        refine z_lv (lv' := [(5, .int (nI (i + 1))), (4, .int (nI b)), (3, .int (nI t)), (0, .ref (ad (0))), (1, .int (x)), (2, .ref (ad (3 + 2 * now)))]) [0, 1, 2, 3, 4, 5] rfl ?_
        exact ih (i + 1) b t o _ (by omega) hb (by omega) (by omega) hch (by rw [Nat.max_eq_right (by omega)] at hrep ⊢; exact hrep) hrow hfrm

theorem qX3_replace_0 : ∀ w ∈ wsX30, w ∈ wsX3_replace := by decide +kernel
theorem qX3_replace_1 : Cond.fieldLink RX3 21 "PieceText" "sought" "LPieceText$Row;" ∈ wsX3_replace := by decide +kernel
theorem qX3_replace_2 : Cond.classLink RX3 88 "java/lang/IllegalStateException" ∈ wsX3_replace := by decide +kernel
theorem qX3_replace_3 : Cond.initialized "java/lang/IllegalStateException" ∈ wsX3_replace := by decide +kernel
set_option maxHeartbeats 4000000 in
set_option maxRecDepth 100000 in
theorem c_PT_replace (l : Launch) (D : va_G) (cI cR cL : ClassId) (B N : Nat) (ad : Nat → Nat) (cw : Nat → va_E) (hl8 : l.stackTraces = false) (hN : 45 < N) {past fut : Nat} {hs : Nat → List Int32} {pat ws dr : List Int32} (hX : zRX cI cR ad cw past fut hs pat ws dr) (x : Int32) : vx_Met l yX3_replace wsX3_replace ({ frames := 7, cells := 2, slots := 12, locals := 124 } : Room) (va_Pc [.ref (ad (0)), .int (x)] (zI D vwCl (zTy cI cR cL) B N ad cw)) (zQi D vwCl B N ad (fun (v : Int32) (cw' : Nat → va_E) => (∃ q, q < 256 ∧ x = nI q) ∧ 0 < pat.length ∧ v = nI (sRep (hs past) pat x (hs past).length 0 [] 0).2 ∧ zRX cI cR ad cw' (aPast past) 0 (aHs past hs (sRep (hs past) pat x (hs past).length 0 [] 0).1) pat ws (sRep (hs past) pat x (hs past).length 0 [] 0).1 ∧ ∀ j, 37 ≤ j → cw' j = cw j)) (zXC D vwCl B N ad cw (fun E : String => (E = xIA ∧ ¬ (∃ q, q < 256 ∧ x = nI q)) ∨ (E = xIS ∧ (∃ q, q < 256 ∧ x = nI q) ∧ ¬ (0 < pat.length)))) 2 12 (zA B) := by
  obtain ⟨x0, ⟨now, hH⟩, ⟨fr, ht, hfr⟩, ⟨p1, p2, pf, p3, p4⟩, ⟨w1, w2, ⟨wf, w3, w4⟩, sf, w5⟩, ⟨d1, d2, g, d3, d4⟩, nf, x6⟩ := id hX
  obtain ⟨g1, g2, g3, g4, g5, g6⟩ := id hH
  obtain ⟨t1, t2, f, t3, t4⟩ := zHist_now hH
  refine z_ofX (cc := cX3_replace) (maxL := 3) (ret := (some .int)) (by decide) rfl (Nat.le_of_ble_eq_true rfl) ?_
  intro p e s m args below meth c C hr h0
  refine z_lv (lv' := [(0, .ref (ad (0))), (1, .int (x))]) [0, 1] rfl ?_
  refine z_iload_n C dX3_replace_0 1 rfl ?_
  refine z_xcallv (z_xrunS (As := [.int (x)]) (rest := []) C (c_PT_noChar l D cI cR cL B N ad cw hl8 (x)) (va_cwS 1 C.2.2.2.2.1 gX3_replace_X3_refuseNoCharacter rfl rfl rfl (by decide +kernel) ⟨Nat.le_of_ble_eq_true rfl, Nat.le_of_ble_eq_true rfl⟩) rfl rfl (Nat.le_of_ble_eq_true rfl) dX3_replace_1 ⟨Nat.le_of_ble_eq_true rfl, Nat.le_of_ble_eq_true rfl⟩) (fun E3 hx4 => ?_) (fun cw1 hp2 => ?_)
  · exact z_xout C h0 (Or.inl hx4) (Nat.le_of_ble_eq_true rfl) (Nat.le_of_ble_eq_true rfl)
  obtain ⟨⟨u, hu, rfl⟩, hp2c⟩ := hp2
  refine z_cw hp2c ?_
  refine z_aload_n C dX3_replace_4 0 rfl ?_
  refine z_get (Cn := RX3) (T := TX3) (NF := 5) (ci := 3) (v := .ref (ad (29))) C qX3_replace_0 rfl 1 (by decide) (C.2.2.2.2.1 _ qX3_replace_1) (fun _ h9 => h9) dX3_replace_5 (0) (by omega) x0 rfl ?_
  refine z_calli (z_runV (As := []) (rest := []) C (c_Row_size l D cI cR cL B N ad cw (by omega) p1) (cwV 0 C.2.2.2.2.1 gX3_replace_X2_size rfl rfl rfl (by decide +kernel) ⟨Nat.le_of_ble_eq_true rfl, Nat.le_of_ble_eq_true rfl⟩) (by omega) p1 rfl rfl rfl rfl (Nat.le_of_ble_eq_true rfl) dX3_replace_8 ⟨Nat.le_of_ble_eq_true rfl, Nat.le_of_ble_eq_true rfl⟩) (fun r5 cw6 hp7 => ?_)
  refine z_cw hp7.2 ?_
  refine z_top hp7.1 ?_
  refine z_if_ne (tgt := 24) C dX3_replace_11 (by decide) (fun c8 => ?_) (fun c8 => ?_)
  · skip
    have hp0 : 0 < pat.length := Nat.pos_of_ne_zero (fun h9 => c8 (by rw [h9]; decide))
    refine z_aload_n C dX3_replace_24 0 rfl ?_
    refine z_iload_n C dX3_replace_25 1 rfl ?_
    refine z_calli (z_runV (As := [.int (nI u)]) (rest := []) C (c_PT_draftReplaced l D cI cR cL B N ad cw hN hX hp0 (nI u) ⟨u, hu, rfl⟩) (cwV 1 C.2.2.2.2.1 gX3_replace_X3_draftReplaced rfl rfl rfl (by decide +kernel) ⟨Nat.le_of_ble_eq_true rfl, Nat.le_of_ble_eq_true rfl⟩) (by omega) x0 rfl rfl rfl rfl (Nat.le_of_ble_eq_true rfl) dX3_replace_26 ⟨Nat.le_of_ble_eq_true rfl, Nat.le_of_ble_eq_true rfl⟩) (fun r9 cw10 hp11 => ?_)
    have hw_12 : cw10 (0) = .inr (3, [.ref (ad (1)), .ref (ad (29)), .ref (ad (31)), .ref (ad (34)), .ref (ad (36))]) := by rw [hp11.2.2.2 (0) (by omega)]; exact x0
    have hw_13 : cw10 (29) = .inr (2, [.ref (ad (30)), .int (nI (pat.length))]) := by rw [hp11.2.2.2 (29) (by omega)]; exact p1
    refine z_istore_n (lv' := [(2, .int (r9)), (0, .ref (ad (0))), (1, .int (nI u))]) C dX3_replace_29 rfl (by decide) rfl ?_
    refine z_aload_n C dX3_replace_30 1 rfl ?_
    have hX14 : zRX cI cR ad cw10 past fut hs pat ws ((sRep (hs past) pat (nI u) (hs past).length 0 [] 0).1) := zRX_draft hX (hp11.2.2.2) (hp11.2.1)
    refine z_calli (z_runV (As := []) (rest := []) C (c_PT_keepDraft l D cI cR cL B N ad cw10 hN hX14 (hp11.2.2.1)) (cwV 0 C.2.2.2.2.1 gX3_replace_X3_keepDraft rfl rfl rfl (by decide +kernel) ⟨Nat.le_of_ble_eq_true rfl, Nat.le_of_ble_eq_true rfl⟩) (by omega) hw_12 rfl rfl rfl rfl (Nat.le_of_ble_eq_true rfl) dX3_replace_31 ⟨Nat.le_of_ble_eq_true rfl, Nat.le_of_ble_eq_true rfl⟩) (fun r15 cw16 hp17 => ?_)
    refine z_pop C dX3_replace_34 rfl ?_
    refine z_iload_n C dX3_replace_35 0 rfl ?_
    exact z_xiret C hr dX3_replace_36 (⟨⟨u, hu, rfl⟩, hp0, hp11.1, hp17.2.1, fun j hj => (hp17.2.2 j hj).trans (hp11.2.2.2 j (by omega))⟩) (Nat.le_of_ble_eq_true rfl) (Nat.le_of_ble_eq_true rfl)
  · skip
    exact z_throw (cls := xIS) (names := xNames) C hl8 h0 rfl (by decide) (by decide) (C.2.2.2.2.1 _ qX3_replace_2) (C.2.2.2.2.1 _ qX3_replace_3) (show (113, "the pattern has no characters") ∈ zStrs by decide +kernel) (fun w h => List.mem_cons_of_mem _ (List.mem_append_left _ (List.mem_append_right _ h))) zng_IS zgd_IS dX3_replace_14 dX3_replace_17 dX3_replace_18 dX3_replace_20 dX3_replace_23 (Nat.le_of_ble_eq_true rfl) (Nat.le_of_ble_eq_true rfl) (Nat.le_of_ble_eq_true rfl) (Nat.le_of_ble_eq_true rfl) (Or.inr ⟨rfl, ⟨u, hu, rfl⟩, fun h9 => nI_ne0 h9 (by omega) c8⟩) (Nat.le_of_ble_eq_true rfl) (Nat.le_of_ble_eq_true rfl)

