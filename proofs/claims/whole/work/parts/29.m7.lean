theorem zRM_rd {cI : ClassId} {ad : Nat → Nat} {cw cw' : Nat → va_E} {past fut : Nat} {hs : Nat → List Int32} {pat ws : List Int32} {th dn th' dn' : Int32} (h : zRM cI ad cw past fut hs pat ws th dn) (h1 : cw' 37 = .inr (4, [.int (th'), .ref (ad (38)), .ref (ad (39)), .int (nI (past)), .int (nI (fut)), .ref (ad (40)), .int (dn'), .ref (ad (41)), .int (nI (pat.length)), .ref (ad (42)), .int (nI (ws.length)), .ref (ad (43)), .ref (ad (44))])) (h2 : ∃ df, cw' 40 = .inl (cI, 240, .inl (df))) (h3 : ∃ bf, cw' 43 = .inl (cI, 241, .inl (bf))) (h4 : ∃ zf, cw' 44 = .inl (cI, 241, .inl (zf))) (hk : ∀ j, (j ≠ 37 ∧ j ≠ 40 ∧ j ≠ 43 ∧ j ≠ 44) → cw' j = cw j) : zRM cI ad cw' past fut hs pat ws th' dn' := by
  obtain ⟨m1, ⟨m2, tf, lf, m3, m4, m5⟩, ⟨df, m6⟩, ⟨m7, pf, m8, m9⟩, ⟨m10, wf, m11, m12⟩, ⟨bf, m13⟩, zf, m14⟩ := h
  exact ⟨h1, ⟨m2, tf, lf, (hk _ (by omega)).trans m3, (hk _ (by omega)).trans m4, m5⟩, h2, ⟨m7, pf, (hk _ (by omega)).trans m8, m9⟩, ⟨m10, wf, (hk _ (by omega)).trans m11, m12⟩, h3, h4⟩
def sB (P : List (List Int32)) (u : Nat) : List Int32 := if u / 257 = 0 then [] else P.getD (u / 257 - 1) []
def sFm (P : List (List Int32)) (u : Nat) : Nat := if u / 257 = 0 then 0 else zSv P (u / 257 - 1)
theorem sPh_B (P : List (List Int32)) (u : Nat) : sPh P u = sB P u ++ (if u % 257 = 256 then [] else [nI (u % 257)]) := rfl
theorem sB_fit {P : List (List Int32)} {u : Nat} (hk : u / 257 ≤ P.length) {i : Nat} (hi : i < (sB P u).length) : sFm P u + i < P.flatten.length ∧ P.flatten[sFm P u + i]? = (sB P u)[i]? := by
  unfold sB sFm at *
  by_cases h0 : u / 257 = 0
  · rw [if_pos h0] at hi
    exact absurd hi (Nat.not_lt_zero _)
  · rw [if_neg h0] at hi ⊢
    rw [if_neg h0]
    have h1 := zSv_next (P := P) (a := u / 257 - 1) (by omega)
    have h2 := zSv_top (P := P) (u / 257 - 1 + 1)
    exact ⟨by omega, flat_get (by omega) hi⟩
theorem sB_next {P : List (List Int32)} {u : Nat} (hk : u / 257 ≤ P.length) {i : Nat} (hi : i < (sB P u).length) {d : Nat → Int32} (hd : zIs d (P.flatten ++ (sB P u).take i)) : (P.flatten ++ (sB P u).take i) ++ [d (sFm P u + i)] = P.flatten ++ (sB P u).take (i + 1) := by
  obtain ⟨h1, h2⟩ := sB_fit hk hi
  have h3 := hd (sFm P u + i) (by rw [List.length_append]; omega)
  rw [List.getElem?_append_left h1, h2] at h3
  rw [List.take_succ, h3, List.append_assoc]
  rfl
theorem sB_top {P : List (List Int32)} {u : Nat} : (sB P u).length ≤ P.flatten.length := by
  unfold sB
  split
  · exact Nat.zero_le _
  · by_cases hl : u / 257 - 1 < P.length
    · have h1 := zSv_next hl
      have h2 := zSv_top (P := P) (u / 257 - 1 + 1)
      omega
    · rw [List.getD_eq_getElem?_getD, List.getElem?_eq_none (by omega)]
      exact Nat.zero_le _
theorem qX4_restore_0 : ∀ w ∈ wsX40, w ∈ wsX4_restore := by decide +kernel
theorem qX4_restore_1 : Cond.fieldLink RX4 31 "PieceTextModel" "thrown" "I" ∈ wsX4_restore := by decide +kernel
theorem qX4_restore_2 : Cond.fieldLink RX4 38 "PieceTextModel" "drafted" "I" ∈ wsX4_restore := by decide +kernel
theorem qX4_restore_3 : Cond.fieldLink RX4 76 "PieceTextModel" "wordCount" "I" ∈ wsX4_restore := by decide +kernel
theorem qX4_restore_4 : Cond.fieldLink RX4 22 "PieceTextModel" "words" "[I" ∈ wsX4_restore := by decide +kernel
theorem qX4_restore_5 : Cond.fieldLink RX4 25 "PieceTextModel" "begins" "[I" ∈ wsX4_restore := by decide +kernel
theorem qX4_restore_6 : Cond.fieldLink RX4 28 "PieceTextModel" "sizes" "[I" ∈ wsX4_restore := by decide +kernel
theorem qX4_restore_7 : Cond.fieldLink RX4 16 "PieceTextModel" "draft" "[I" ∈ wsX4_restore := by decide +kernel
set_option maxHeartbeats 4000000 in
set_option maxRecDepth 100000 in
theorem c_M_restore (l : Launch) (D : va_G) (cI cR cL : ClassId) (B N : Nat) (ad : Nat → Nat) (cw : Nat → va_E) (hN : 45 < N) {past fut : Nat} {hs : Nat → List Int32} {pat ws : List Int32} {th dn : Int32} (hM : zRM cI ad cw past fut hs pat ws th dn) : Met l yX4_restore wsX4_restore ({ frames := 1, cells := 0, slots := 0, locals := 21 } : Room) (va_Pc [.ref (ad (37))] (zI D vwCl (zTy cI cR cL) B N ad cw)) (zQi D vwCl B N ad (fun (v : Int32) (cw' : Nat → va_E) => ((∃ k, sRst ws.length ws 0 [] = .inl k ∧ k < 240 ∧ v = -1 - nI k ∧ ∃ dn', zRM cI ad cw' past fut hs pat ws (nI 0) dn') ∨ (∃ T9, sRst ws.length ws 0 [] = .inr T9 ∧ v = nI T9.length ∧ zRM cI ad cw' (aPast past) 0 (aHs past hs T9) pat ws (nI 0) (nI T9.length))) ∧ ∀ j, (j < 37 ∨ 45 ≤ j) → cw' j = cw j)) 0 0 (zA B) := by
  obtain ⟨m1, ⟨m2, tf, lf, m3, m4, m5⟩, ⟨df, m6⟩, ⟨m7, pf, m8, m9⟩, ⟨m10, wf, m11, m12⟩, ⟨bf, m13⟩, zf, m14⟩ := id hM
  obtain ⟨k1, k2, k3⟩ := m5 past (by omega)
  refine z_ofW (cc := cX4_restore) (maxL := 9) (ret := (some .int)) (by decide) rfl (Nat.le_of_ble_eq_true rfl) ?_
  intro p e s m args below meth c C hr hnm
  refine z_lv (lv' := [(0, .ref (ad (37)))]) [0] rfl ?_
  refine z_aload_n C dX4_restore_0 0 rfl ?_
  refine z_iconst (v := nI 0) C dX4_restore_1 (by decide) ?_
  obtain ⟨cw1, ecw1⟩ : ∃ z : Nat → va_E, z = va_up (cw) (37) (.inr (4, [.int (nI 0), .ref (ad (38)), .ref (ad (39)), .int (nI (past)), .int (nI (fut)), .ref (ad (40)), .int (dn), .ref (ad (41)), .int (nI (pat.length)), .ref (ad (42)), .int (nI (ws.length)), .ref (ad (43)), .ref (ad (44))])) := ⟨_, rfl⟩
  refine z_put (Cn := RX4) (T := TX4) (NF := 13) (ci := 4) (ty := .int) (v := .int (nI 0)) C qX4_restore_0 tyX4_ok nmX4 rfl 0 (by decide) (C.2.2.2.2.1 _ qX4_restore_1) (fun _ h9 => h9) rfl (by decide +kernel) dX4_restore_2 (37) (by omega) m1 rfl rfl (Nat.le_of_ble_eq_true rfl) ?_
  refine z_cw ecw1.symm ?_
  have hw_2 : cw1 (37) = .inr (4, [.int (nI 0), .ref (ad (38)), .ref (ad (39)), .int (nI (past)), .int (nI (fut)), .ref (ad (40)), .int (dn), .ref (ad (41)), .int (nI (pat.length)), .ref (ad (42)), .int (nI (ws.length)), .ref (ad (43)), .ref (ad (44))]) := by rw [ecw1, va_up_self]
  have hw_3 : cw1 (40) = .inl (cI, 240, .inl (df)) := by rw [ecw1, va_up_ne _ _ (by decide)]; exact m6
  have hw_4 : cw1 (42) = .inl (cI, 240, .inl (wf)) := by rw [ecw1, va_up_ne _ _ (by decide)]; exact m11
  have hw_5 : cw1 (43) = .inl (cI, 241, .inl (bf)) := by rw [ecw1, va_up_ne _ _ (by decide)]; exact m13
  have hw_6 : cw1 (44) = .inl (cI, 241, .inl (zf)) := by rw [ecw1, va_up_ne _ _ (by decide)]; exact m14
  refine z_aload_n C dX4_restore_5 0 rfl ?_
  refine z_iconst (v := nI 0) C dX4_restore_6 (by decide) ?_
  obtain ⟨cw7, ecw7⟩ : ∃ z : Nat → va_E, z = va_up (cw1) (37) (.inr (4, [.int (nI 0), .ref (ad (38)), .ref (ad (39)), .int (nI (past)), .int (nI (fut)), .ref (ad (40)), .int (nI 0), .ref (ad (41)), .int (nI (pat.length)), .ref (ad (42)), .int (nI (ws.length)), .ref (ad (43)), .ref (ad (44))])) := ⟨_, rfl⟩
  refine z_put (Cn := RX4) (T := TX4) (NF := 13) (ci := 4) (ty := .int) (v := .int (nI 0)) C qX4_restore_0 tyX4_ok nmX4 rfl 6 (by decide) (C.2.2.2.2.1 _ qX4_restore_2) (fun _ h9 => h9) rfl (by decide +kernel) dX4_restore_7 (37) (by omega) hw_2 rfl rfl (Nat.le_of_ble_eq_true rfl) ?_
  refine z_cw ecw7.symm ?_
  have hw_8 : cw7 (37) = .inr (4, [.int (nI 0), .ref (ad (38)), .ref (ad (39)), .int (nI (past)), .int (nI (fut)), .ref (ad (40)), .int (nI 0), .ref (ad (41)), .int (nI (pat.length)), .ref (ad (42)), .int (nI (ws.length)), .ref (ad (43)), .ref (ad (44))]) := by rw [ecw7, va_up_self]
  have hw_9 : cw7 (40) = .inl (cI, 240, .inl (df)) := by rw [ecw7, va_up_ne _ _ (by decide)]; exact hw_3
  have hw_10 : cw7 (42) = .inl (cI, 240, .inl (wf)) := by rw [ecw7, va_up_ne _ _ (by decide)]; exact hw_4
  have hw_11 : cw7 (43) = .inl (cI, 241, .inl (bf)) := by rw [ecw7, va_up_ne _ _ (by decide)]; exact hw_5
  have hw_12 : cw7 (44) = .inl (cI, 241, .inl (zf)) := by rw [ecw7, va_up_ne _ _ (by decide)]; exact hw_6
  refine z_iconst (v := nI 0) C dX4_restore_10 (by decide) ?_
  refine z_istore_n (lv' := [(1, .int (nI 0)), (0, .ref (ad (37)))]) C dX4_restore_11 rfl (by decide) rfl ?_
  refine z_lv (lv' := [(1, .int (nI 0)), (0, .ref (ad (37)))]) [0, 1] rfl ?_
  suffices loop : ∀ (mm i : Nat) (P : List (List Int32)) (cwk : Nat → va_E), ws.length = i + mm → P.length = i → sRst ws.length (ws.drop i) i P = sRst ws.length ws 0 [] → P.flatten.length ≤ 240 → cwk 37 = .inr (4, [.int (nI 0), .ref (ad (38)), .ref (ad (39)), .int (nI (past)), .int (nI (fut)), .ref (ad (40)), .int (nI (P.flatten.length)), .ref (ad (41)), .int (nI (pat.length)), .ref (ad (42)), .int (nI (ws.length)), .ref (ad (43)), .ref (ad (44))]) → (∃ d9, cwk 40 = .inl (cI, 240, .inl (d9)) ∧ zIs d9 P.flatten) → (∃ b9, cwk 43 = .inl (cI, 241, .inl (b9)) ∧ ∀ a, 1 ≤ a → a ≤ i → b9 a = nI (zSv P (a - 1))) → (∃ z9, cwk 44 = .inl (cI, 241, .inl (z9)) ∧ ∀ a, 1 ≤ a → a ≤ i → z9 a = nI (P.getD (a - 1) []).length) → (∀ j, (j ≠ 37 ∧ j ≠ 40 ∧ j ≠ 43 ∧ j ≠ 44) → cwk j = cw j) → zG p l e (headSpec wsX4_restore ({ frames := 1, cells := 0, slots := 0, locals := 21 } : Room)).room s m args below meth c (MQ below (zQi D vwCl B N ad (fun (v : Int32) (cw' : Nat → va_E) => ((∃ k, sRst ws.length ws 0 [] = .inl k ∧ k < 240 ∧ v = -1 - nI k ∧ ∃ dn', zRM cI ad cw' past fut hs pat ws (nI 0) dn') ∨ (∃ T9, sRst ws.length ws 0 [] = .inr T9 ∧ v = nI T9.length ∧ zRM cI ad cw' (aPast past) 0 (aHs past hs T9) pat ws (nI 0) (nI T9.length))) ∧ ∀ j, (j < 37 ∨ 45 ≤ j) → cw' j = cw j)) args s 0 0 (zA B)) D vwCl B 9 N ad cwk 0 0 [(1, .int (nI i)), (0, .ref (ad (37)))] 12 [] from loop ws.length 0 [] cw7 (by omega) rfl rfl (Nat.zero_le _) hw_8 ⟨_, hw_9, zIs_nil _⟩ ⟨_, hw_11, fun a h1 h2 => absurd h1 (by omega)⟩ ⟨_, hw_12, fun a h1 h2 => absurd h1 (by omega)⟩ (fun j hj => ((fun j hj => by rw [ecw7, va_up_ne _ _ (by omega)]; rw [ecw1, va_up_ne _ _ (by omega)]) : ∀ j, (j ≠ 37) → _ = cw j) j hj.1)
  intro mm
  induction mm with
  | zero =>
    intro i P cwk hi hP hz h240 q1 q2 qb qz hfrm
    obtain ⟨d9, q3, q4⟩ := id q2
    obtain ⟨b9, q5, q6⟩ := id qb
    obtain ⟨z9, q7, q8⟩ := id qz
    have hk_13 : cwk (42) = .inl (cI, 240, .inl (wf)) := (hfrm (42) (by omega)).trans m11
    refine z_iload_n C dX4_restore_12 0 rfl ?_
    refine z_aload_n C dX4_restore_13 1 rfl ?_
    refine z_get (Cn := RX4) (T := TX4) (NF := 13) (ci := 4) (v := .int (nI (ws.length))) C qX4_restore_0 rfl 10 (by decide) (C.2.2.2.2.1 _ qX4_restore_3) (fun _ h9 => h9) dX4_restore_14 (37) (by omega) q1 rfl ?_
    refine z_icmp_ge (tgt := 257) C dX4_restore_17 (by decide) (fun c14 => ?_) (fun c14 => ?_)
    · skip
      rw [List.drop_eq_nil_of_le (by omega), sRst] at hz
      have hMk := zRM_rd hM q1 ⟨_, q3⟩ ⟨_, q5⟩ ⟨_, q7⟩ hfrm
      refine z_aload_n C dX4_restore_257 1 rfl ?_
      refine z_calli (z_runV (As := []) (rest := []) C (c_M_act l D cI cR cL B N ad cwk hN hMk q3 q4 h240) (cwV 0 C.2.2.2.2.1 gX4_restore_X4_act rfl rfl rfl (by decide +kernel) ⟨Nat.le_of_ble_eq_true rfl, Nat.le_of_ble_eq_true rfl⟩) (by omega) q1 rfl rfl rfl rfl (Nat.le_of_ble_eq_true rfl) dX4_restore_258 ⟨Nat.le_of_ble_eq_true rfl, Nat.le_of_ble_eq_true rfl⟩) (fun r15 cw16 hp17 => ?_)
      exact z_iret C hr dX4_restore_261 (⟨Or.inr ⟨P.flatten, hz.symm, hp17.1, hp17.2.1⟩, fun j hj => (hp17.2.2 j (by omega)).trans (hfrm j (by omega))⟩) (Nat.le_of_ble_eq_true rfl) (Nat.le_of_ble_eq_true rfl)
    · skip
      exact absurd (nI_le (by omega) (by omega)) c14
  | succ mm ih =>
    intro i P cwk hi hP hz h240 q1 q2 qb qz hfrm
    obtain ⟨d9, q3, q4⟩ := id q2
    obtain ⟨b9, q5, q6⟩ := id qb
    obtain ⟨z9, q7, q8⟩ := id qz
    have hk_18 : cwk (42) = .inl (cI, 240, .inl (wf)) := (hfrm (42) (by omega)).trans m11
    refine z_iload_n C dX4_restore_12 0 rfl ?_
    refine z_aload_n C dX4_restore_13 1 rfl ?_
    refine z_get (Cn := RX4) (T := TX4) (NF := 13) (ci := 4) (v := .int (nI (ws.length))) C qX4_restore_0 rfl 10 (by decide) (C.2.2.2.2.1 _ qX4_restore_3) (fun _ h9 => h9) dX4_restore_14 (37) (by omega) q1 rfl ?_
    refine z_icmp_ge (tgt := 257) C dX4_restore_17 (by decide) (fun c19 => ?_) (fun c19 => ?_)
    · skip
      exact absurd ((nI_leI (by omega) (by omega)).mp c19) (by omega)
    · skip
      rw [zIs_drop m12 (by omega)] at hz
      by_cases hneg : wf i < 0
      · skip
        have hng := zNeg hneg
        rw [sRst_no (fun h9 => hng h9.1)] at hz
        refine z_aload_n C dX4_restore_20 1 rfl ?_
        refine z_get (Cn := RX4) (T := TX4) (NF := 13) (ci := 4) (v := .ref (ad (42))) C qX4_restore_0 rfl 9 (by decide) (C.2.2.2.2.1 _ qX4_restore_4) (fun _ h9 => h9) dX4_restore_21 (37) (by omega) q1 rfl ?_
        refine z_iload_n C dX4_restore_24 0 rfl ?_
        refine z_iald C 0 rfl dX4_restore_25 (42) (by omega) hk_18 (i) (rfl) (by omega) (by decide) ?_
        refine z_if_ge (tgt := 33) C dX4_restore_26 (by decide) (fun c20 => absurd c20 hng) (fun c20 => ?_)
        refine z_iconst (v := nI 0) C dX4_restore_29 (by decide) ?_
        refine z_goto (tgt := 43) C dX4_restore_30 (by decide) ?_
        refine z_istore_n (lv' := [(2, .int (nI 0)), (1, .int (nI i)), (0, .ref (ad (37)))]) C dX4_restore_43 rfl (by decide) rfl ?_
        refine z_aload_n C dX4_restore_44 2 rfl ?_
        refine z_get (Cn := RX4) (T := TX4) (NF := 13) (ci := 4) (v := .ref (ad (42))) C qX4_restore_0 rfl 9 (by decide) (C.2.2.2.2.1 _ qX4_restore_4) (fun _ h9 => h9) dX4_restore_45 (37) (by omega) q1 rfl ?_
        refine z_iload_n C dX4_restore_48 1 rfl ?_
        refine z_iald C 0 rfl dX4_restore_49 (42) (by omega) hk_18 (i) (rfl) (by omega) (by decide) ?_
        refine z_if_ge (tgt := 57) C dX4_restore_50 (by decide) (fun c21 => absurd c21 hng) (fun c21 => ?_)
        refine z_iconst (v := nI 0) C dX4_restore_53 (by decide) ?_
        refine z_goto (tgt := 67) C dX4_restore_54 (by decide) ?_
        refine z_istore_n (lv' := [(3, .int (nI 0)), (2, .int (nI 0)), (1, .int (nI i)), (0, .ref (ad (37)))]) C dX4_restore_67 rfl (by decide) rfl ?_
        refine z_aload_n C dX4_restore_68 3 rfl ?_
        refine z_get (Cn := RX4) (T := TX4) (NF := 13) (ci := 4) (v := .ref (ad (42))) C qX4_restore_0 rfl 9 (by decide) (C.2.2.2.2.1 _ qX4_restore_4) (fun _ h9 => h9) dX4_restore_69 (37) (by omega) q1 rfl ?_
        refine z_iload_n C dX4_restore_72 2 rfl ?_
        refine z_iald C 0 rfl dX4_restore_73 (42) (by omega) hk_18 (i) (rfl) (by omega) (by decide) ?_
        refine z_if_lt (tgt := 107) C dX4_restore_74 (by decide) (fun c22 => ?_) (fun c22 => absurd hneg c22)
        refine z_iconst (v := nI 0) C dX4_restore_107 (by decide) ?_
        refine z_istore (lv' := [(4, .int (nI 0)), (3, .int (nI 0)), (2, .int (nI 0)), (1, .int (nI i)), (0, .ref (ad (37)))]) C dX4_restore_108 (by decide) rfl ?_
        refine z_iload C dX4_restore_110 0 rfl ?_
        refine z_if_eq (tgt := 119) C dX4_restore_112 (by decide) (fun c23 => ?_) (fun c23 => (c23 (by decide)).elim)
        refine z_iconst (v := nI 0) C dX4_restore_119 (by decide) ?_
        refine z_goto (tgt := 129) C dX4_restore_120 (by decide) ?_
        refine z_istore (lv' := [(5, .int (nI 0)), (4, .int (nI 0)), (3, .int (nI 0)), (2, .int (nI 0)), (1, .int (nI i)), (0, .ref (ad (37)))]) C dX4_restore_129 (by decide) rfl ?_
        refine z_iload_n C dX4_restore_131 2 rfl ?_
        refine z_sipush (v := nI 256) C dX4_restore_132 (by decide) ?_
        refine z_icmp_ge (tgt := 145) C dX4_restore_135 (by decide) (fun c24 => absurd c24 (by decide)) (fun c24 => ?_)
        refine z_iload C dX4_restore_138 0 rfl ?_
        refine z_iconst (v := nI 1) C dX4_restore_140 (by decide) ?_
        refine z_iadd C dX4_restore_141 ?_
        refine z_top (y := nI 1) (by decide) ?_
        refine z_goto (tgt := 147) C dX4_restore_142 (by decide) ?_
        refine z_istore (lv' := [(6, .int (nI 1)), (5, .int (nI 0)), (4, .int (nI 0)), (3, .int (nI 0)), (2, .int (nI 0)), (1, .int (nI i)), (0, .ref (ad (37)))]) C dX4_restore_147 (by decide) rfl ?_
        refine z_iload C dX4_restore_149 2 rfl ?_
        refine z_if_eq (tgt := 167) C dX4_restore_151 (by decide) (fun c25 => ?_) (fun c25 => (c25 (by decide)).elim)
        refine z_iconst (v := -1) C dX4_restore_167 (by decide) ?_
        refine z_iload_n C dX4_restore_168 5 rfl ?_
        refine z_isub C dX4_restore_169 ?_
        exact z_iret C hr dX4_restore_170 (⟨Or.inl ⟨i, hz.symm, by omega, rfl, _, zRM_rd hM q1 ⟨_, q3⟩ ⟨_, q5⟩ ⟨_, q7⟩ hfrm⟩, fun j hj => hfrm j (by omega)⟩) (Nat.le_of_ble_eq_true rfl) (Nat.le_of_ble_eq_true rfl)
      · skip
        obtain ⟨u, hu, hwu⟩ := nI_of hneg
        rw [hwu] at hz
        have hfo := zFine_of (j := i) (n := ws.length) hu
        have hq : u / 257 < 2 ^ 31 := by omega
        refine z_aload_n C dX4_restore_20 1 rfl ?_
        refine z_get (Cn := RX4) (T := TX4) (NF := 13) (ci := 4) (v := .ref (ad (42))) C qX4_restore_0 rfl 9 (by decide) (C.2.2.2.2.1 _ qX4_restore_4) (fun _ h9 => h9) dX4_restore_21 (37) (by omega) q1 rfl ?_
        refine z_iload_n C dX4_restore_24 0 rfl ?_
        refine z_iald C 0 rfl dX4_restore_25 (42) (by omega) hk_18 (i) (rfl) (by omega) (by decide) ?_
        refine z_top (y := nI u) (hwu) ?_
        refine z_if_ge (tgt := 33) C dX4_restore_26 (by decide) (fun c26 => ?_) (fun c26 => absurd (nI_pos' hu) c26)
        refine z_aload_n C dX4_restore_33 1 rfl ?_
        refine z_get (Cn := RX4) (T := TX4) (NF := 13) (ci := 4) (v := .ref (ad (42))) C qX4_restore_0 rfl 9 (by decide) (C.2.2.2.2.1 _ qX4_restore_4) (fun _ h9 => h9) dX4_restore_34 (37) (by omega) q1 rfl ?_
        refine z_iload_n C dX4_restore_37 0 rfl ?_
        refine z_iald C 0 rfl dX4_restore_38 (42) (by omega) hk_18 (i) (rfl) (by omega) (by decide) ?_
        refine z_top (y := nI u) (hwu) ?_
        refine z_sipush (v := nI 257) C dX4_restore_39 (by decide) ?_
        refine z_idiv C dX4_restore_42 (by decide) ?_
        refine z_top (y := nI (u / 257)) (pk_div hu (by omega) (by omega)) ?_
        refine z_istore_n (lv' := [(2, .int (nI (u / 257))), (1, .int (nI i)), (0, .ref (ad (37)))]) C dX4_restore_43 rfl (by decide) rfl ?_
        refine z_aload_n C dX4_restore_44 2 rfl ?_
        refine z_get (Cn := RX4) (T := TX4) (NF := 13) (ci := 4) (v := .ref (ad (42))) C qX4_restore_0 rfl 9 (by decide) (C.2.2.2.2.1 _ qX4_restore_4) (fun _ h9 => h9) dX4_restore_45 (37) (by omega) q1 rfl ?_
        refine z_iload_n C dX4_restore_48 1 rfl ?_
        refine z_iald C 0 rfl dX4_restore_49 (42) (by omega) hk_18 (i) (rfl) (by omega) (by decide) ?_
        refine z_top (y := nI u) (hwu) ?_
        refine z_if_ge (tgt := 57) C dX4_restore_50 (by decide) (fun c27 => ?_) (fun c27 => absurd (nI_pos' hu) c27)
        refine z_aload_n C dX4_restore_57 2 rfl ?_
        refine z_get (Cn := RX4) (T := TX4) (NF := 13) (ci := 4) (v := .ref (ad (42))) C qX4_restore_0 rfl 9 (by decide) (C.2.2.2.2.1 _ qX4_restore_4) (fun _ h9 => h9) dX4_restore_58 (37) (by omega) q1 rfl ?_
        refine z_iload_n C dX4_restore_61 1 rfl ?_
        refine z_iald C 0 rfl dX4_restore_62 (42) (by omega) hk_18 (i) (rfl) (by omega) (by decide) ?_
        refine z_top (y := nI u) (hwu) ?_
        refine z_sipush (v := nI 257) C dX4_restore_63 (by decide) ?_
        refine z_irem C dX4_restore_66 (by decide) ?_
        refine z_top (y := nI (u % 257)) (pk_rem hu (by omega) (by omega)) ?_
        refine z_istore_n (lv' := [(3, .int (nI (u % 257))), (2, .int (nI (u / 257))), (1, .int (nI i)), (0, .ref (ad (37)))]) C dX4_restore_67 rfl (by decide) rfl ?_
        refine z_aload_n C dX4_restore_68 3 rfl ?_
        refine z_get (Cn := RX4) (T := TX4) (NF := 13) (ci := 4) (v := .ref (ad (42))) C qX4_restore_0 rfl 9 (by decide) (C.2.2.2.2.1 _ qX4_restore_4) (fun _ h9 => h9) dX4_restore_69 (37) (by omega) q1 rfl ?_
        refine z_iload_n C dX4_restore_72 2 rfl ?_
        refine z_iald C 0 rfl dX4_restore_73 (42) (by omega) hk_18 (i) (rfl) (by omega) (by decide) ?_
        refine z_top (y := nI u) (hwu) ?_
        refine z_if_lt (tgt := 107) C dX4_restore_74 (by decide) (fun c28 => absurd c28 (nI_pos hu)) (fun c28 => ?_)
        refine z_lv (lv' := [(3, .int (nI (u % 257))), (2, .int (nI (u / 257))), (1, .int (nI i)), (0, .ref (ad (37)))]) [0, 1, 2, 3] rfl ?_
        have bad : ¬ zFine (nI u) i ws.length → zG p l e (headSpec wsX4_restore ({ frames := 1, cells := 0, slots := 0, locals := 21 } : Room)).room s m args below meth c (MQ below (zQi D vwCl B N ad (fun (v : Int32) (cw' : Nat → va_E) => ((∃ k, sRst ws.length ws 0 [] = .inl k ∧ k < 240 ∧ v = -1 - nI k ∧ ∃ dn', zRM cI ad cw' past fut hs pat ws (nI 0) dn') ∨ (∃ T9, sRst ws.length ws 0 [] = .inr T9 ∧ v = nI T9.length ∧ zRM cI ad cw' (aPast past) 0 (aHs past hs T9) pat ws (nI 0) (nI T9.length))) ∧ ∀ j, (j < 37 ∨ 45 ≤ j) → cw' j = cw j)) args s 0 0 (zA B)) D vwCl B 9 N ad cwk 0 0 [(3, .int (nI (u % 257))), (2, .int (nI (u / 257))), (1, .int (nI i)), (0, .ref (ad (37)))] 107 [] := by
          intro hno
          rw [sRst_no hno] at hz
          refine z_iconst (v := nI 0) C dX4_restore_107 (by decide) ?_
          refine z_istore (lv' := [(4, .int (nI 0)), (3, .int (nI (u % 257))), (2, .int (nI (u / 257))), (1, .int (nI i)), (0, .ref (ad (37)))]) C dX4_restore_108 (by decide) rfl ?_
          refine z_iload C dX4_restore_110 0 rfl ?_
          refine z_if_eq (tgt := 119) C dX4_restore_112 (by decide) (fun c29 => ?_) (fun c29 => (c29 (by decide)).elim)
          refine z_iconst (v := nI 0) C dX4_restore_119 (by decide) ?_
          refine z_goto (tgt := 129) C dX4_restore_120 (by decide) ?_
          refine z_istore (lv' := [(5, .int (nI 0)), (4, .int (nI 0)), (3, .int (nI (u % 257))), (2, .int (nI (u / 257))), (1, .int (nI i)), (0, .ref (ad (37)))]) C dX4_restore_129 (by decide) rfl ?_
          refine z_iload_n C dX4_restore_131 2 rfl ?_
          refine z_sipush (v := nI 256) C dX4_restore_132 (by decide) ?_
          refine z_icmp_ge (tgt := 145) C dX4_restore_135 (by decide) (fun c30 => ?_) (fun c30 => ?_)
          · skip
            refine z_iload C dX4_restore_145 0 rfl ?_
            refine z_istore (lv' := [(6, .int (nI 0)), (5, .int (nI 0)), (4, .int (nI 0)), (3, .int (nI (u % 257))), (2, .int (nI (u / 257))), (1, .int (nI i)), (0, .ref (ad (37)))]) C dX4_restore_147 (by decide) rfl ?_
            refine z_iload C dX4_restore_149 2 rfl ?_
            refine z_if_eq (tgt := 167) C dX4_restore_151 (by decide) (fun c31 => ?_) (fun c31 => (c31 (by decide)).elim)
            refine z_iconst (v := -1) C dX4_restore_167 (by decide) ?_
            refine z_iload_n C dX4_restore_168 5 rfl ?_
            refine z_isub C dX4_restore_169 ?_
            exact z_iret C hr dX4_restore_170 (⟨Or.inl ⟨i, hz.symm, by omega, rfl, _, zRM_rd hM q1 ⟨_, q3⟩ ⟨_, q5⟩ ⟨_, q7⟩ hfrm⟩, fun j hj => hfrm j (by omega)⟩) (Nat.le_of_ble_eq_true rfl) (Nat.le_of_ble_eq_true rfl)
          · skip
            refine z_iload C dX4_restore_138 0 rfl ?_
            refine z_iconst (v := nI 1) C dX4_restore_140 (by decide) ?_
            refine z_iadd C dX4_restore_141 ?_
            refine z_top (y := nI 1) (by decide) ?_
            refine z_goto (tgt := 147) C dX4_restore_142 (by decide) ?_
            refine z_istore (lv' := [(6, .int (nI 1)), (5, .int (nI 0)), (4, .int (nI 0)), (3, .int (nI (u % 257))), (2, .int (nI (u / 257))), (1, .int (nI i)), (0, .ref (ad (37)))]) C dX4_restore_147 (by decide) rfl ?_
            refine z_iload C dX4_restore_149 2 rfl ?_
            refine z_if_eq (tgt := 167) C dX4_restore_151 (by decide) (fun c32 => ?_) (fun c32 => (c32 (by decide)).elim)
            refine z_iconst (v := -1) C dX4_restore_167 (by decide) ?_
            refine z_iload_n C dX4_restore_168 5 rfl ?_
            refine z_isub C dX4_restore_169 ?_
            exact z_iret C hr dX4_restore_170 (⟨Or.inl ⟨i, hz.symm, by omega, rfl, _, zRM_rd hM q1 ⟨_, q3⟩ ⟨_, q5⟩ ⟨_, q7⟩ hfrm⟩, fun j hj => hfrm j (by omega)⟩) (Nat.le_of_ble_eq_true rfl) (Nat.le_of_ble_eq_true rfl)
        have good : zFine (nI u) i ws.length → zG p l e (headSpec wsX4_restore ({ frames := 1, cells := 0, slots := 0, locals := 21 } : Room)).room s m args below meth c (MQ below (zQi D vwCl B N ad (fun (v : Int32) (cw' : Nat → va_E) => ((∃ k, sRst ws.length ws 0 [] = .inl k ∧ k < 240 ∧ v = -1 - nI k ∧ ∃ dn', zRM cI ad cw' past fut hs pat ws (nI 0) dn') ∨ (∃ T9, sRst ws.length ws 0 [] = .inr T9 ∧ v = nI T9.length ∧ zRM cI ad cw' (aPast past) 0 (aHs past hs T9) pat ws (nI 0) (nI T9.length))) ∧ ∀ j, (j < 37 ∨ 45 ≤ j) → cw' j = cw j)) args s 0 0 (zA B)) D vwCl B 9 N ad cwk 0 0 [(3, .int (nI (u % 257))), (2, .int (nI (u / 257))), (1, .int (nI i)), (0, .ref (ad (37)))] 103 [] := by
          intro hfi
          have hk1 : u / 257 ≤ i := (hfo.mp hfi).1
          have hbt := sB_top (P := P) (u := u)
          have hpl : (sPh P u).length = (sB P u).length + (if u % 257 = 256 then 0 else 1) := by rw [sPh_B, List.length_append]; split <;> rfl
          refine z_iconst (v := nI 1) C dX4_restore_103 (by decide) ?_
          refine z_goto (tgt := 108) C dX4_restore_104 (by decide) ?_
          refine z_istore (lv' := [(4, .int (nI 1)), (3, .int (nI (u % 257))), (2, .int (nI (u / 257))), (1, .int (nI i)), (0, .ref (ad (37)))]) C dX4_restore_108 (by decide) rfl ?_
          refine z_lv (lv' := [(4, .int (nI 1)), (3, .int (nI (u % 257))), (2, .int (nI (u / 257))), (1, .int (nI i)), (0, .ref (ad (37)))]) [0, 1, 2, 3, 4] rfl ?_
          have at149 : zG p l e (headSpec wsX4_restore ({ frames := 1, cells := 0, slots := 0, locals := 21 } : Room)).room s m args below meth c (MQ below (zQi D vwCl B N ad (fun (v : Int32) (cw' : Nat → va_E) => ((∃ k, sRst ws.length ws 0 [] = .inl k ∧ k < 240 ∧ v = -1 - nI k ∧ ∃ dn', zRM cI ad cw' past fut hs pat ws (nI 0) dn') ∨ (∃ T9, sRst ws.length ws 0 [] = .inr T9 ∧ v = nI T9.length ∧ zRM cI ad cw' (aPast past) 0 (aHs past hs T9) pat ws (nI 0) (nI T9.length))) ∧ ∀ j, (j < 37 ∨ 45 ≤ j) → cw' j = cw j)) args s 0 0 (zA B)) D vwCl B 9 N ad cwk 0 0 [(6, .int (nI (sPh P u).length)), (5, .int (nI (sB P u).length)), (4, .int (nI 1)), (3, .int (nI (u % 257))), (2, .int (nI (u / 257))), (1, .int (nI i)), (0, .ref (ad (37)))] 149 [] := by
            refine z_iload C dX4_restore_149 2 rfl ?_
            refine z_if_eq (tgt := 167) C dX4_restore_151 (by decide) (fun c33 => absurd c33 (by decide)) (fun c33 => ?_)
            have hsl : (sPh P u).length ≤ 241 := by rw [hpl]; split <;> omega
            refine z_aload_n C dX4_restore_154 6 rfl ?_
            refine z_get (Cn := RX4) (T := TX4) (NF := 13) (ci := 4) (v := .int (nI (P.flatten.length))) C qX4_restore_0 rfl 6 (by decide) (C.2.2.2.2.1 _ qX4_restore_2) (fun _ h9 => h9) dX4_restore_155 (37) (by omega) q1 rfl ?_
            refine z_iload C dX4_restore_158 0 rfl ?_
            refine z_iadd C dX4_restore_160 ?_
            refine z_top (y := nI (P.flatten.length + (sPh P u).length)) (nI_add _ _) ?_
            refine z_sipush (v := nI 240) C dX4_restore_161 (by decide) ?_
            refine z_icmp_le (tgt := 171) C dX4_restore_164 (by decide) (fun c34 => ?_) (fun c34 => ?_)
            · skip
              have hfit : P.flatten.length + (sPh P u).length ≤ 240 := (nI_leI (by omega) (by omega)).mp c34
              rw [sRst_yes hu hfi hfit] at hz
              refine z_aload_n C dX4_restore_171 6 rfl ?_
              refine z_get (Cn := RX4) (T := TX4) (NF := 13) (ci := 4) (v := .ref (ad (43))) C qX4_restore_0 rfl 11 (by decide) (C.2.2.2.2.1 _ qX4_restore_5) (fun _ h9 => h9) dX4_restore_172 (37) (by omega) q1 rfl ?_
              refine z_iload_n C dX4_restore_175 5 rfl ?_
              refine z_iconst (v := nI 1) C dX4_restore_176 (by decide) ?_
              refine z_iadd C dX4_restore_177 ?_
              refine z_top (y := nI (i + 1)) (nI_1 i) ?_
              refine z_aload_n C dX4_restore_178 6 rfl ?_
              refine z_get (Cn := RX4) (T := TX4) (NF := 13) (ci := 4) (v := .int (nI (P.flatten.length))) C qX4_restore_0 rfl 6 (by decide) (C.2.2.2.2.1 _ qX4_restore_2) (fun _ h9 => h9) dX4_restore_179 (37) (by omega) q1 rfl ?_
              obtain ⟨cw35, ecw35⟩ : ∃ z : Nat → va_E, z = va_up (cwk) (43) (.inl (cI, 241, .inl (upd (b9) (i + 1) ((nI (P.flatten.length)))))) := ⟨_, rfl⟩
              refine z_iast C 0 rfl dX4_restore_182 (43) (by omega) q5 (i + 1) (rfl) (by omega) (by decide) ?_
              refine z_cw ecw35.symm ?_
              have hw_36 : cw35 (37) = .inr (4, [.int (nI 0), .ref (ad (38)), .ref (ad (39)), .int (nI (past)), .int (nI (fut)), .ref (ad (40)), .int (nI (P.flatten.length)), .ref (ad (41)), .int (nI (pat.length)), .ref (ad (42)), .int (nI (ws.length)), .ref (ad (43)), .ref (ad (44))]) := by rw [ecw35, va_up_ne _ _ (by decide)]; exact q1
              have hw_37 : cw35 (40) = .inl (cI, 240, .inl (d9)) := by rw [ecw35, va_up_ne _ _ (by decide)]; exact q3
              have hw_38 : cw35 (43) = .inl (cI, 241, .inl (upd (b9) (i + 1) ((nI (P.flatten.length))))) := by rw [ecw35, va_up_self]
              have hw_39 : cw35 (44) = .inl (cI, 241, .inl (z9)) := by rw [ecw35, va_up_ne _ _ (by decide)]; exact q7
              have hw_40 : cw35 (42) = .inl (cI, 240, .inl (wf)) := by rw [ecw35, va_up_ne _ _ (by decide)]; exact hk_18
              refine z_aload_n C dX4_restore_183 6 rfl ?_
              refine z_get (Cn := RX4) (T := TX4) (NF := 13) (ci := 4) (v := .ref (ad (44))) C qX4_restore_0 rfl 12 (by decide) (C.2.2.2.2.1 _ qX4_restore_6) (fun _ h9 => h9) dX4_restore_184 (37) (by omega) hw_36 rfl ?_
              refine z_iload_n C dX4_restore_187 5 rfl ?_
              refine z_iconst (v := nI 1) C dX4_restore_188 (by decide) ?_
              refine z_iadd C dX4_restore_189 ?_
              refine z_top (y := nI (i + 1)) (nI_1 i) ?_
              refine z_iload C dX4_restore_190 0 rfl ?_
              obtain ⟨cw41, ecw41⟩ : ∃ z : Nat → va_E, z = va_up (cw35) (44) (.inl (cI, 241, .inl (upd (z9) (i + 1) ((nI (sPh P u).length))))) := ⟨_, rfl⟩
              refine z_iast C 0 rfl dX4_restore_192 (44) (by omega) hw_39 (i + 1) (rfl) (by omega) (by decide) ?_
              refine z_cw ecw41.symm ?_
              have hw_42 : cw41 (37) = .inr (4, [.int (nI 0), .ref (ad (38)), .ref (ad (39)), .int (nI (past)), .int (nI (fut)), .ref (ad (40)), .int (nI (P.flatten.length)), .ref (ad (41)), .int (nI (pat.length)), .ref (ad (42)), .int (nI (ws.length)), .ref (ad (43)), .ref (ad (44))]) := by rw [ecw41, va_up_ne _ _ (by decide)]; exact hw_36
              have hw_43 : cw41 (40) = .inl (cI, 240, .inl (d9)) := by rw [ecw41, va_up_ne _ _ (by decide)]; exact hw_37
              have hw_44 : cw41 (43) = .inl (cI, 241, .inl (upd (b9) (i + 1) ((nI (P.flatten.length))))) := by rw [ecw41, va_up_ne _ _ (by decide)]; exact hw_38
              have hw_45 : cw41 (44) = .inl (cI, 241, .inl (upd (z9) (i + 1) ((nI (sPh P u).length)))) := by rw [ecw41, va_up_self]
              have hw_46 : cw41 (42) = .inl (cI, 240, .inl (wf)) := by rw [ecw41, va_up_ne _ _ (by decide)]; exact hw_40
              refine z_lv (lv' := [(6, .int (nI (sPh P u).length)), (5, .int (nI (sB P u).length)), (4, .int (nI 1)), (3, .int (nI (u % 257))), (2, .int (nI (u / 257))), (1, .int (nI i)), (0, .ref (ad (37)))]) [0, 1, 2, 3, 4, 5, 6] rfl ?_
              have frI : ∀ j, (j ≠ 43 ∧ j ≠ 44) → cw41 j = cwk j := fun j hj => by rw [ecw41, va_up_ne _ _ (by omega)]; rw [ecw35, va_up_ne _ _ (by omega)]
              have inner : ∀ (nn u2 : Nat) (cwj : Nat → va_E), (sB P u).length = u2 + nn → cwj 37 = .inr (4, [.int (nI 0), .ref (ad (38)), .ref (ad (39)), .int (nI (past)), .int (nI (fut)), .ref (ad (40)), .int (nI (P.flatten ++ (sB P u).take u2).length), .ref (ad (41)), .int (nI (pat.length)), .ref (ad (42)), .int (nI (ws.length)), .ref (ad (43)), .ref (ad (44))]) → (∃ d8, cwj 40 = .inl (cI, 240, .inl (d8)) ∧ zIs d8 (P.flatten ++ (sB P u).take u2)) → (∀ j, (j ≠ 37 ∧ j ≠ 40) → cwj j = cw41 j) → zG p l e (headSpec wsX4_restore ({ frames := 1, cells := 0, slots := 0, locals := 21 } : Room)).room s m args below meth c (MQ below (zQi D vwCl B N ad (fun (v : Int32) (cw' : Nat → va_E) => ((∃ k, sRst ws.length ws 0 [] = .inl k ∧ k < 240 ∧ v = -1 - nI k ∧ ∃ dn', zRM cI ad cw' past fut hs pat ws (nI 0) dn') ∨ (∃ T9, sRst ws.length ws 0 [] = .inr T9 ∧ v = nI T9.length ∧ zRM cI ad cw' (aPast past) 0 (aHs past hs T9) pat ws (nI 0) (nI T9.length))) ∧ ∀ j, (j < 37 ∨ 45 ≤ j) → cw' j = cw j)) args s 0 0 (zA B)) D vwCl B 9 N ad cwj 0 0 [(8, .int (nI u2)), (7, .int (nI (sFm P u))), (6, .int (nI (sPh P u).length)), (5, .int (nI (sB P u).length)), (4, .int (nI 1)), (3, .int (nI (u % 257))), (2, .int (nI (u / 257))), (1, .int (nI i)), (0, .ref (ad (37)))] 212 [] := by
                intro nn
                induction nn with
                | zero =>
                  intro u2 cwj hu2 v1 v2 hfj
                  obtain ⟨d8, v3, v4⟩ := id v2
                  have htl : (P.flatten ++ (sB P u).take u2).length = P.flatten.length + u2 := by rw [List.length_append, List.length_take, Nat.min_eq_left (by omega)]
                  have hk_47 : cwj (43) = .inl (cI, 241, .inl (upd (b9) (i + 1) ((nI (P.flatten.length))))) := (hfj (43) (by omega)).trans hw_44
                  have hk_48 : cwj (44) = .inl (cI, 241, .inl (upd (z9) (i + 1) ((nI (sPh P u).length)))) := (hfj (44) (by omega)).trans hw_45
                  refine z_iload C dX4_restore_212 0 rfl ?_
                  refine z_iload C dX4_restore_214 3 rfl ?_
                  refine z_icmp_ge (tgt := 239) C dX4_restore_216 (by decide) (fun c49 => ?_) (fun c49 => ?_)
                  rotate_left
                  · skip
                    exact absurd (nI_le (by omega) (by omega)) c49
                  have hall : (sB P u).take u2 = sB P u := List.take_of_length_le (by omega)
                  rw [hall] at v1 v4 htl
                  refine z_iload_n C dX4_restore_239 5 rfl ?_
                  refine z_sipush (v := nI 256) C dX4_restore_240 (by decide) ?_
                  refine z_icmp_ge (tgt := 251) C dX4_restore_243 (by decide) (fun c50 => ?_) (fun c50 => ?_)
                  · skip
                    have hc : u % 257 = 256 := by have h9 := (nI_leI (by omega) (by omega)).mp c50; omega
                    have hflt : (P ++ [sPh P u]).flatten = P.flatten ++ sB P u := by rw [flat_one, sPh_B, if_pos hc, List.append_nil]
                    rw [if_pos hc] at hpl
                    refine z_iinc (x := nI (i + 1)) (lv' := [(1, .int (nI (i + 1))), (8, .int (nI u2)), (7, .int (nI (sFm P u))), (6, .int (nI (sPh P u).length)), (5, .int (nI (sB P u).length)), (4, .int (nI 1)), (3, .int (nI (u % 257))), (2, .int (nI (u / 257))), (0, .ref (ad (37)))]) C dX4_restore_251 7 rfl (nI_1 i) (by decide) rfl ?_
                    refine z_goto (tgt := 12) C dX4_restore_254 (by decide) ?_
                    refine z_lv (lv' := [(1, .int (nI (i + 1))), (0, .ref (ad (37)))]) [0, 8] rfl ?_
                    refine ih (i + 1) (P ++ [sPh P u]) _ (by omega) (by rw [List.length_append, hP]; rfl) hz (by rw [flat_one, List.length_append]; exact hfit) (by rw [v1, hflt]) ⟨_, v3, by rw [hflt]; exact v4⟩ ⟨_, hk_47, fun a h1 h2 => ?_⟩ ⟨_, hk_48, fun a h1 h2 => ?_⟩ (fun j hj => (((fun j _ => rfl) : ∀ j, (j ≠ 37 ∧ j ≠ 40) → _ = cwj j) j (by omega)).trans ((hfj j (by omega)).trans ((frI j (by omega)).trans (hfrm j hj))))
                    · by_cases h9 : a = i + 1
                      · rw [h9, pk_us, zSv_app (by omega), zSv_all (by omega)]
                      · rw [pk_un h9, zSv_app (by omega)]; exact q6 a h1 (by omega)
                    · by_cases h9 : a = i + 1
                      · rw [h9, pk_us, List.getD_eq_getElem?_getD, List.getElem?_append_right (by omega), show i + 1 - 1 - P.length = 0 by omega]; rfl
                      · rw [pk_un h9, List.getD_eq_getElem?_getD, List.getElem?_append_left (by omega), ← List.getD_eq_getElem?_getD]; exact q8 a h1 (by omega)
                  · skip
                    have hc : ¬ u % 257 = 256 := fun h9 => c50 (by rw [h9]; exact nI_le (Nat.le_refl _) (by omega))
                    have hflt : (P ++ [sPh P u]).flatten = (P.flatten ++ sB P u) ++ [nI (u % 257)] := by rw [flat_one, sPh_B, if_neg hc, List.append_assoc]
                    rw [if_neg hc] at hpl
                    refine z_aload_n C dX4_restore_246 8 rfl ?_
                    refine z_iload_n C dX4_restore_247 5 rfl ?_
                    refine z_callv (z_runV (As := [.int (nI (u % 257))]) (rest := []) C (c_M_draftOne l D cI cR cL B N ad cwj hN (n := ((P.flatten ++ sB P u)).length) v1 v3 (by rw [List.length_append]; omega) (nI (u % 257))) (cwV 1 C.2.2.2.2.1 gX4_restore_X4_draftOne rfl rfl rfl (by decide +kernel) ⟨Nat.le_of_ble_eq_true rfl, Nat.le_of_ble_eq_true rfl⟩) (by omega) v1 rfl rfl rfl rfl (Nat.le_of_ble_eq_true rfl) dX4_restore_248 ⟨Nat.le_of_ble_eq_true rfl, Nat.le_of_ble_eq_true rfl⟩) (fun cw51 hp52 => ?_)
                    have hw_53 : cw51 (37) = .inr (4, [.int (nI 0), .ref (ad (38)), .ref (ad (39)), .int (nI (past)), .int (nI (fut)), .ref (ad (40)), .int (nI (((P.flatten ++ sB P u)).length + 1)), .ref (ad (41)), .int (nI (pat.length)), .ref (ad (42)), .int (nI (ws.length)), .ref (ad (43)), .ref (ad (44))]) := by rw [hp52, va_up_self]
                    have hw_54 : cw51 (40) = .inl (cI, 240, .inl (upd (d8) (((P.flatten ++ sB P u)).length) (nI (u % 257)))) := by rw [hp52, va_up_ne _ _ (by decide), va_up_self]
                    have hw_55 : cw51 (43) = .inl (cI, 241, .inl (upd (b9) (i + 1) ((nI (P.flatten.length))))) := by rw [hp52, va_up_ne _ _ (by decide), va_up_ne _ _ (by decide)]; exact hk_47
                    have hw_56 : cw51 (44) = .inl (cI, 241, .inl (upd (z9) (i + 1) ((nI (sPh P u).length)))) := by rw [hp52, va_up_ne _ _ (by decide), va_up_ne _ _ (by decide)]; exact hk_48
                    have hv_57 : cw51 37 = .inr (4, [.int (nI 0), .ref (ad (38)), .ref (ad (39)), .int (nI (past)), .int (nI (fut)), .ref (ad (40)), .int (nI (((P.flatten ++ sB P u) ++ [nI (u % 257)]).length)), .ref (ad (41)), .int (nI (pat.length)), .ref (ad (42)), .int (nI (ws.length)), .ref (ad (43)), .ref (ad (44))]) := by rw [hw_53, len_snoc]
                    have hz_58 := zIs_add v4 (nI (u % 257))
                    refine z_iinc (x := nI (i + 1)) (lv' := [(1, .int (nI (i + 1))), (8, .int (nI u2)), (7, .int (nI (sFm P u))), (6, .int (nI (sPh P u).length)), (5, .int (nI (sB P u).length)), (4, .int (nI 1)), (3, .int (nI (u % 257))), (2, .int (nI (u / 257))), (0, .ref (ad (37)))]) C dX4_restore_251 7 rfl (nI_1 i) (by decide) rfl ?_
                    refine z_goto (tgt := 12) C dX4_restore_254 (by decide) ?_
                    refine z_lv (lv' := [(1, .int (nI (i + 1))), (0, .ref (ad (37)))]) [0, 8] rfl ?_
                    refine ih (i + 1) (P ++ [sPh P u]) _ (by omega) (by rw [List.length_append, hP]; rfl) hz (by rw [flat_one, List.length_append]; exact hfit) (by rw [hv_57, hflt]) ⟨_, hw_54, by rw [hflt]; exact hz_58⟩ ⟨_, hw_55, fun a h1 h2 => ?_⟩ ⟨_, hw_56, fun a h1 h2 => ?_⟩ (fun j hj => (((fun j hj => by rw [hp52, va_up_ne _ _ (by omega), va_up_ne _ _ (by omega)]) : ∀ j, (j ≠ 37 ∧ j ≠ 40) → _ = cwj j) j (by omega)).trans ((hfj j (by omega)).trans ((frI j (by omega)).trans (hfrm j hj))))
                    · by_cases h9 : a = i + 1
                      · rw [h9, pk_us, zSv_app (by omega), zSv_all (by omega)]
                      · rw [pk_un h9, zSv_app (by omega)]; exact q6 a h1 (by omega)
                    · by_cases h9 : a = i + 1
                      · rw [h9, pk_us, List.getD_eq_getElem?_getD, List.getElem?_append_right (by omega), show i + 1 - 1 - P.length = 0 by omega]; rfl
                      · rw [pk_un h9, List.getD_eq_getElem?_getD, List.getElem?_append_left (by omega), ← List.getD_eq_getElem?_getD]; exact q8 a h1 (by omega)
                | succ nn jh =>
                  intro u2 cwj hu2 v1 v2 hfj
                  obtain ⟨d8, v3, v4⟩ := id v2
                  have htl : (P.flatten ++ (sB P u).take u2).length = P.flatten.length + u2 := by rw [List.length_append, List.length_take, Nat.min_eq_left (by omega)]
                  have hk_59 : cwj (43) = .inl (cI, 241, .inl (upd (b9) (i + 1) ((nI (P.flatten.length))))) := (hfj (43) (by omega)).trans hw_44
                  have hk_60 : cwj (44) = .inl (cI, 241, .inl (upd (z9) (i + 1) ((nI (sPh P u).length)))) := (hfj (44) (by omega)).trans hw_45
                  refine z_iload C dX4_restore_212 0 rfl ?_
                  refine z_iload C dX4_restore_214 3 rfl ?_
                  refine z_icmp_ge (tgt := 239) C dX4_restore_216 (by decide) (fun c61 => ?_) (fun c61 => ?_)
                  · skip
                    exact absurd ((nI_leI (by omega) (by omega)).mp c61) (by omega)
                  · skip
                    have hb1 := sB_fit (P := P) (u := u) (by omega) (show u2 < _ by omega)
                    refine z_aload_n C dX4_restore_219 8 rfl ?_
                    refine z_aload_n C dX4_restore_220 8 rfl ?_
                    refine z_get (Cn := RX4) (T := TX4) (NF := 13) (ci := 4) (v := .ref (ad (40))) C qX4_restore_0 rfl 5 (by decide) (C.2.2.2.2.1 _ qX4_restore_7) (fun _ h9 => h9) dX4_restore_221 (37) (by omega) v1 rfl ?_
                    refine z_iload C dX4_restore_224 1 rfl ?_
                    refine z_iload C dX4_restore_226 0 rfl ?_
                    refine z_iadd C dX4_restore_228 ?_
                    refine z_top (y := nI (sFm P u + u2)) (nI_add _ _) ?_
                    refine z_iald C 0 rfl dX4_restore_229 (40) (by omega) v3 (sFm P u + u2) (rfl) (by omega) (by decide) ?_
                    refine z_callv (z_runV (As := [.int (d8 (sFm P u + u2))]) (rest := []) C (c_M_draftOne l D cI cR cL B N ad cwj hN (n := ((P.flatten ++ (sB P u).take u2)).length) v1 v3 (by rw [htl]; omega) (d8 (sFm P u + u2))) (cwV 1 C.2.2.2.2.1 gX4_restore_X4_draftOne rfl rfl rfl (by decide +kernel) ⟨Nat.le_of_ble_eq_true rfl, Nat.le_of_ble_eq_true rfl⟩) (by omega) v1 rfl rfl rfl rfl (Nat.le_of_ble_eq_true rfl) dX4_restore_230 ⟨Nat.le_of_ble_eq_true rfl, Nat.le_of_ble_eq_true rfl⟩) (fun cw62 hp63 => ?_)
                    have hw_64 : cw62 (37) = .inr (4, [.int (nI 0), .ref (ad (38)), .ref (ad (39)), .int (nI (past)), .int (nI (fut)), .ref (ad (40)), .int (nI (((P.flatten ++ (sB P u).take u2)).length + 1)), .ref (ad (41)), .int (nI (pat.length)), .ref (ad (42)), .int (nI (ws.length)), .ref (ad (43)), .ref (ad (44))]) := by rw [hp63, va_up_self]
                    have hw_65 : cw62 (40) = .inl (cI, 240, .inl (upd (d8) (((P.flatten ++ (sB P u).take u2)).length) (d8 (sFm P u + u2)))) := by rw [hp63, va_up_ne _ _ (by decide), va_up_self]
                    have hw_66 : cw62 (43) = .inl (cI, 241, .inl (upd (b9) (i + 1) ((nI (P.flatten.length))))) := by rw [hp63, va_up_ne _ _ (by decide), va_up_ne _ _ (by decide)]; exact hk_59
                    have hw_67 : cw62 (44) = .inl (cI, 241, .inl (upd (z9) (i + 1) ((nI (sPh P u).length)))) := by rw [hp63, va_up_ne _ _ (by decide), va_up_ne _ _ (by decide)]; exact hk_60
                    have hv_68 : cw62 37 = .inr (4, [.int (nI 0), .ref (ad (38)), .ref (ad (39)), .int (nI (past)), .int (nI (fut)), .ref (ad (40)), .int (nI (((P.flatten ++ (sB P u).take u2) ++ [d8 (sFm P u + u2)]).length)), .ref (ad (41)), .int (nI (pat.length)), .ref (ad (42)), .int (nI (ws.length)), .ref (ad (43)), .ref (ad (44))]) := by rw [hw_64, len_snoc]
                    have hz_69 := zIs_add v4 (d8 (sFm P u + u2))
                    refine z_iinc (x := nI (u2 + 1)) (lv' := [(8, .int (nI (u2 + 1))), (7, .int (nI (sFm P u))), (6, .int (nI (sPh P u).length)), (5, .int (nI (sB P u).length)), (4, .int (nI 1)), (3, .int (nI (u % 257))), (2, .int (nI (u / 257))), (1, .int (nI i)), (0, .ref (ad (37)))]) C dX4_restore_233 0 rfl (nI_1 u2) (by decide) rfl ?_
                    refine z_goto (tgt := 212) C dX4_restore_236 (by decide) ?_
                    refine z_lv (lv' := [(8, .int (nI (u2 + 1))), (7, .int (nI (sFm P u))), (6, .int (nI (sPh P u).length)), (5, .int (nI (sB P u).length)), (4, .int (nI 1)), (3, .int (nI (u % 257))), (2, .int (nI (u / 257))), (1, .int (nI i)), (0, .ref (ad (37)))]) [0, 1, 2, 3, 4, 5, 6, 7, 8] rfl ?_
                    have hnx := sB_next (P := P) (u := u) (by omega) (show u2 < _ by omega) v4
                    exact jh (u2 + 1) _ (by omega) (by rw [hv_68, hnx]) ⟨_, hw_65, by rw [← hnx]; exact hz_69⟩ (fun j hj => (((fun j hj => by rw [hp63, va_up_ne _ _ (by omega), va_up_ne _ _ (by omega)]) : ∀ j, (j ≠ 37 ∧ j ≠ 40) → _ = cwj j) j hj).trans (hfj j hj))
              by_cases hk0 : u / 257 = 0
              · skip
                have hfm : sFm P u = 0 := by unfold sFm; rw [if_pos hk0]
                refine z_iload_n C dX4_restore_193 4 rfl ?_
                refine z_if_ne (tgt := 201) C dX4_restore_194 (by decide) (fun c70 => absurd (by rw [hk0]; decide) c70) (fun c70 => ?_)
                refine z_iconst (v := nI 0) C dX4_restore_197 (by decide) ?_
                refine z_goto (tgt := 207) C dX4_restore_198 (by decide) ?_
                refine z_istore (lv' := [(7, .int (nI 0)), (6, .int (nI (sPh P u).length)), (5, .int (nI (sB P u).length)), (4, .int (nI 1)), (3, .int (nI (u % 257))), (2, .int (nI (u / 257))), (1, .int (nI i)), (0, .ref (ad (37)))]) C dX4_restore_207 (by decide) rfl ?_
                refine z_iconst (v := nI 0) C dX4_restore_209 (by decide) ?_
                refine z_istore (lv' := [(8, .int (nI 0)), (7, .int (nI 0)), (6, .int (nI (sPh P u).length)), (5, .int (nI (sB P u).length)), (4, .int (nI 1)), (3, .int (nI (u % 257))), (2, .int (nI (u / 257))), (1, .int (nI i)), (0, .ref (ad (37)))]) C dX4_restore_210 (by decide) rfl ?_
                rw [hfm] at inner
                refine z_lv (lv' := [(8, .int (nI 0)), (7, .int (nI 0)), (6, .int (nI (sPh P u).length)), (5, .int (nI (sB P u).length)), (4, .int (nI 1)), (3, .int (nI (u % 257))), (2, .int (nI (u / 257))), (1, .int (nI i)), (0, .ref (ad (37)))]) [0, 1, 2, 3, 4, 5, 6, 7, 8] rfl ?_
                exact inner (sB P u).length 0 _ (by omega) (by rw [List.take_zero, List.append_nil]; exact hw_42) ⟨_, hw_43, by rw [List.take_zero, List.append_nil]; exact q4⟩ (fun _ _ => rfl)
              · skip
                have hfm : sFm P u = zSv P (u / 257 - 1) := by unfold sFm; rw [if_neg hk0]
                refine z_iload_n C dX4_restore_193 4 rfl ?_
                refine z_if_ne (tgt := 201) C dX4_restore_194 (by decide) (fun c71 => ?_) (fun c71 => absurd c71 (nI_ne0 (by omega) hq))
                refine z_aload_n C dX4_restore_201 6 rfl ?_
                refine z_get (Cn := RX4) (T := TX4) (NF := 13) (ci := 4) (v := .ref (ad (43))) C qX4_restore_0 rfl 11 (by decide) (C.2.2.2.2.1 _ qX4_restore_5) (fun _ h9 => h9) dX4_restore_202 (37) (by omega) hw_42 rfl ?_
                refine z_iload_n C dX4_restore_205 4 rfl ?_
                refine z_iald C 0 rfl dX4_restore_206 (43) (by omega) hw_44 (u / 257) (rfl) (by omega) (by decide) ?_
                refine z_top (y := nI (sFm P u)) (by rw [hfm, pk_un (by omega)]; exact q6 _ (by omega) (by omega)) ?_
                refine z_istore (lv' := [(7, .int (nI (sFm P u))), (6, .int (nI (sPh P u).length)), (5, .int (nI (sB P u).length)), (4, .int (nI 1)), (3, .int (nI (u % 257))), (2, .int (nI (u / 257))), (1, .int (nI i)), (0, .ref (ad (37)))]) C dX4_restore_207 (by decide) rfl ?_
                refine z_iconst (v := nI 0) C dX4_restore_209 (by decide) ?_
                refine z_istore (lv' := [(8, .int (nI 0)), (7, .int (nI (sFm P u))), (6, .int (nI (sPh P u).length)), (5, .int (nI (sB P u).length)), (4, .int (nI 1)), (3, .int (nI (u % 257))), (2, .int (nI (u / 257))), (1, .int (nI i)), (0, .ref (ad (37)))]) C dX4_restore_210 (by decide) rfl ?_
                refine z_lv (lv' := [(8, .int (nI 0)), (7, .int (nI (sFm P u))), (6, .int (nI (sPh P u).length)), (5, .int (nI (sB P u).length)), (4, .int (nI 1)), (3, .int (nI (u % 257))), (2, .int (nI (u / 257))), (1, .int (nI i)), (0, .ref (ad (37)))]) [0, 1, 2, 3, 4, 5, 6, 7, 8] rfl ?_
                exact inner (sB P u).length 0 _ (by omega) (by rw [List.take_zero, List.append_nil]; exact hw_42) ⟨_, hw_43, by rw [List.take_zero, List.append_nil]; exact q4⟩ (fun _ _ => rfl)
            · skip
              rw [sRst_long hu (fun h9 => c34 (nI_le h9 (by omega)))] at hz
              refine z_iconst (v := -1) C dX4_restore_167 (by decide) ?_
              refine z_iload_n C dX4_restore_168 5 rfl ?_
              refine z_isub C dX4_restore_169 ?_
              exact z_iret C hr dX4_restore_170 (⟨Or.inl ⟨i, hz.symm, by omega, rfl, _, zRM_rd hM q1 ⟨_, q3⟩ ⟨_, q5⟩ ⟨_, q7⟩ hfrm⟩, fun j hj => hfrm j (by omega)⟩) (Nat.le_of_ble_eq_true rfl) (Nat.le_of_ble_eq_true rfl)
          have at131 : zG p l e (headSpec wsX4_restore ({ frames := 1, cells := 0, slots := 0, locals := 21 } : Room)).room s m args below meth c (MQ below (zQi D vwCl B N ad (fun (v : Int32) (cw' : Nat → va_E) => ((∃ k, sRst ws.length ws 0 [] = .inl k ∧ k < 240 ∧ v = -1 - nI k ∧ ∃ dn', zRM cI ad cw' past fut hs pat ws (nI 0) dn') ∨ (∃ T9, sRst ws.length ws 0 [] = .inr T9 ∧ v = nI T9.length ∧ zRM cI ad cw' (aPast past) 0 (aHs past hs T9) pat ws (nI 0) (nI T9.length))) ∧ ∀ j, (j < 37 ∨ 45 ≤ j) → cw' j = cw j)) args s 0 0 (zA B)) D vwCl B 9 N ad cwk 0 0 [(5, .int (nI (sB P u).length)), (4, .int (nI 1)), (3, .int (nI (u % 257))), (2, .int (nI (u / 257))), (1, .int (nI i)), (0, .ref (ad (37)))] 131 [] := by
            refine z_iload_n C dX4_restore_131 2 rfl ?_
            refine z_sipush (v := nI 256) C dX4_restore_132 (by decide) ?_
            refine z_icmp_ge (tgt := 145) C dX4_restore_135 (by decide) (fun c72 => ?_) (fun c72 => ?_)
            · skip
              have hc : u % 257 = 256 := by have h9 := (nI_leI (by omega) (by omega)).mp c72; omega
              refine z_iload C dX4_restore_145 0 rfl ?_
              refine z_istore (lv' := [(6, .int (nI (sB P u).length)), (5, .int (nI (sB P u).length)), (4, .int (nI 1)), (3, .int (nI (u % 257))), (2, .int (nI (u / 257))), (1, .int (nI i)), (0, .ref (ad (37)))]) C dX4_restore_147 (by decide) rfl ?_
              rw [if_pos hc, Nat.add_zero] at hpl
              rw [hpl] at at149
              refine z_lv (lv' := [(6, .int (nI (sB P u).length)), (5, .int (nI (sB P u).length)), (4, .int (nI 1)), (3, .int (nI (u % 257))), (2, .int (nI (u / 257))), (1, .int (nI i)), (0, .ref (ad (37)))]) [0, 1, 2, 3, 4, 5, 6] rfl ?_
              exact at149
            · skip
              have hc : ¬ u % 257 = 256 := fun h9 => c72 (by rw [h9]; exact nI_le (Nat.le_refl _) (by omega))
              refine z_iload C dX4_restore_138 0 rfl ?_
              refine z_iconst (v := nI 1) C dX4_restore_140 (by decide) ?_
              refine z_iadd C dX4_restore_141 ?_
              refine z_top (y := nI (sPh P u).length) (by rw [hpl, if_neg hc]; exact nI_1 _) ?_
              refine z_goto (tgt := 147) C dX4_restore_142 (by decide) ?_
              refine z_istore (lv' := [(6, .int (nI (sPh P u).length)), (5, .int (nI (sB P u).length)), (4, .int (nI 1)), (3, .int (nI (u % 257))), (2, .int (nI (u / 257))), (1, .int (nI i)), (0, .ref (ad (37)))]) C dX4_restore_147 (by decide) rfl ?_
              refine z_lv (lv' := [(6, .int (nI (sPh P u).length)), (5, .int (nI (sB P u).length)), (4, .int (nI 1)), (3, .int (nI (u % 257))), (2, .int (nI (u / 257))), (1, .int (nI i)), (0, .ref (ad (37)))]) [0, 1, 2, 3, 4, 5, 6] rfl ?_
              exact at149
          by_cases hk0 : u / 257 = 0
          · skip
            have hb0 : (sB P u).length = 0 := by unfold sB; rw [if_pos hk0]; rfl
            refine z_iload C dX4_restore_110 0 rfl ?_
            refine z_if_eq (tgt := 119) C dX4_restore_112 (by decide) (fun c73 => absurd c73 (by decide)) (fun c73 => ?_)
            refine z_iload_n C dX4_restore_115 2 rfl ?_
            refine z_if_ne (tgt := 123) C dX4_restore_116 (by decide) (fun c74 => absurd (by rw [hk0]; decide) c74) (fun c74 => ?_)
            refine z_iconst (v := nI 0) C dX4_restore_119 (by decide) ?_
            refine z_goto (tgt := 129) C dX4_restore_120 (by decide) ?_
            refine z_istore (lv' := [(5, .int (nI 0)), (4, .int (nI 1)), (3, .int (nI (u % 257))), (2, .int (nI (u / 257))), (1, .int (nI i)), (0, .ref (ad (37)))]) C dX4_restore_129 (by decide) rfl ?_
            rw [hb0] at at131
            refine z_lv (lv' := [(5, .int (nI 0)), (4, .int (nI 1)), (3, .int (nI (u % 257))), (2, .int (nI (u / 257))), (1, .int (nI i)), (0, .ref (ad (37)))]) [0, 1, 2, 3, 4, 5] rfl ?_
            exact at131
          · skip
            have hb0 : (sB P u).length = (P.getD (u / 257 - 1) []).length := by unfold sB; rw [if_neg hk0]
            refine z_iload C dX4_restore_110 0 rfl ?_
            refine z_if_eq (tgt := 119) C dX4_restore_112 (by decide) (fun c75 => absurd c75 (by decide)) (fun c75 => ?_)
            refine z_iload_n C dX4_restore_115 2 rfl ?_
            refine z_if_ne (tgt := 123) C dX4_restore_116 (by decide) (fun c76 => ?_) (fun c76 => absurd c76 (nI_ne0 (by omega) hq))
            refine z_aload_n C dX4_restore_123 4 rfl ?_
            refine z_get (Cn := RX4) (T := TX4) (NF := 13) (ci := 4) (v := .ref (ad (44))) C qX4_restore_0 rfl 12 (by decide) (C.2.2.2.2.1 _ qX4_restore_6) (fun _ h9 => h9) dX4_restore_124 (37) (by omega) q1 rfl ?_
            refine z_iload_n C dX4_restore_127 2 rfl ?_
            refine z_iald C 0 rfl dX4_restore_128 (44) (by omega) q7 (u / 257) (rfl) (by omega) (by decide) ?_
            refine z_top (y := nI (sB P u).length) (by rw [hb0]; exact q8 _ (by omega) (by omega)) ?_
            refine z_istore (lv' := [(5, .int (nI (sB P u).length)), (4, .int (nI 1)), (3, .int (nI (u % 257))), (2, .int (nI (u / 257))), (1, .int (nI i)), (0, .ref (ad (37)))]) C dX4_restore_129 (by decide) rfl ?_
            refine z_lv (lv' := [(5, .int (nI (sB P u).length)), (4, .int (nI 1)), (3, .int (nI (u % 257))), (2, .int (nI (u / 257))), (1, .int (nI i)), (0, .ref (ad (37)))]) [0, 1, 2, 3, 4, 5] rfl ?_
            exact at131
        refine z_iload_n C dX4_restore_77 1 rfl ?_
        refine z_iload_n C dX4_restore_78 2 rfl ?_
        refine z_icmp_gt (tgt := 107) C dX4_restore_79 (by decide) (fun c77 => ?_) (fun c77 => ?_)
        · skip
          exact bad (fun h9 => absurd ((hfo.mp h9).1) (Nat.not_le.mpr ((nI_ltI (by omega) hq).mp c77)))
        · skip
          have h1 : u / 257 ≤ i := by rcases Nat.lt_or_ge i (u / 257) with h9 | h9; exact absurd (nI_lt h9 hq) c77; exact h9
          refine z_iload_n C dX4_restore_82 0 rfl ?_
          refine z_sipush (v := nI 256) C dX4_restore_83 (by decide) ?_
          refine z_icmp_lt (tgt := 103) C dX4_restore_86 (by decide) (fun c78 => ?_) (fun c78 => ?_)
          · skip
            exact good (hfo.mpr ⟨h1, Or.inl (fun h9 => by have h8 := (nI_ltI (by omega) (by omega)).mp c78; omega)⟩)
          · skip
            have h2 : u % 257 = 256 := by rcases Nat.lt_or_ge (u % 257) 256 with h9 | h9; exact absurd (nI_lt h9 (by omega)) c78; omega
            refine z_iload_n C dX4_restore_89 2 rfl ?_
            refine z_aload_n C dX4_restore_90 3 rfl ?_
            refine z_get (Cn := RX4) (T := TX4) (NF := 13) (ci := 4) (v := .int (nI (ws.length))) C qX4_restore_0 rfl 10 (by decide) (C.2.2.2.2.1 _ qX4_restore_3) (fun _ h9 => h9) dX4_restore_91 (37) (by omega) q1 rfl ?_
            refine z_iconst (v := nI 1) C dX4_restore_94 (by decide) ?_
            refine z_isub C dX4_restore_95 ?_
            refine z_top (y := nI (ws.length - 1)) (pk_sub (b := 1) (by omega)) ?_
            refine z_icmp_ne (tgt := 107) C dX4_restore_96 (by decide) (fun c79 => ?_) (fun c79 => ?_)
            · skip
              exact bad (fun h9 => c79 (by have h8 := (hfo.mp h9).2; rw [show i = ws.length - 1 by omega]))
            · skip
              have h3 : i = ws.length - 1 := (nI_eq (by omega) (by omega)).mp c79
              refine z_iload_n C dX4_restore_99 1 rfl ?_
              refine z_if_le (tgt := 107) C dX4_restore_100 (by decide) (fun c80 => ?_) (fun c80 => ?_)
              · skip
                exact bad (fun h9 => by have h4 := (hfo.mp h9).2; have h5 : ¬ 0 < u / 257 := fun h6 => nI_nle h6 hq c80; omega)
              · skip
                exact good (hfo.mpr ⟨h1, Or.inr ⟨by omega, Nat.pos_of_ne_zero (fun h6 => c80 (by rw [h6]; decide))⟩⟩)

