def zOld (lf tf : Nat → Int32) (pv : Nat) (hs' : Nat → List Int32) : Prop := ∀ j, j ≤ pv → (hs' j).length ≤ 240 ∧ lf j = nI (hs' j).length ∧ zIs (fun i => tf (240 * j + i)) (hs' j)
theorem zOld_shift {lf tf lf' tf' : Nat → Int32} {hs : Nat → List Int32} {dr : List Int32} (h : ∀ j, j ≤ 12 → (hs j).length ≤ 240 ∧ lf j = nI (hs j).length ∧ zIs (fun i => tf (240 * j + i)) (hs j)) (hl : ∀ t, t < 12 → lf' t = lf (t + 1)) (ht : ∀ k, k < 2880 → tf' k = tf (k + 240)) : zOld lf' tf' 11 (aHs 12 hs dr) := by
  intro j hj
  unfold aHs
  rw [if_pos rfl, if_pos (by omega)]
  obtain ⟨a1, a2, a3⟩ := h (j + 1) (by omega)
  refine ⟨a1, (hl j (by omega)).trans a2, fun i hi => ?_⟩
  rw [a3 i hi]
  show some (tf (240 * (j + 1) + i)) = some (tf' (240 * j + i))
  rw [ht (240 * j + i) (by omega)]
  congr 2
  omega
theorem zOld_same {lf tf : Nat → Int32} {past fut : Nat} {hs : Nat → List Int32} {dr : List Int32} (hp : ¬ past = 12) (h : ∀ j, j ≤ past + fut → (hs j).length ≤ 240 ∧ lf j = nI (hs j).length ∧ zIs (fun i => tf (240 * j + i)) (hs j)) : zOld lf tf past (aHs past hs dr) := by
  intro j hj
  unfold aHs
  rw [if_neg hp, if_neg (by omega)]
  exact h j (by omega)
theorem aHs_top {past : Nat} {hs : Nat → List Int32} {dr : List Int32} (hp : past ≤ 12) : aHs past hs dr (aPast past) = dr := by
  unfold aHs aPast
  by_cases h : past = 12
  · rw [if_pos h, if_pos h, if_neg (by omega)]
  · rw [if_neg h, if_neg h, if_pos rfl]
theorem zOld_new {lf tf tf' : Nat → Int32} {pv : Nat} {hs' : Nat → List Int32} {dr : List Int32} {df : Nat → Int32} (h : zOld lf tf pv hs') (htop : hs' (pv + 1) = dr) (hd : zIs df dr) (h240 : dr.length ≤ 240) (ht : ∀ k, k < 240 * (pv + 1) → tf' k = tf k) (ht2 : ∀ i, i < dr.length → tf' (240 * (pv + 1) + i) = df i) : zOld (upd lf (pv + 1) (nI dr.length)) tf' (pv + 1) hs' := by
  intro j hj
  by_cases hj2 : j = pv + 1
  · subst hj2
    rw [htop, pk_us]
    exact ⟨h240, rfl, fun i hi => by rw [hd i hi]; show some (df i) = some (tf' (240 * (pv + 1) + i)); rw [ht2 i hi]⟩
  · obtain ⟨a1, a2, a3⟩ := h j (by omega)
    rw [pk_un hj2]
    refine ⟨a1, a2, fun i hi => ?_⟩
    rw [a3 i hi]
    show some (tf (240 * j + i)) = some (tf' (240 * j + i))
    rw [ht (240 * j + i) (by have h9 : 240 * (j + 1) ≤ 240 * (pv + 1) := Nat.mul_le_mul_left _ (by omega); omega)]
theorem qX4_act_0 : ∀ w ∈ wsX40, w ∈ wsX4_act := by decide +kernel
theorem qX4_act_1 : Cond.fieldLink RX4 35 "PieceTextModel" "past" "I" ∈ wsX4_act := by decide +kernel
theorem qX4_act_2 : Cond.fieldLink RX4 45 "PieceTextModel" "future" "I" ∈ wsX4_act := by decide +kernel
theorem qX4_act_3 : Cond.fieldLink RX4 13 "PieceTextModel" "lengths" "[I" ∈ wsX4_act := by decide +kernel
theorem qX4_act_4 : Cond.fieldLink RX4 38 "PieceTextModel" "drafted" "I" ∈ wsX4_act := by decide +kernel
theorem qX4_act_5 : Cond.fieldLink RX4 7 "PieceTextModel" "texts" "[I" ∈ wsX4_act := by decide +kernel
theorem qX4_act_6 : Cond.fieldLink RX4 16 "PieceTextModel" "draft" "[I" ∈ wsX4_act := by decide +kernel
set_option maxHeartbeats 4000000 in
set_option maxRecDepth 100000 in
theorem c_M_act (l : Launch) (D : va_G) (cI cR cL : ClassId) (B N : Nat) (ad : Nat → Nat) (cw : Nat → va_E) (hN : 45 < N) {past fut : Nat} {hs : Nat → List Int32} {pat ws dr : List Int32} {th : Int32} (hM : zRM cI ad cw past fut hs pat ws th (nI (dr.length))) {df : Nat → Int32} (e40 : cw 40 = .inl (cI, 240, .inl (df))) (hdr : zIs df dr) (h240 : dr.length ≤ 240) : Met l yX4_act wsX4_act ({ frames := 0, cells := 0, slots := 0, locals := 0 } : Room) (va_Pc [.ref (ad (37))] (zI D vwCl (zTy cI cR cL) B N ad cw)) (zQi D vwCl B N ad (fun (v : Int32) (cw' : Nat → va_E) => v = nI dr.length ∧ zRM cI ad cw' (aPast past) 0 (aHs past hs dr) pat ws th (nI dr.length) ∧ ∀ j, (j ≠ 37 ∧ j ≠ 38 ∧ j ≠ 39) → cw' j = cw j)) 0 0 (zA B) := by
  obtain ⟨m1, ⟨m2, tf, lf, m3, m4, m5⟩, _, ⟨m7, pf, m8, m9⟩, ⟨m10, wf, m11, m12⟩, ⟨bf, m13⟩, zf, m14⟩ := id hM
  refine z_ofW (cc := cX4_act) (maxL := 2) (ret := (some .int)) (by decide) rfl (Nat.le_of_ble_eq_true rfl) ?_
  intro p e s m args below meth c C hr hnm
  refine z_lv (lv' := [(0, .ref (ad (37)))]) [0] rfl ?_
  have tail : ∀ (pv fu : Nat) (tk lk : Nat → Int32) (cwk : Nat → va_E), pv + 1 = aPast past → pv ≤ 11 → fu ≤ 12 → zOld lk tk pv (aHs past hs dr) → cwk 37 = .inr (4, [.int (th), .ref (ad (38)), .ref (ad (39)), .int (nI (pv)), .int (nI (fu)), .ref (ad (40)), .int (nI (dr.length)), .ref (ad (41)), .int (nI (pat.length)), .ref (ad (42)), .int (nI (ws.length)), .ref (ad (43)), .ref (ad (44))]) → cwk 38 = .inl (cI, 3120, .inl (tk)) → cwk 39 = .inl (cI, 13, .inl (lk)) → (∀ j, (j ≠ 37 ∧ j ≠ 38 ∧ j ≠ 39) → cwk j = cw j) → zG p l e (headSpec wsX4_act ({ frames := 0, cells := 0, slots := 0, locals := 0 } : Room)).room s m args below meth c (MQ below (zQi D vwCl B N ad (fun (v : Int32) (cw' : Nat → va_E) => v = nI dr.length ∧ zRM cI ad cw' (aPast past) 0 (aHs past hs dr) pat ws th (nI dr.length) ∧ ∀ j, (j ≠ 37 ∧ j ≠ 38 ∧ j ≠ 39) → cw' j = cw j)) args s 0 0 (zA B)) D vwCl B 2 N ad cwk 0 0 [(0, .ref (ad (37)))] 74 [] := by
    intro pv fu tk lk cwk hpv hp11 hf12 hold q37 q38 q39 hfrm
    have hk_1 : cwk (40) = .inl (cI, 240, .inl (df)) := (hfrm (40) (by omega)).trans e40
    refine z_aload_n C dX4_act_74 0 rfl ?_
    refine z_dup C dX4_act_75 rfl ?_
    refine z_get (Cn := RX4) (T := TX4) (NF := 13) (ci := 4) (v := .int (nI (pv))) C qX4_act_0 rfl 3 (by decide) (C.2.2.2.2.1 _ qX4_act_1) (fun _ h9 => h9) dX4_act_76 (37) (by omega) q37 rfl ?_
    refine z_iconst (v := nI 1) C dX4_act_79 (by decide) ?_
    refine z_iadd C dX4_act_80 ?_
    refine z_top (y := nI (pv + 1)) (nI_1 pv) ?_
    obtain ⟨cw2, ecw2⟩ : ∃ z : Nat → va_E, z = va_up (cwk) (37) (.inr (4, [.int (th), .ref (ad (38)), .ref (ad (39)), .int (nI (pv + 1)), .int (nI (fu)), .ref (ad (40)), .int (nI (dr.length)), .ref (ad (41)), .int (nI (pat.length)), .ref (ad (42)), .int (nI (ws.length)), .ref (ad (43)), .ref (ad (44))])) := ⟨_, rfl⟩
    refine z_put (Cn := RX4) (T := TX4) (NF := 13) (ci := 4) (ty := .int) (v := .int (nI (pv + 1))) C qX4_act_0 tyX4_ok nmX4 rfl 3 (by decide) (C.2.2.2.2.1 _ qX4_act_1) (fun _ h9 => h9) rfl (by decide +kernel) dX4_act_81 (37) (by omega) q37 rfl rfl (Nat.le_of_ble_eq_true rfl) ?_
    refine z_cw ecw2.symm ?_
    have hw_3 : cw2 (37) = .inr (4, [.int (th), .ref (ad (38)), .ref (ad (39)), .int (nI (pv + 1)), .int (nI (fu)), .ref (ad (40)), .int (nI (dr.length)), .ref (ad (41)), .int (nI (pat.length)), .ref (ad (42)), .int (nI (ws.length)), .ref (ad (43)), .ref (ad (44))]) := by rw [ecw2, va_up_self]
    have hw_4 : cw2 (38) = .inl (cI, 3120, .inl (tk)) := by rw [ecw2, va_up_ne _ _ (by decide)]; exact q38
    have hw_5 : cw2 (39) = .inl (cI, 13, .inl (lk)) := by rw [ecw2, va_up_ne _ _ (by decide)]; exact q39
    have hw_6 : cw2 (40) = .inl (cI, 240, .inl (df)) := by rw [ecw2, va_up_ne _ _ (by decide)]; exact hk_1
    refine z_aload_n C dX4_act_84 0 rfl ?_
    refine z_iconst (v := nI 0) C dX4_act_85 (by decide) ?_
    obtain ⟨cw7, ecw7⟩ : ∃ z : Nat → va_E, z = va_up (cw2) (37) (.inr (4, [.int (th), .ref (ad (38)), .ref (ad (39)), .int (nI (pv + 1)), .int (nI 0), .ref (ad (40)), .int (nI (dr.length)), .ref (ad (41)), .int (nI (pat.length)), .ref (ad (42)), .int (nI (ws.length)), .ref (ad (43)), .ref (ad (44))])) := ⟨_, rfl⟩
    refine z_put (Cn := RX4) (T := TX4) (NF := 13) (ci := 4) (ty := .int) (v := .int (nI 0)) C qX4_act_0 tyX4_ok nmX4 rfl 4 (by decide) (C.2.2.2.2.1 _ qX4_act_2) (fun _ h9 => h9) rfl (by decide +kernel) dX4_act_86 (37) (by omega) hw_3 rfl rfl (Nat.le_of_ble_eq_true rfl) ?_
    refine z_cw ecw7.symm ?_
    have hw_8 : cw7 (37) = .inr (4, [.int (th), .ref (ad (38)), .ref (ad (39)), .int (nI (pv + 1)), .int (nI 0), .ref (ad (40)), .int (nI (dr.length)), .ref (ad (41)), .int (nI (pat.length)), .ref (ad (42)), .int (nI (ws.length)), .ref (ad (43)), .ref (ad (44))]) := by rw [ecw7, va_up_self]
    have hw_9 : cw7 (38) = .inl (cI, 3120, .inl (tk)) := by rw [ecw7, va_up_ne _ _ (by decide)]; exact hw_4
    have hw_10 : cw7 (39) = .inl (cI, 13, .inl (lk)) := by rw [ecw7, va_up_ne _ _ (by decide)]; exact hw_5
    have hw_11 : cw7 (40) = .inl (cI, 240, .inl (df)) := by rw [ecw7, va_up_ne _ _ (by decide)]; exact hw_6
    refine z_aload_n C dX4_act_89 0 rfl ?_
    refine z_get (Cn := RX4) (T := TX4) (NF := 13) (ci := 4) (v := .ref (ad (39))) C qX4_act_0 rfl 2 (by decide) (C.2.2.2.2.1 _ qX4_act_3) (fun _ h9 => h9) dX4_act_90 (37) (by omega) hw_8 rfl ?_
    refine z_aload_n C dX4_act_93 0 rfl ?_
    refine z_get (Cn := RX4) (T := TX4) (NF := 13) (ci := 4) (v := .int (nI (pv + 1))) C qX4_act_0 rfl 3 (by decide) (C.2.2.2.2.1 _ qX4_act_1) (fun _ h9 => h9) dX4_act_94 (37) (by omega) hw_8 rfl ?_
    refine z_aload_n C dX4_act_97 0 rfl ?_
    refine z_get (Cn := RX4) (T := TX4) (NF := 13) (ci := 4) (v := .int (nI (dr.length))) C qX4_act_0 rfl 6 (by decide) (C.2.2.2.2.1 _ qX4_act_4) (fun _ h9 => h9) dX4_act_98 (37) (by omega) hw_8 rfl ?_
    obtain ⟨cw12, ecw12⟩ : ∃ z : Nat → va_E, z = va_up (cw7) (39) (.inl (cI, 13, .inl (upd (lk) (pv + 1) ((nI (dr.length)))))) := ⟨_, rfl⟩
    refine z_iast C 0 rfl dX4_act_101 (39) (by omega) hw_10 (pv + 1) (rfl) (by omega) (by decide) ?_
    refine z_cw ecw12.symm ?_
    have hw_13 : cw12 (37) = .inr (4, [.int (th), .ref (ad (38)), .ref (ad (39)), .int (nI (pv + 1)), .int (nI 0), .ref (ad (40)), .int (nI (dr.length)), .ref (ad (41)), .int (nI (pat.length)), .ref (ad (42)), .int (nI (ws.length)), .ref (ad (43)), .ref (ad (44))]) := by rw [ecw12, va_up_ne _ _ (by decide)]; exact hw_8
    have hw_14 : cw12 (38) = .inl (cI, 3120, .inl (tk)) := by rw [ecw12, va_up_ne _ _ (by decide)]; exact hw_9
    have hw_15 : cw12 (39) = .inl (cI, 13, .inl (upd (lk) (pv + 1) ((nI (dr.length))))) := by rw [ecw12, va_up_self]
    have hw_16 : cw12 (40) = .inl (cI, 240, .inl (df)) := by rw [ecw12, va_up_ne _ _ (by decide)]; exact hw_11
    refine z_iconst (v := nI 0) C dX4_act_102 (by decide) ?_
    refine z_istore_n (lv' := [(1, .int (nI 0)), (0, .ref (ad (37)))]) C dX4_act_103 rfl (by decide) rfl ?_
    refine z_lv (lv' := [(1, .int (nI 0)), (0, .ref (ad (37)))]) [0, 1] rfl ?_
    suffices loop : ∀ (mm i : Nat) (cwl : Nat → va_E), dr.length = i + mm → cwl 37 = .inr (4, [.int (th), .ref (ad (38)), .ref (ad (39)), .int (nI (pv + 1)), .int (nI (0)), .ref (ad (40)), .int (nI (dr.length)), .ref (ad (41)), .int (nI (pat.length)), .ref (ad (42)), .int (nI (ws.length)), .ref (ad (43)), .ref (ad (44))]) → (∃ t9, cwl 38 = .inl (cI, 3120, .inl (t9)) ∧ (∀ k, k < 240 * (pv + 1) → t9 k = tk k) ∧ (∀ a, a < i → t9 (240 * (pv + 1) + a) = df a)) → cwl 39 = .inl (cI, 13, .inl (upd lk (pv + 1) (nI (dr.length)))) → (∀ j, (j ≠ 37 ∧ j ≠ 38 ∧ j ≠ 39) → cwl j = cw j) → zG p l e (headSpec wsX4_act ({ frames := 0, cells := 0, slots := 0, locals := 0 } : Room)).room s m args below meth c (MQ below (zQi D vwCl B N ad (fun (v : Int32) (cw' : Nat → va_E) => v = nI dr.length ∧ zRM cI ad cw' (aPast past) 0 (aHs past hs dr) pat ws th (nI dr.length) ∧ ∀ j, (j ≠ 37 ∧ j ≠ 38 ∧ j ≠ 39) → cw' j = cw j)) args s 0 0 (zA B)) D vwCl B 2 N ad cwl 0 0 [(1, .int (nI i)), (0, .ref (ad (37)))] 104 [] from loop dr.length 0 cw12 (by omega) hw_13 ⟨tk, hw_14, fun _ _ => rfl, fun a ha => absurd ha (by omega)⟩ hw_15 (fun j hj => ((fun j hj => by rw [ecw12, va_up_ne _ _ (by omega)]; rw [ecw7, va_up_ne _ _ (by omega)]; rw [ecw2, va_up_ne _ _ (by omega)]) : ∀ j, (j ≠ 37 ∧ j ≠ 38 ∧ j ≠ 39) → _ = cwk j) j hj |>.trans (hfrm j hj))
    intro mm
    induction mm with
    | zero =>
      intro i cwl hi q1 q2 q3 hfr2
      obtain ⟨t9, q4, q5, q6⟩ := id q2
      have hk_17 : cwl (40) = .inl (cI, 240, .inl (df)) := (hfr2 (40) (by omega)).trans e40
      refine z_iload_n C dX4_act_104 0 rfl ?_
      refine z_aload_n C dX4_act_105 1 rfl ?_
      refine z_get (Cn := RX4) (T := TX4) (NF := 13) (ci := 4) (v := .int (nI (dr.length))) C qX4_act_0 rfl 6 (by decide) (C.2.2.2.2.1 _ qX4_act_4) (fun _ h9 => h9) dX4_act_106 (37) (by omega) q1 rfl ?_
      refine z_icmp_ge (tgt := 139) C dX4_act_109 (by decide) (fun c18 => ?_) (fun c18 => ?_)
      · skip
        refine z_aload_n C dX4_act_139 1 rfl ?_
        refine z_get (Cn := RX4) (T := TX4) (NF := 13) (ci := 4) (v := .int (nI (dr.length))) C qX4_act_0 rfl 6 (by decide) (C.2.2.2.2.1 _ qX4_act_4) (fun _ h9 => h9) dX4_act_140 (37) (by omega) q1 rfl ?_
        exact z_iret C hr dX4_act_143 (⟨rfl, by rw [← hpv]; exact ⟨q1, ⟨by omega, t9, _, q4, q3, fun j hj => zOld_new hold (by rw [hpv]; exact aHs_top (by omega)) hdr h240 q5 (fun a ha => q6 a (by omega)) j (by omega)⟩, ⟨_, hk_17⟩, ⟨m7, pf, (hfr2 41 (by omega)).trans m8, m9⟩, ⟨m10, wf, (hfr2 42 (by omega)).trans m11, m12⟩, ⟨bf, (hfr2 43 (by omega)).trans m13⟩, zf, (hfr2 44 (by omega)).trans m14⟩, hfr2⟩) (Nat.le_of_ble_eq_true rfl) (Nat.le_of_ble_eq_true rfl)
      · skip
        exact absurd (nI_le (by omega) (by omega)) c18
    | succ mm ih =>
      intro i cwl hi q1 q2 q3 hfr2
      obtain ⟨t9, q4, q5, q6⟩ := id q2
      have hk_19 : cwl (40) = .inl (cI, 240, .inl (df)) := (hfr2 (40) (by omega)).trans e40
      refine z_iload_n C dX4_act_104 0 rfl ?_
      refine z_aload_n C dX4_act_105 1 rfl ?_
      refine z_get (Cn := RX4) (T := TX4) (NF := 13) (ci := 4) (v := .int (nI (dr.length))) C qX4_act_0 rfl 6 (by decide) (C.2.2.2.2.1 _ qX4_act_4) (fun _ h9 => h9) dX4_act_106 (37) (by omega) q1 rfl ?_
      refine z_icmp_ge (tgt := 139) C dX4_act_109 (by decide) (fun c20 => ?_) (fun c20 => ?_)
      · skip
        exact absurd ((nI_leI (by omega) (by omega)).mp c20) (by omega)
      · skip
        refine z_aload_n C dX4_act_112 1 rfl ?_
        refine z_get (Cn := RX4) (T := TX4) (NF := 13) (ci := 4) (v := .ref (ad (38))) C qX4_act_0 rfl 1 (by decide) (C.2.2.2.2.1 _ qX4_act_5) (fun _ h9 => h9) dX4_act_113 (37) (by omega) q1 rfl ?_
        refine z_sipush (v := nI 240) C dX4_act_116 (by decide) ?_
        refine z_aload_n C dX4_act_119 1 rfl ?_
        refine z_get (Cn := RX4) (T := TX4) (NF := 13) (ci := 4) (v := .int (nI (pv + 1))) C qX4_act_0 rfl 3 (by decide) (C.2.2.2.2.1 _ qX4_act_1) (fun _ h9 => h9) dX4_act_120 (37) (by omega) q1 rfl ?_
        refine z_imul C dX4_act_123 ?_
        refine z_top (y := nI (240 * (pv + 1))) (pk_mul _ _) ?_
        refine z_iload_n C dX4_act_124 0 rfl ?_
        refine z_iadd C dX4_act_125 ?_
        refine z_top (y := nI (240 * (pv + 1) + i)) (nI_add _ _) ?_
        refine z_aload_n C dX4_act_126 1 rfl ?_
        refine z_get (Cn := RX4) (T := TX4) (NF := 13) (ci := 4) (v := .ref (ad (40))) C qX4_act_0 rfl 5 (by decide) (C.2.2.2.2.1 _ qX4_act_6) (fun _ h9 => h9) dX4_act_127 (37) (by omega) q1 rfl ?_
        refine z_iload_n C dX4_act_130 0 rfl ?_
        refine z_iald C 0 rfl dX4_act_131 (40) (by omega) hk_19 (i) (rfl) (by omega) (by decide) ?_
        obtain ⟨cw21, ecw21⟩ : ∃ z : Nat → va_E, z = va_up (cwl) (38) (.inl (cI, 3120, .inl (upd (t9) (240 * (pv + 1) + i) ((df (i)))))) := ⟨_, rfl⟩
        refine z_iast C 0 rfl dX4_act_132 (38) (by omega) q4 (240 * (pv + 1) + i) (rfl) (by omega) (by decide) ?_
        refine z_cw ecw21.symm ?_
        have hw_22 : cw21 (37) = .inr (4, [.int (th), .ref (ad (38)), .ref (ad (39)), .int (nI (pv + 1)), .int (nI (0)), .ref (ad (40)), .int (nI (dr.length)), .ref (ad (41)), .int (nI (pat.length)), .ref (ad (42)), .int (nI (ws.length)), .ref (ad (43)), .ref (ad (44))]) := by rw [ecw21, va_up_ne _ _ (by decide)]; exact q1
        have hw_23 : cw21 (38) = .inl (cI, 3120, .inl (upd (t9) (240 * (pv + 1) + i) ((df (i))))) := by rw [ecw21, va_up_self]
        have hw_24 : cw21 (39) = .inl (cI, 13, .inl (upd lk (pv + 1) (nI (dr.length)))) := by rw [ecw21, va_up_ne _ _ (by decide)]; exact q3
        have hw_25 : cw21 (40) = .inl (cI, 240, .inl (df)) := by rw [ecw21, va_up_ne _ _ (by decide)]; exact hk_19
        refine z_iinc (x := nI (i + 1)) (lv' := [(1, .int (nI (i + 1))), (0, .ref (ad (37)))]) C dX4_act_133 0 rfl (nI_1 i) (by decide) rfl ?_
        refine z_goto (tgt := 104) C dX4_act_136 (by decide) ?_
        refine z_lv (lv' := [(1, .int (nI (i + 1))), (0, .ref (ad (37)))]) [0, 1] rfl ?_
        exact ih (i + 1) _ (by omega) hw_22 ⟨_, hw_23, fun k hk => (pk_un (by omega)).trans (q5 k hk), fun a ha => by by_cases h9 : a = i; rw [h9]; exact pk_us; rw [pk_un (by omega)]; exact q6 a (by omega)⟩ hw_24 (fun j hj => ((fun j hj => by rw [ecw21, va_up_ne _ _ (by omega)]) : ∀ j, (j ≠ 37 ∧ j ≠ 38 ∧ j ≠ 39) → _ = cwl j) j hj |>.trans (hfr2 j hj))
  refine z_aload_n C dX4_act_0 0 rfl ?_
  refine z_get (Cn := RX4) (T := TX4) (NF := 13) (ci := 4) (v := .int (nI (past))) C qX4_act_0 rfl 3 (by decide) (C.2.2.2.2.1 _ qX4_act_1) (fun _ h9 => h9) dX4_act_1 (37) (by omega) m1 rfl ?_
  refine z_bipush (v := nI 12) C dX4_act_4 (by decide) ?_
  refine z_icmp_ne (tgt := 74) C dX4_act_6 (by decide) (fun c26 => ?_) (fun c26 => ?_)
  · skip
    have hp12 : ¬ past = 12 := fun h9 => c26 (by rw [h9])
    exact tail past fut tf lf cw (by unfold aPast; rw [if_neg hp12]) (by omega) (by omega) (zOld_same hp12 m5) m1 m3 m4 (fun j _ => rfl)
  · skip
    have hp12 : past = 12 := (nI_eq (by omega) (by omega)).mp c26
    subst hp12
    have hf0 : fut = 0 := by omega
    subst hf0
    refine z_iconst (v := nI 0) C dX4_act_9 (by decide) ?_
    refine z_istore_n (lv' := [(1, .int (nI 0)), (0, .ref (ad (37)))]) C dX4_act_10 rfl (by decide) rfl ?_
    refine z_lv (lv' := [(1, .int (nI 0)), (0, .ref (ad (37)))]) [0, 1] rfl ?_
    have loop2 : ∀ (mm i : Nat) (t8 : Nat → Int32) (cwl : Nat → va_E), 12 = i + mm → (∀ k, k < 2880 → t8 k = tf (k + 240)) → cwl 37 = .inr (4, [.int (th), .ref (ad (38)), .ref (ad (39)), .int (nI (12)), .int (nI (0)), .ref (ad (40)), .int (nI (dr.length)), .ref (ad (41)), .int (nI (pat.length)), .ref (ad (42)), .int (nI (ws.length)), .ref (ad (43)), .ref (ad (44))]) → cwl 38 = .inl (cI, 3120, .inl (t8)) → (∃ l9, cwl 39 = .inl (cI, 13, .inl (l9)) ∧ (∀ t, t < i → l9 t = lf (t + 1)) ∧ (∀ t, i ≤ t → l9 t = lf t)) → (∀ j, (j ≠ 37 ∧ j ≠ 38 ∧ j ≠ 39) → cwl j = cw j) → zG p l e (headSpec wsX4_act ({ frames := 0, cells := 0, slots := 0, locals := 0 } : Room)).room s m args below meth c (MQ below (zQi D vwCl B N ad (fun (v : Int32) (cw' : Nat → va_E) => v = nI dr.length ∧ zRM cI ad cw' (aPast 12) 0 (aHs 12 hs dr) pat ws th (nI dr.length) ∧ ∀ j, (j ≠ 37 ∧ j ≠ 38 ∧ j ≠ 39) → cw' j = cw j)) args s 0 0 (zA B)) D vwCl B 2 N ad cwl 0 0 [(1, .int (nI i)), (0, .ref (ad (37)))] 42 [] := by
      intro mm
      induction mm with
      | zero =>
        intro i t8 cwl hi ht8 q1 q2 q3 hfr2
        obtain ⟨l9, q4, q5, q6⟩ := id q3
        refine z_iload_n C dX4_act_42 0 rfl ?_
        refine z_bipush (v := nI 12) C dX4_act_43 (by decide) ?_
        refine z_icmp_ge (tgt := 68) C dX4_act_45 (by decide) (fun c27 => ?_) (fun c27 => ?_)
        · skip
          refine z_aload_n C dX4_act_68 1 rfl ?_
          refine z_bipush (v := nI 11) C dX4_act_69 (by decide) ?_
          obtain ⟨cw28, ecw28⟩ : ∃ z : Nat → va_E, z = va_up (cwl) (37) (.inr (4, [.int (th), .ref (ad (38)), .ref (ad (39)), .int (nI 11), .int (nI (0)), .ref (ad (40)), .int (nI (dr.length)), .ref (ad (41)), .int (nI (pat.length)), .ref (ad (42)), .int (nI (ws.length)), .ref (ad (43)), .ref (ad (44))])) := ⟨_, rfl⟩
          refine z_put (Cn := RX4) (T := TX4) (NF := 13) (ci := 4) (ty := .int) (v := .int (nI 11)) C qX4_act_0 tyX4_ok nmX4 rfl 3 (by decide) (C.2.2.2.2.1 _ qX4_act_1) (fun _ h9 => h9) rfl (by decide +kernel) dX4_act_71 (37) (by omega) q1 rfl rfl (Nat.le_of_ble_eq_true rfl) ?_
          refine z_cw ecw28.symm ?_
          have hw_29 : cw28 (37) = .inr (4, [.int (th), .ref (ad (38)), .ref (ad (39)), .int (nI 11), .int (nI (0)), .ref (ad (40)), .int (nI (dr.length)), .ref (ad (41)), .int (nI (pat.length)), .ref (ad (42)), .int (nI (ws.length)), .ref (ad (43)), .ref (ad (44))]) := by rw [ecw28, va_up_self]
          have hw_30 : cw28 (38) = .inl (cI, 3120, .inl (t8)) := by rw [ecw28, va_up_ne _ _ (by decide)]; exact q2
          have hw_31 : cw28 (39) = .inl (cI, 13, .inl (l9)) := by rw [ecw28, va_up_ne _ _ (by decide)]; exact q4
          refine z_lv (lv' := [(0, .ref (ad (37)))]) [1] rfl ?_
          exact tail 11 0 t8 l9 _ (by decide) (by omega) (by omega) (zOld_shift (fun j hj => m5 j (by omega)) (fun t ht => q5 t (by omega)) ht8) hw_29 hw_30 hw_31 (fun j hj => ((fun j hj => by rw [ecw28, va_up_ne _ _ (by omega)]) : ∀ j, (j ≠ 37 ∧ j ≠ 38 ∧ j ≠ 39) → _ = cwl j) j hj |>.trans (hfr2 j hj))
        · skip
          exact absurd (nI_le (by omega) (by omega)) c27
      | succ mm ih =>
        intro i t8 cwl hi ht8 q1 q2 q3 hfr2
        obtain ⟨l9, q4, q5, q6⟩ := id q3
        refine z_iload_n C dX4_act_42 0 rfl ?_
        refine z_bipush (v := nI 12) C dX4_act_43 (by decide) ?_
        refine z_icmp_ge (tgt := 68) C dX4_act_45 (by decide) (fun c32 => ?_) (fun c32 => ?_)
        · skip
          exact absurd ((nI_leI (by omega) (by omega)).mp c32) (by omega)
        · skip
          refine z_aload_n C dX4_act_48 1 rfl ?_
          refine z_get (Cn := RX4) (T := TX4) (NF := 13) (ci := 4) (v := .ref (ad (39))) C qX4_act_0 rfl 2 (by decide) (C.2.2.2.2.1 _ qX4_act_3) (fun _ h9 => h9) dX4_act_49 (37) (by omega) q1 rfl ?_
          refine z_iload_n C dX4_act_52 0 rfl ?_
          refine z_aload_n C dX4_act_53 1 rfl ?_
          refine z_get (Cn := RX4) (T := TX4) (NF := 13) (ci := 4) (v := .ref (ad (39))) C qX4_act_0 rfl 2 (by decide) (C.2.2.2.2.1 _ qX4_act_3) (fun _ h9 => h9) dX4_act_54 (37) (by omega) q1 rfl ?_
          refine z_iload_n C dX4_act_57 0 rfl ?_
          refine z_iconst (v := nI 1) C dX4_act_58 (by decide) ?_
          refine z_iadd C dX4_act_59 ?_
          refine z_top (y := nI (i + 1)) (nI_1 i) ?_
          refine z_iald C 0 rfl dX4_act_60 (39) (by omega) q4 (i + 1) (rfl) (by omega) (by decide) ?_
          refine z_top (y := lf (i + 1)) (q6 _ (by omega)) ?_
          obtain ⟨cw33, ecw33⟩ : ∃ z : Nat → va_E, z = va_up (cwl) (39) (.inl (cI, 13, .inl (upd (l9) (i) ((lf (i + 1)))))) := ⟨_, rfl⟩
          refine z_iast C 0 rfl dX4_act_61 (39) (by omega) q4 (i) (rfl) (by omega) (by decide) ?_
          refine z_cw ecw33.symm ?_
          have hw_34 : cw33 (37) = .inr (4, [.int (th), .ref (ad (38)), .ref (ad (39)), .int (nI (12)), .int (nI (0)), .ref (ad (40)), .int (nI (dr.length)), .ref (ad (41)), .int (nI (pat.length)), .ref (ad (42)), .int (nI (ws.length)), .ref (ad (43)), .ref (ad (44))]) := by rw [ecw33, va_up_ne _ _ (by decide)]; exact q1
          have hw_35 : cw33 (38) = .inl (cI, 3120, .inl (t8)) := by rw [ecw33, va_up_ne _ _ (by decide)]; exact q2
          have hw_36 : cw33 (39) = .inl (cI, 13, .inl (upd (l9) (i) ((lf (i + 1))))) := by rw [ecw33, va_up_self]
          refine z_iinc (x := nI (i + 1)) (lv' := [(1, .int (nI (i + 1))), (0, .ref (ad (37)))]) C dX4_act_62 0 rfl (nI_1 i) (by decide) rfl ?_
          refine z_goto (tgt := 42) C dX4_act_65 (by decide) ?_
          refine z_lv (lv' := [(1, .int (nI (i + 1))), (0, .ref (ad (37)))]) [0, 1] rfl ?_
          exact ih (i + 1) t8 _ (by omega) ht8 hw_34 hw_35 ⟨_, hw_36, fun t ht => by by_cases h9 : t = i; rw [h9]; exact pk_us; rw [pk_un h9]; exact q5 t (by omega), fun t ht => (pk_un (by omega)).trans (q6 t (by omega))⟩ (fun j hj => ((fun j hj => by rw [ecw33, va_up_ne _ _ (by omega)]) : ∀ j, (j ≠ 37 ∧ j ≠ 38 ∧ j ≠ 39) → _ = cwl j) j hj |>.trans (hfr2 j hj))
    suffices loop1 : ∀ (mm i : Nat) (cwl : Nat → va_E), 2880 = i + mm → cwl 37 = .inr (4, [.int (th), .ref (ad (38)), .ref (ad (39)), .int (nI (12)), .int (nI (0)), .ref (ad (40)), .int (nI (dr.length)), .ref (ad (41)), .int (nI (pat.length)), .ref (ad (42)), .int (nI (ws.length)), .ref (ad (43)), .ref (ad (44))]) → (∃ t9, cwl 38 = .inl (cI, 3120, .inl (t9)) ∧ (∀ k, k < i → t9 k = tf (k + 240)) ∧ (∀ k, i ≤ k → t9 k = tf k)) → cwl 39 = .inl (cI, 13, .inl (lf)) → (∀ j, (j ≠ 37 ∧ j ≠ 38 ∧ j ≠ 39) → cwl j = cw j) → zG p l e (headSpec wsX4_act ({ frames := 0, cells := 0, slots := 0, locals := 0 } : Room)).room s m args below meth c (MQ below (zQi D vwCl B N ad (fun (v : Int32) (cw' : Nat → va_E) => v = nI dr.length ∧ zRM cI ad cw' (aPast 12) 0 (aHs 12 hs dr) pat ws th (nI dr.length) ∧ ∀ j, (j ≠ 37 ∧ j ≠ 38 ∧ j ≠ 39) → cw' j = cw j)) args s 0 0 (zA B)) D vwCl B 2 N ad cwl 0 0 [(1, .int (nI i)), (0, .ref (ad (37)))] 11 [] from loop1 2880 0 cw (by omega) m1 ⟨tf, m3, fun k hk => absurd hk (by omega), fun k _ => rfl⟩ m4 (fun j _ => rfl)
    intro mm
    induction mm with
    | zero =>
      intro i cwl hi q1 q2 q3 hfr2
      obtain ⟨t9, q4, q5, q6⟩ := id q2
      refine z_iload_n C dX4_act_11 0 rfl ?_
      refine z_sipush (v := nI 2880) C dX4_act_12 (by decide) ?_
      refine z_icmp_ge (tgt := 40) C dX4_act_15 (by decide) (fun c37 => ?_) (fun c37 => ?_)
      · skip
        refine z_iconst (v := nI 0) C dX4_act_40 (by decide) ?_
        refine z_istore_n (lv' := [(1, .int (nI 0)), (0, .ref (ad (37)))]) C dX4_act_41 rfl (by decide) rfl ?_
        refine z_lv (lv' := [(1, .int (nI 0)), (0, .ref (ad (37)))]) [0, 1] rfl ?_
        exact loop2 12 0 t9 _ (by omega) (fun k hk => q5 k (by omega)) q1 q4 ⟨lf, q3, fun t ht => absurd ht (by omega), fun t _ => rfl⟩ hfr2
      · skip
        exact absurd (nI_le (by omega) (by omega)) c37
    | succ mm ih =>
      intro i cwl hi q1 q2 q3 hfr2
      obtain ⟨t9, q4, q5, q6⟩ := id q2
      refine z_iload_n C dX4_act_11 0 rfl ?_
      refine z_sipush (v := nI 2880) C dX4_act_12 (by decide) ?_
      refine z_icmp_ge (tgt := 40) C dX4_act_15 (by decide) (fun c38 => ?_) (fun c38 => ?_)
      · skip
        exact absurd ((nI_leI (by omega) (by omega)).mp c38) (by omega)
      · skip
        refine z_aload_n C dX4_act_18 1 rfl ?_
        refine z_get (Cn := RX4) (T := TX4) (NF := 13) (ci := 4) (v := .ref (ad (38))) C qX4_act_0 rfl 1 (by decide) (C.2.2.2.2.1 _ qX4_act_5) (fun _ h9 => h9) dX4_act_19 (37) (by omega) q1 rfl ?_
        refine z_iload_n C dX4_act_22 0 rfl ?_
        refine z_aload_n C dX4_act_23 1 rfl ?_
        refine z_get (Cn := RX4) (T := TX4) (NF := 13) (ci := 4) (v := .ref (ad (38))) C qX4_act_0 rfl 1 (by decide) (C.2.2.2.2.1 _ qX4_act_5) (fun _ h9 => h9) dX4_act_24 (37) (by omega) q1 rfl ?_
        refine z_iload_n C dX4_act_27 0 rfl ?_
        refine z_sipush (v := nI 240) C dX4_act_28 (by decide) ?_
        refine z_iadd C dX4_act_31 ?_
        refine z_top (y := nI (i + 240)) (nI_add _ _) ?_
        refine z_iald C 0 rfl dX4_act_32 (38) (by omega) q4 (i + 240) (rfl) (by omega) (by decide) ?_
        refine z_top (y := tf (i + 240)) (q6 _ (by omega)) ?_
        obtain ⟨cw39, ecw39⟩ : ∃ z : Nat → va_E, z = va_up (cwl) (38) (.inl (cI, 3120, .inl (upd (t9) (i) ((tf (i + 240)))))) := ⟨_, rfl⟩
        refine z_iast C 0 rfl dX4_act_33 (38) (by omega) q4 (i) (rfl) (by omega) (by decide) ?_
        refine z_cw ecw39.symm ?_
        have hw_40 : cw39 (37) = .inr (4, [.int (th), .ref (ad (38)), .ref (ad (39)), .int (nI (12)), .int (nI (0)), .ref (ad (40)), .int (nI (dr.length)), .ref (ad (41)), .int (nI (pat.length)), .ref (ad (42)), .int (nI (ws.length)), .ref (ad (43)), .ref (ad (44))]) := by rw [ecw39, va_up_ne _ _ (by decide)]; exact q1
        have hw_41 : cw39 (38) = .inl (cI, 3120, .inl (upd (t9) (i) ((tf (i + 240))))) := by rw [ecw39, va_up_self]
        have hw_42 : cw39 (39) = .inl (cI, 13, .inl (lf)) := by rw [ecw39, va_up_ne _ _ (by decide)]; exact q3
        refine z_iinc (x := nI (i + 1)) (lv' := [(1, .int (nI (i + 1))), (0, .ref (ad (37)))]) C dX4_act_34 0 rfl (nI_1 i) (by decide) rfl ?_
        refine z_goto (tgt := 11) C dX4_act_37 (by decide) ?_
        refine z_lv (lv' := [(1, .int (nI (i + 1))), (0, .ref (ad (37)))]) [0, 1] rfl ?_
        exact ih (i + 1) _ (by omega) hw_40 ⟨_, hw_41, fun k hk => by by_cases h9 : k = i; rw [h9]; exact pk_us; rw [pk_un h9]; exact q5 k (by omega), fun k hk => (pk_un (by omega)).trans (q6 k (by omega))⟩ hw_42 (fun j hj => ((fun j hj => by rw [ecw39, va_up_ne _ _ (by omega)]) : ∀ j, (j ≠ 37 ∧ j ≠ 38 ∧ j ≠ 39) → _ = cwl j) j hj |>.trans (hfr2 j hj))

