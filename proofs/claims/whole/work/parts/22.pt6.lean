def sPh (P : List (List Int32)) (u : Nat) : List Int32 := (if u / 257 = 0 then [] else P.getD (u / 257 - 1) []) ++ (if u % 257 = 256 then [] else [nI (u % 257)])
def zSv (P : List (List Int32)) (a : Nat) : Nat := (P.take a).flatten.length
theorem zSv_next {P : List (List Int32)} {a : Nat} (h : a < P.length) : zSv P (a + 1) = zSv P a + (P.getD a []).length := by
  unfold zSv
  rw [List.take_succ, List.getElem?_eq_getElem h, List.flatten_append, List.length_append, List.getD_eq_getElem?_getD, List.getElem?_eq_getElem h]
  simp
theorem zSv_all {P : List (List Int32)} {a : Nat} (h : P.length ≤ a) : zSv P a = P.flatten.length := by
  unfold zSv
  rw [List.take_of_length_le h]
theorem zSv_mono {P : List (List Int32)} {a : Nat} (d : Nat) : zSv P a ≤ zSv P (a + d) := by
  induction d with
  | zero => exact Nat.le_refl _
  | succ d ih =>
    refine Nat.le_trans ih ?_
    by_cases h : a + d < P.length
    · rw [show a + (d + 1) = a + d + 1 from rfl, zSv_next h]; omega
    · rw [zSv_all (by omega), zSv_all (by omega)]; exact Nat.le_refl _
theorem zSv_le {P : List (List Int32)} {a b : Nat} (h : a ≤ b) : zSv P a ≤ zSv P b := by
  have h1 := zSv_mono (P := P) (a := a) (b - a)
  rw [show a + (b - a) = b by omega] at h1
  exact h1
theorem zSv_top {P : List (List Int32)} (a : Nat) : zSv P a ≤ P.flatten.length := by
  have h1 := zSv_mono (P := P) (a := a) P.length
  rw [zSv_all (a := a + P.length) (by omega)] at h1
  exact h1
theorem zSv_app {P : List (List Int32)} {ph : List Int32} {a : Nat} (h : a ≤ P.length) : zSv (P ++ [ph]) a = zSv P a := by
  unfold zSv
  rw [List.take_append_of_le_length h]
theorem flat_one (P : List (List Int32)) (ph : List Int32) : (P ++ [ph]).flatten = P.flatten ++ ph := by
  rw [List.flatten_append]
  simp
theorem flat_get {P : List (List Int32)} {a i : Nat} (h : a < P.length) (hi : i < (P.getD a []).length) : P.flatten[zSv P a + i]? = (P.getD a [])[i]? := by
  have e : P.flatten = (P.take a).flatten ++ (P.drop a).flatten := by rw [← List.flatten_append, List.take_append_drop]
  have e2 : P.getD a [] = P[a] := by rw [List.getD_eq_getElem?_getD, List.getElem?_eq_getElem h]; rfl
  rw [e2] at hi ⊢
  rw [e]
  unfold zSv
  rw [List.getElem?_append_right (by omega), Nat.add_sub_cancel_left, List.drop_eq_getElem_cons h, List.flatten_cons, List.getElem?_append_left hi]
theorem sPh_len {P : List (List Int32)} {u : Nat} (hk : u / 257 ≤ P.length) : (sPh P u).length = zLen (zSv P) u := by
  unfold sPh zLen
  rw [List.length_append]
  congr 1
  · split
    · rfl
    · rename_i h0
      have h1 := zSv_next (P := P) (a := u / 257 - 1) (by omega)
      rw [show u / 257 - 1 + 1 = u / 257 by omega] at h1
      omega
  · split <;> rfl
theorem zIs_put {f f' : Nat → Int32} {P : List (List Int32)} {u : Nat} (hf : zIs f P.flatten) (hk : u / 257 ≤ P.length) (h : zPut f P.flatten.length (zSv P) u f') : zIs f' (P ++ [sPh P u]).flatten := by
  rw [flat_one]
  obtain ⟨h1, h2, h3⟩ := h
  intro i hi
  rw [List.length_append, sPh_len hk] at hi
  by_cases hq : i < P.flatten.length
  · rw [List.getElem?_append_left hq, hf i hq, h1 i hq]
  · obtain ⟨dd, rfl⟩ : ∃ z, i = P.flatten.length + z := ⟨i - P.flatten.length, by omega⟩
    have hd : dd < zLen (zSv P) u := by omega
    rw [List.getElem?_append_right (by omega), Nat.add_sub_cancel_left]
    by_cases h0 : u / 257 = 0
    · unfold sPh
      rw [if_pos h0, List.nil_append]
      unfold zLen at hd h3
      rw [if_pos h0] at hd h3
      by_cases h256 : u % 257 = 256
      · rw [if_pos h256] at hd; omega
      · rw [if_neg h256] at hd h3 ⊢
        have e0 : dd = 0 := by omega
        subst e0
        have h4 := h3 h256
        rw [show P.flatten.length + (0 + 1 - 1) = P.flatten.length + 0 by omega] at h4
        rw [h4]
        rfl
    · have hlen := zSv_next (P := P) (a := u / 257 - 1) (by omega)
      rw [show u / 257 - 1 + 1 = u / 257 by omega] at hlen
      unfold sPh
      rw [if_neg h0]
      by_cases hA : dd < (P.getD (u / 257 - 1) []).length
      · rw [List.getElem?_append_left hA, h2 (by omega) dd (by omega), ← flat_get (by omega) hA, hf]
        have h5 := zSv_top (P := P) (u / 257)
        omega
      · unfold zLen at hd h3
        rw [if_neg h0] at hd h3
        by_cases h256 : u % 257 = 256
        · rw [if_pos h256] at hd; omega
        · rw [if_neg h256] at hd h3 ⊢
          have e0 : dd = (P.getD (u / 257 - 1) []).length := by omega
          rw [List.getElem?_append_right (by omega), show dd - (P.getD (u / 257 - 1) []).length = 0 by omega]
          have h4 := h3 h256
          rw [show P.flatten.length + (zSv P (u / 257) - zSv P (u / 257 - 1) + 1 - 1) = P.flatten.length + dd by omega] at h4
          rw [h4]
          rfl
def sRst (n : Nat) : List Int32 → Nat → List (List Int32) → Sum Nat (List Int32)
  | [], _, P => .inr P.flatten
  | x :: r, j, P => if (0 ≤ x ∧ x.toNatClampNeg / 257 ≤ j ∧ (x.toNatClampNeg % 257 ≠ 256 ∨ (j + 1 = n ∧ 0 < x.toNatClampNeg / 257))) ∧ P.flatten.length + (sPh P x.toNatClampNeg).length ≤ 240 then sRst n r (j + 1) (P ++ [sPh P x.toNatClampNeg]) else .inl j
theorem sRst_yes {n j u : Nat} {r : List Int32} {P : List (List Int32)} (hu : u < 2 ^ 31) (h : zFine (nI u) j n) (h2 : P.flatten.length + (sPh P u).length ≤ 240) : sRst n (nI u :: r) j P = sRst n r (j + 1) (P ++ [sPh P u]) := by
  have e := nI_clamp hu
  unfold zFine at h
  rw [e] at h
  rw [sRst, e, if_pos ⟨h, h2⟩]
theorem sRst_no {n j : Nat} {x : Int32} {r : List Int32} {P : List (List Int32)} (h : ¬ zFine x j n) : sRst n (x :: r) j P = .inl j := by
  unfold zFine at h
  rw [sRst, if_neg (fun h9 => h h9.1)]
theorem sRst_long {n j u : Nat} {r : List Int32} {P : List (List Int32)} (hu : u < 2 ^ 31) (h2 : ¬ P.flatten.length + (sPh P u).length ≤ 240) : sRst n (nI u :: r) j P = .inl j := by
  have e := nI_clamp hu
  rw [sRst, e, if_neg (fun h9 => h2 h9.2)]
theorem sPh_ch {P : List (List Int32)} {u : Nat} (h : zCh P.flatten) : zCh (sPh P u) := by
  unfold sPh
  refine zCh_app ?_ ?_
  · split
    · exact zCh_nil
    · intro x hx
      by_cases hl : u / 257 - 1 < P.length
      · rw [List.getD_eq_getElem?_getD, List.getElem?_eq_getElem hl] at hx
        exact h x (List.mem_flatten.mpr ⟨_, List.getElem_mem hl, hx⟩)
      · rw [List.getD_eq_getElem?_getD, List.getElem?_eq_none (by omega)] at hx
        exact absurd hx List.not_mem_nil
  · split
    · exact zCh_nil
    · exact zCh_one ⟨u % 257, by omega, rfl⟩
theorem qX1_readInto_0 : ∀ w ∈ wsX10, w ∈ wsX1_readInto := by decide +kernel
theorem qX1_readInto_1 : Cond.fieldLink RX1 15 "PieceText$Phrases" "starts" "[I" ∈ wsX1_readInto := by decide +kernel
theorem qX1_readInto_2 : Cond.fieldLink RX1 18 "PieceText$Phrases" "count" "I" ∈ wsX1_readInto := by decide +kernel
theorem qX1_readInto_3 : Cond.fieldLink RX1 9 "PieceText$Phrases" "words" "[I" ∈ wsX1_readInto := by decide +kernel
set_option maxHeartbeats 4000000 in
set_option maxRecDepth 100000 in
theorem c_Phr_readInto (l : Launch) (D : va_G) (cI cR cL : ClassId) (B N : Nat) (ad : Nat → Nat) (cw : Nat → va_E) (hN : 45 < N) {ws dr : List Int32} (hW : zWords cI ad cw ws) (hD : zRow cI ad cw 34 35 240 dr) : Met l yX1_readInto wsX1_readInto ({ frames := 3, cells := 0, slots := 0, locals := 106 } : Room) (va_Pc [.ref (ad (31)), .ref (ad (34))] (zI D vwCl (zTy cI cR cL) B N ad cw)) (zQi D vwCl B N ad (fun (v : Int32) (cw' : Nat → va_E) => zWords cI ad cw' ws ∧ (∃ dr', zRow cI ad cw' 34 35 240 dr') ∧ (∀ j, (j ≠ 33 ∧ j ≠ 34 ∧ j ≠ 35) → cw' j = cw j) ∧ ((∃ k, sRst ws.length ws 0 [] = .inl k ∧ k < 240 ∧ v = nI k) ∨ (∃ T9, sRst ws.length ws 0 [] = .inr T9 ∧ v = -1 ∧ zRow cI ad cw' 34 35 240 T9 ∧ zCh T9)))) 0 0 (zA B) := by
  obtain ⟨w1, w2, ⟨wf, w3, w4⟩, sf, w5⟩ := id hW
  obtain ⟨d1, d2, g, d3, d4⟩ := id hD
  refine z_ofW (cc := cX1_readInto) (maxL := 3) (ret := (some .int)) (by decide) rfl (Nat.le_of_ble_eq_true rfl) ?_
  intro p e s m args below meth c C hr hnm
  refine z_lv (lv' := [(0, .ref (ad (31))), (1, .ref (ad (34)))]) [0, 1] rfl ?_
  refine z_aload_n C dX1_readInto_0 1 rfl ?_
  refine z_callv (z_runV (As := []) (rest := []) C (c_Row_empty l D cI cR cL B N ad cw (by omega) d1) (cwV 0 C.2.2.2.2.1 gX1_readInto_X2_empty rfl rfl rfl (by decide +kernel) ⟨Nat.le_of_ble_eq_true rfl, Nat.le_of_ble_eq_true rfl⟩) (by omega) d1 rfl rfl rfl rfl (Nat.le_of_ble_eq_true rfl) dX1_readInto_1 ⟨Nat.le_of_ble_eq_true rfl, Nat.le_of_ble_eq_true rfl⟩) (fun cw1 hp2 => ?_)
  have hw_3 : cw1 (31) = .inr (1, [.ref (ad (32)), .ref (ad (33)), .int (nI (ws.length))]) := by rw [hp2, va_up_ne _ _ (by decide)]; exact w1
  have hw_4 : cw1 (32) = .inl (cI, 240, .inl (wf)) := by rw [hp2, va_up_ne _ _ (by decide)]; exact w3
  have hw_5 : cw1 (33) = .inl (cI, 241, .inl (sf)) := by rw [hp2, va_up_ne _ _ (by decide)]; exact w5
  have hw_6 : cw1 (34) = .inr (2, [.ref (ad (35)), .int (nI 0)]) := by rw [hp2, va_up_self]
  have hw_7 : cw1 (35) = .inl (cI, 240, .inl (g)) := by rw [hp2, va_up_ne _ _ (by decide)]; exact d3
  refine z_aload_n C dX1_readInto_4 0 rfl ?_
  refine z_get (Cn := RX1) (T := TX1) (NF := 3) (ci := 1) (v := .ref (ad (33))) C qX1_readInto_0 rfl 1 (by decide) (C.2.2.2.2.1 _ qX1_readInto_1) (fun _ h9 => h9) dX1_readInto_5 (31) (by omega) hw_3 rfl ?_
  refine z_iconst (v := nI 0) C dX1_readInto_8 (by decide) ?_
  refine z_iconst (v := nI 0) C dX1_readInto_9 (by decide) ?_
  obtain ⟨cw8, ecw8⟩ : ∃ z : Nat → va_E, z = va_up (cw1) (33) (.inl (cI, 241, .inl (upd (sf) (0) ((nI 0))))) := ⟨_, rfl⟩
  refine z_iast C 0 rfl dX1_readInto_10 (33) (by omega) hw_5 (0) (rfl) (by omega) (by decide) ?_
  refine z_cw ecw8.symm ?_
  have hw_9 : cw8 (31) = .inr (1, [.ref (ad (32)), .ref (ad (33)), .int (nI (ws.length))]) := by rw [ecw8, va_up_ne _ _ (by decide)]; exact hw_3
  have hw_10 : cw8 (32) = .inl (cI, 240, .inl (wf)) := by rw [ecw8, va_up_ne _ _ (by decide)]; exact hw_4
  have hw_11 : cw8 (33) = .inl (cI, 241, .inl (upd (sf) (0) ((nI 0)))) := by rw [ecw8, va_up_self]
  have hw_12 : cw8 (34) = .inr (2, [.ref (ad (35)), .int (nI 0)]) := by rw [ecw8, va_up_ne _ _ (by decide)]; exact hw_6
  have hw_13 : cw8 (35) = .inl (cI, 240, .inl (g)) := by rw [ecw8, va_up_ne _ _ (by decide)]; exact hw_7
  refine z_iconst (v := nI 0) C dX1_readInto_11 (by decide) ?_
  refine z_istore_n (lv' := [(2, .int (nI 0)), (0, .ref (ad (31))), (1, .ref (ad (34)))]) C dX1_readInto_12 rfl (by decide) rfl ?_
  refine z_lv (lv' := [(2, .int (nI 0)), (0, .ref (ad (31))), (1, .ref (ad (34)))]) [0, 1, 2] rfl ?_
  suffices loop : ∀ (mm i : Nat) (P : List (List Int32)) (cwk : Nat → va_E), ws.length = i + mm → P.length = i → sRst ws.length (ws.drop i) i P = sRst ws.length ws 0 [] → zCh P.flatten → zRow cI ad cwk 34 35 240 P.flatten → (∃ sf', cwk 33 = .inl (cI, 241, .inl (sf')) ∧ ∀ a, a ≤ i → sf' a = nI (zSv P a)) → (∀ j, (j ≠ 33 ∧ j ≠ 34 ∧ j ≠ 35) → cwk j = cw j) → zG p l e (headSpec wsX1_readInto ({ frames := 3, cells := 0, slots := 0, locals := 106 } : Room)).room s m args below meth c (MQ below (zQi D vwCl B N ad (fun (v : Int32) (cw' : Nat → va_E) => zWords cI ad cw' ws ∧ (∃ dr', zRow cI ad cw' 34 35 240 dr') ∧ (∀ j, (j ≠ 33 ∧ j ≠ 34 ∧ j ≠ 35) → cw' j = cw j) ∧ ((∃ k, sRst ws.length ws 0 [] = .inl k ∧ k < 240 ∧ v = nI k) ∨ (∃ T9, sRst ws.length ws 0 [] = .inr T9 ∧ v = -1 ∧ zRow cI ad cw' 34 35 240 T9 ∧ zCh T9)))) args s 0 0 (zA B)) D vwCl B 3 N ad cwk 0 0 [(2, .int (nI i)), (0, .ref (ad (31))), (1, .ref (ad (34)))] 13 [] from loop ws.length 0 [] cw8 (by omega) rfl rfl zCh_nil ⟨hw_12, Nat.zero_le _, _, hw_13, zIs_nil _⟩ ⟨_, hw_11, fun a ha => by rw [show a = 0 by omega, pk_us]; rfl⟩ (fun j hj => by rw [ecw8, va_up_ne _ _ (by omega)]; rw [hp2, va_up_ne _ _ (by omega)])
  intro mm
  induction mm with
  | zero =>
    intro i P cwk hi hP hz hch hrow hst hfrm
    obtain ⟨r1, r2, f, r3, r4⟩ := id hrow
    obtain ⟨s8, s3, s4⟩ := id hst
    have hk_14 : cwk (31) = .inr (1, [.ref (ad (32)), .ref (ad (33)), .int (nI (ws.length))]) := (hfrm (31) (by omega)).trans w1
    have hk_15 : cwk (32) = .inl (cI, 240, .inl (wf)) := (hfrm (32) (by omega)).trans w3
    refine z_iload_n C dX1_readInto_13 0 rfl ?_
    refine z_aload_n C dX1_readInto_14 1 rfl ?_
    refine z_get (Cn := RX1) (T := TX1) (NF := 3) (ci := 1) (v := .int (nI (ws.length))) C qX1_readInto_0 rfl 2 (by decide) (C.2.2.2.2.1 _ qX1_readInto_2) (fun _ h9 => h9) dX1_readInto_15 (31) (by omega) hk_14 rfl ?_
    refine z_icmp_ge (tgt := 81) C dX1_readInto_18 (by decide) (fun c16 => ?_) (fun c16 => ?_)
    · skip
      rw [List.drop_eq_nil_of_le (by omega), sRst] at hz
      refine z_iconst (v := -1) C dX1_readInto_81 (by decide) ?_
      exact z_iret C hr dX1_readInto_82 (⟨⟨hk_14, w2, ⟨_, hk_15, w4⟩, _, s3⟩, ⟨_, hrow⟩, hfrm, Or.inr ⟨_, hz.symm, rfl, hrow, hch⟩⟩) (Nat.le_of_ble_eq_true rfl) (Nat.le_of_ble_eq_true rfl)
    · skip
      exact absurd (nI_le (by omega) (by omega)) c16
  | succ mm ih =>
    intro i P cwk hi hP hz hch hrow hst hfrm
    obtain ⟨r1, r2, f, r3, r4⟩ := id hrow
    obtain ⟨s8, s3, s4⟩ := id hst
    have hk_17 : cwk (31) = .inr (1, [.ref (ad (32)), .ref (ad (33)), .int (nI (ws.length))]) := (hfrm (31) (by omega)).trans w1
    have hk_18 : cwk (32) = .inl (cI, 240, .inl (wf)) := (hfrm (32) (by omega)).trans w3
    refine z_iload_n C dX1_readInto_13 0 rfl ?_
    refine z_aload_n C dX1_readInto_14 1 rfl ?_
    refine z_get (Cn := RX1) (T := TX1) (NF := 3) (ci := 1) (v := .int (nI (ws.length))) C qX1_readInto_0 rfl 2 (by decide) (C.2.2.2.2.1 _ qX1_readInto_2) (fun _ h9 => h9) dX1_readInto_15 (31) (by omega) hk_17 rfl ?_
    refine z_icmp_ge (tgt := 81) C dX1_readInto_18 (by decide) (fun c19 => ?_) (fun c19 => ?_)
    · skip
      exact absurd ((nI_leI (by omega) (by omega)).mp c19) (by omega)
    · skip
      rw [zIs_drop w4 (by omega)] at hz
      refine z_aload_n C dX1_readInto_21 1 rfl ?_
      refine z_iload_n C dX1_readInto_22 0 rfl ?_
      refine z_calli (z_runV (As := [.int (nI i)]) (rest := []) C (c_Phr_isPhrase l D cI cR cL B N ad cwk (by omega) hk_17 hk_18 (j := i) (by omega) w2) (cwV 1 C.2.2.2.2.1 gX1_readInto_X1_isPhrase rfl rfl rfl (by decide +kernel) ⟨Nat.le_of_ble_eq_true rfl, Nat.le_of_ble_eq_true rfl⟩) (by omega) hk_17 rfl rfl rfl rfl (Nat.le_of_ble_eq_true rfl) dX1_readInto_23 ⟨Nat.le_of_ble_eq_true rfl, Nat.le_of_ble_eq_true rfl⟩) (fun r20 cw21 hp22 => ?_)
      refine z_cw hp22.2 ?_
      refine z_if_eq (tgt := 50) C dX1_readInto_26 (by decide) (fun c23 => ?_) (fun c23 => ?_)
      · skip
        have hno : ¬ zFine (wf i) i ws.length := by rcases hp22.1 with h9 | h9; exact absurd (h9.1.symm.trans c23) (by decide); exact h9.2
        rw [sRst_no hno] at hz
        refine z_iload_n C dX1_readInto_50 0 rfl ?_
        exact z_iret C hr dX1_readInto_51 (⟨⟨hk_17, w2, ⟨_, hk_18, w4⟩, _, s3⟩, ⟨_, hrow⟩, hfrm, Or.inl ⟨i, hz.symm, by omega, rfl⟩⟩) (Nat.le_of_ble_eq_true rfl) (Nat.le_of_ble_eq_true rfl)
      · skip
        have hfi : zFine (wf i) i ws.length := by rcases hp22.1 with h9 | h9; exact h9.2; exact absurd h9.1 c23
        obtain ⟨u, hu, hwu⟩ := nI_of (x := wf i) (fun h9 => zNeg h9 hfi.1)
        rw [hwu] at hfi hz
        have hk1 : u / 257 ≤ i := ((zFine_of hu).mp hfi).1
        have hsv : ∀ a, a ≤ u / 257 → s8 a = nI (zSv P a) ∧ zSv P a ≤ 240 := fun a ha => ⟨s4 a (by omega), Nat.le_trans (zSv_top a) r2⟩
        have hmo : zSv P (u / 257 - 1) ≤ zSv P (u / 257) := zSv_le (Nat.sub_le _ _)
        have hpl := sPh_len (P := P) (u := u) (by omega)
        refine z_aload_n C dX1_readInto_29 1 rfl ?_
        refine z_aload_n C dX1_readInto_30 1 rfl ?_
        refine z_get (Cn := RX1) (T := TX1) (NF := 3) (ci := 1) (v := .ref (ad (32))) C qX1_readInto_0 rfl 0 (by decide) (C.2.2.2.2.1 _ qX1_readInto_3) (fun _ h9 => h9) dX1_readInto_31 (31) (by omega) hk_17 rfl ?_
        refine z_iload_n C dX1_readInto_34 0 rfl ?_
        refine z_iald C 0 rfl dX1_readInto_35 (32) (by omega) hk_18 (i) (rfl) (by omega) (by decide) ?_
        refine z_top (y := nI u) (hwu) ?_
        refine z_calli (z_runV (As := [.int (nI u)]) (rest := []) C (c_Phr_lengthOf l D cI cR cL B N ad cwk (by omega) hk_17 s3 hu (by omega) hsv hmo) (cwV 1 C.2.2.2.2.1 gX1_readInto_X1_lengthOf rfl rfl rfl (by decide +kernel) ⟨Nat.le_of_ble_eq_true rfl, Nat.le_of_ble_eq_true rfl⟩) (by omega) hk_17 rfl rfl rfl rfl (Nat.le_of_ble_eq_true rfl) dX1_readInto_36 ⟨Nat.le_of_ble_eq_true rfl, Nat.le_of_ble_eq_true rfl⟩) (fun r24 cw25 hp26 => ?_)
        refine z_cw hp26.2 ?_
        refine z_top hp26.1 ?_
        refine z_sipush (v := nI 240) C dX1_readInto_39 (by decide) ?_
        refine z_aload_n C dX1_readInto_42 2 rfl ?_
        refine z_calli (z_runV (As := []) (rest := [.int (nI 240), .int (nI (zLen (zSv P) u))]) C (c_Row_size l D cI cR cL B N ad cwk (by omega) r1) (cwV 0 C.2.2.2.2.1 gX1_readInto_X2_size rfl rfl rfl (by decide +kernel) ⟨Nat.le_of_ble_eq_true rfl, Nat.le_of_ble_eq_true rfl⟩) (by omega) r1 rfl rfl rfl rfl (Nat.le_of_ble_eq_true rfl) dX1_readInto_43 ⟨Nat.le_of_ble_eq_true rfl, Nat.le_of_ble_eq_true rfl⟩) (fun r27 cw28 hp29 => ?_)
        refine z_cw hp29.2 ?_
        refine z_top hp29.1 ?_
        refine z_isub C dX1_readInto_46 ?_
        refine z_top (y := nI (240 - P.flatten.length)) (pk_sub r2) ?_
        refine z_icmp_le (tgt := 52) C dX1_readInto_47 (by decide) (fun c30 => ?_) (fun c30 => ?_)
        · skip
          have hzl : zLen (zSv P) u ≤ 241 := by have h8 := zSv_top (P := P) (u / 257); unfold zLen; split <;> split <;> omega
          have hfit : zLen (zSv P) u ≤ 240 - P.flatten.length := (nI_leI (by omega) (by omega)).mp c30
          rw [sRst_yes hu hfi (by omega)] at hz
          refine z_aload_n C dX1_readInto_52 1 rfl ?_
          refine z_aload_n C dX1_readInto_53 1 rfl ?_
          refine z_get (Cn := RX1) (T := TX1) (NF := 3) (ci := 1) (v := .ref (ad (32))) C qX1_readInto_0 rfl 0 (by decide) (C.2.2.2.2.1 _ qX1_readInto_3) (fun _ h9 => h9) dX1_readInto_54 (31) (by omega) hk_17 rfl ?_
          refine z_iload_n C dX1_readInto_57 0 rfl ?_
          refine z_iald C 0 rfl dX1_readInto_58 (32) (by omega) hk_18 (i) (rfl) (by omega) (by decide) ?_
          refine z_top (y := nI u) (hwu) ?_
          refine z_aload_n C dX1_readInto_59 2 rfl ?_
          refine z_callv (z_runV (As := [.int (nI u), .ref (ad (34))]) (rest := []) C (c_Phr_addPhrase l D cI cR cL B N ad cwk (by omega) hk_17 s3 hu (by omega) hsv hmo (by omega) r1 r3 (by omega) (zSv_top _)) (cwV 2 C.2.2.2.2.1 gX1_readInto_X1_addPhrase rfl rfl rfl (by decide +kernel) ⟨Nat.le_of_ble_eq_true rfl, Nat.le_of_ble_eq_true rfl⟩) (by omega) hk_17 rfl rfl rfl rfl (Nat.le_of_ble_eq_true rfl) dX1_readInto_60 ⟨Nat.le_of_ble_eq_true rfl, Nat.le_of_ble_eq_true rfl⟩) (fun cw31 hp32 => ?_)
          obtain ⟨q1, ⟨f9, q2, q3⟩, q4⟩ := hp32
          have hw_33 : cw31 (31) = .inr (1, [.ref (ad (32)), .ref (ad (33)), .int (nI (ws.length))]) := by rw [q4 (31) (by omega)]; exact hk_17
          have hw_34 : cw31 (32) = .inl (cI, 240, .inl (wf)) := by rw [q4 (32) (by omega)]; exact hk_18
          have hw_35 : cw31 (33) = .inl (cI, 241, .inl (s8)) := by rw [q4 (33) (by omega)]; exact s3
          have hw_36 : cw31 (34) = .inr (2, [.ref (ad (35)), .int (nI (P.flatten.length + zLen (zSv P) u))]) := q1
          have hw_37 : cw31 (35) = .inl (cI, 240, .inl (f9)) := q2
          refine z_aload_n C dX1_readInto_63 1 rfl ?_
          refine z_get (Cn := RX1) (T := TX1) (NF := 3) (ci := 1) (v := .ref (ad (33))) C qX1_readInto_0 rfl 1 (by decide) (C.2.2.2.2.1 _ qX1_readInto_1) (fun _ h9 => h9) dX1_readInto_64 (31) (by omega) hw_33 rfl ?_
          refine z_iload_n C dX1_readInto_67 0 rfl ?_
          refine z_iconst (v := nI 1) C dX1_readInto_68 (by decide) ?_
          refine z_iadd C dX1_readInto_69 ?_
          refine z_top (y := nI (i + 1)) (nI_1 i) ?_
          refine z_aload_n C dX1_readInto_70 2 rfl ?_
          refine z_calli (z_runV (As := []) (rest := [.int (nI (i + 1)), .ref (ad (33))]) C (c_Row_size l D cI cR cL B N ad cw31 (by omega) hw_36) (cwV 0 C.2.2.2.2.1 gX1_readInto_X2_size rfl rfl rfl (by decide +kernel) ⟨Nat.le_of_ble_eq_true rfl, Nat.le_of_ble_eq_true rfl⟩) (by omega) hw_36 rfl rfl rfl rfl (Nat.le_of_ble_eq_true rfl) dX1_readInto_71 ⟨Nat.le_of_ble_eq_true rfl, Nat.le_of_ble_eq_true rfl⟩) (fun r38 cw39 hp40 => ?_)
          refine z_cw hp40.2 ?_
          refine z_top hp40.1 ?_
          obtain ⟨cw41, ecw41⟩ : ∃ z : Nat → va_E, z = va_up (cw31) (33) (.inl (cI, 241, .inl (upd (s8) (i + 1) ((nI (P.flatten.length + zLen (zSv P) u)))))) := ⟨_, rfl⟩
          refine z_iast C 0 rfl dX1_readInto_74 (33) (by omega) hw_35 (i + 1) (rfl) (by omega) (by decide) ?_
          refine z_cw ecw41.symm ?_
          have hw_42 : cw41 (31) = .inr (1, [.ref (ad (32)), .ref (ad (33)), .int (nI (ws.length))]) := by rw [ecw41, va_up_ne _ _ (by decide)]; exact hw_33
          have hw_43 : cw41 (32) = .inl (cI, 240, .inl (wf)) := by rw [ecw41, va_up_ne _ _ (by decide)]; exact hw_34
          have hw_44 : cw41 (33) = .inl (cI, 241, .inl (upd (s8) (i + 1) ((nI (P.flatten.length + zLen (zSv P) u))))) := by rw [ecw41, va_up_self]
          have hw_45 : cw41 (34) = .inr (2, [.ref (ad (35)), .int (nI (P.flatten.length + zLen (zSv P) u))]) := by rw [ecw41, va_up_ne _ _ (by decide)]; exact hw_36
          have hw_46 : cw41 (35) = .inl (cI, 240, .inl (f9)) := by rw [ecw41, va_up_ne _ _ (by decide)]; exact hw_37
          refine z_iinc (x := nI (i + 1)) (lv' := [(2, .int (nI (i + 1))), (0, .ref (ad (31))), (1, .ref (ad (34)))]) C dX1_readInto_75 0 rfl (nI_1 i) (by decide) rfl ?_
          refine z_goto (tgt := 13) C dX1_readInto_78 (by decide) ?_
          refine z_lv (lv' := [(2, .int (nI (i + 1))), (0, .ref (ad (31))), (1, .ref (ad (34)))]) [0, 1, 2] rfl ?_
          have hfl : (P ++ [sPh P u]).flatten.length = P.flatten.length + zLen (zSv P) u := by rw [flat_one, List.length_append, hpl]
          refine ih (i + 1) (P ++ [sPh P u]) _ (by omega) (by rw [List.length_append, hP]; rfl) hz (by rw [flat_one]; exact zCh_app hch (sPh_ch hch)) ⟨by rw [hw_45, hfl], by rw [hfl]; omega, _, hw_46, zIs_put r4 (by omega) q3⟩ ⟨_, hw_44, fun a ha => ?_⟩ (fun j hj => by rw [ecw41, va_up_ne _ _ (by omega), q4 j (by omega)]; exact hfrm j hj)
          by_cases ha2 : a = i + 1
          · rw [ha2, pk_us, zSv_all (by rw [List.length_append, hP]; exact Nat.le_refl _), hfl]
          · rw [pk_un ha2, zSv_app (by omega)]; exact s4 a (by omega)
        · skip
          rw [sRst_long hu (fun h9 => c30 (nI_le (by omega) (by omega)))] at hz
          refine z_iload_n C dX1_readInto_50 0 rfl ?_
          exact z_iret C hr dX1_readInto_51 (⟨⟨hk_17, w2, ⟨_, hk_18, w4⟩, _, s3⟩, ⟨_, hrow⟩, hfrm, Or.inl ⟨i, hz.symm, by omega, rfl⟩⟩) (Nat.le_of_ble_eq_true rfl) (Nat.le_of_ble_eq_true rfl)

theorem zRX_read {cI cR : ClassId} {ad : Nat → Nat} {cw cw' : Nat → va_E} {past fut : Nat} {hs : Nat → List Int32} {pat ws dr dr' : List Int32} (h : zRX cI cR ad cw past fut hs pat ws dr) (hw : zWords cI ad cw' ws) (hd : zRow cI ad cw' 34 35 240 dr') (hk : ∀ j, (j ≠ 33 ∧ j ≠ 34 ∧ j ≠ 35) → cw' j = cw j) : zRX cI cR ad cw' past fut hs pat ws dr' := by
  obtain ⟨h0, ⟨now, h1⟩, h2, h3, h4, h5, nf, h6⟩ := h
  exact ⟨(hk 0 (by omega)).trans h0, ⟨now, zHist_kept h1 (fun j _ _ => hk j (by omega))⟩, zTexts_kept h2 (hk 2 (by omega)), zRow_kept h3 (hk _ (by omega)) (hk _ (by omega)), hw, hd, nf, (hk 36 (by omega)).trans h6⟩
theorem qX3_restore_0 : ∀ w ∈ wsX30, w ∈ wsX3_restore := by decide +kernel
theorem qX3_restore_1 : Cond.fieldLink RX3 28 "PieceText" "written" "LPieceText$Phrases;" ∈ wsX3_restore := by decide +kernel
theorem qX3_restore_2 : Cond.fieldLink RX3 32 "PieceText" "draft" "LPieceText$Row;" ∈ wsX3_restore := by decide +kernel
set_option maxHeartbeats 4000000 in
set_option maxRecDepth 100000 in
theorem c_PT_restore (l : Launch) (D : va_G) (cI cR cL : ClassId) (B N : Nat) (ad : Nat → Nat) (cw : Nat → va_E) (hN : 45 < N) {past fut : Nat} {hs : Nat → List Int32} {pat ws dr : List Int32} (hX : zRX cI cR ad cw past fut hs pat ws dr) : Met l yX3_restore wsX3_restore ({ frames := 4, cells := 0, slots := 0, locals := 128 } : Room) (va_Pc [.ref (ad (0))] (zI D vwCl (zTy cI cR cL) B N ad cw)) (zQi D vwCl B N ad (fun (v : Int32) (cw' : Nat → va_E) => ((∃ k, sRst ws.length ws 0 [] = .inl k ∧ k < 240 ∧ v = -1 - nI k ∧ ∃ dr', zRX cI cR ad cw' past fut hs pat ws dr') ∨ (∃ T9, sRst ws.length ws 0 [] = .inr T9 ∧ v = nI T9.length ∧ zRX cI cR ad cw' (aPast past) 0 (aHs past hs T9) pat ws T9)) ∧ ∀ j, 37 ≤ j → cw' j = cw j)) 0 0 (zA B) := by
  obtain ⟨x0, ⟨now, hH⟩, ⟨fr, ht, hfr⟩, ⟨p1, p2, pf, p3, p4⟩, ⟨w1, w2, ⟨wf, w3, w4⟩, sf, w5⟩, ⟨d1, d2, g, d3, d4⟩, nf, x6⟩ := id hX
  obtain ⟨g1, g2, g3, g4, g5, g6⟩ := id hH
  obtain ⟨t1, t2, f, t3, t4⟩ := zHist_now hH
  refine z_ofW (cc := cX3_restore) (maxL := 2) (ret := (some .int)) (by decide) rfl (Nat.le_of_ble_eq_true rfl) ?_
  intro p e s m args below meth c C hr hnm
  refine z_lv (lv' := [(0, .ref (ad (0)))]) [0] rfl ?_
  refine z_aload_n C dX3_restore_0 0 rfl ?_
  refine z_get (Cn := RX3) (T := TX3) (NF := 5) (ci := 3) (v := .ref (ad (31))) C qX3_restore_0 rfl 2 (by decide) (C.2.2.2.2.1 _ qX3_restore_1) (fun _ h9 => h9) dX3_restore_1 (0) (by omega) x0 rfl ?_
  refine z_aload_n C dX3_restore_4 0 rfl ?_
  refine z_get (Cn := RX3) (T := TX3) (NF := 5) (ci := 3) (v := .ref (ad (34))) C qX3_restore_0 rfl 3 (by decide) (C.2.2.2.2.1 _ qX3_restore_2) (fun _ h9 => h9) dX3_restore_5 (0) (by omega) x0 rfl ?_
  refine z_calli (z_runV (As := [.ref (ad (34))]) (rest := []) C (c_Phr_readInto l D cI cR cL B N ad cw hN hX.2.2.2.2.1 hX.2.2.2.2.2.1) (cwV 1 C.2.2.2.2.1 gX3_restore_X1_readInto rfl rfl rfl (by decide +kernel) ⟨Nat.le_of_ble_eq_true rfl, Nat.le_of_ble_eq_true rfl⟩) (by omega) w1 rfl rfl rfl rfl (Nat.le_of_ble_eq_true rfl) dX3_restore_8 ⟨Nat.le_of_ble_eq_true rfl, Nat.le_of_ble_eq_true rfl⟩) (fun r1 cw2 hp3 => ?_)
  obtain ⟨q1, ⟨dr9, q2⟩, q3, q4⟩ := hp3
  have hw_4 : cw2 (0) = .inr (3, [.ref (ad (1)), .ref (ad (29)), .ref (ad (31)), .ref (ad (34)), .ref (ad (36))]) := by rw [q3 (0) (by omega)]; exact x0
  refine z_istore_n (lv' := [(1, .int (r1)), (0, .ref (ad (0)))]) C dX3_restore_11 rfl (by decide) rfl ?_
  refine z_iload_n C dX3_restore_12 0 rfl ?_
  refine z_iconst (v := -1) C dX3_restore_13 (by decide) ?_
  refine z_icmp_eq (tgt := 21) C dX3_restore_14 (by decide) (fun c5 => ?_) (fun c5 => ?_)
  · skip
    obtain ⟨T9, v1, v2, v3, v4⟩ : ∃ T9, sRst ws.length ws 0 [] = .inr T9 ∧ r1 = -1 ∧ zRow cI ad cw2 34 35 240 T9 ∧ zCh T9 := by rcases q4 with ⟨k, b1, b2, b3⟩ | h9; exact absurd (b3.symm.trans c5) (fun h8 => nI_pos (n := k) (by omega) (by rw [h8]; decide)); exact h9
    have hX2 := zRX_read hX q1 v3 q3
    refine z_aload_n C dX3_restore_21 1 rfl ?_
    refine z_calli (z_runV (As := []) (rest := []) C (c_PT_keepDraft l D cI cR cL B N ad cw2 hN hX2 v4) (cwV 0 C.2.2.2.2.1 gX3_restore_X3_keepDraft rfl rfl rfl (by decide +kernel) ⟨Nat.le_of_ble_eq_true rfl, Nat.le_of_ble_eq_true rfl⟩) (by omega) hw_4 rfl rfl rfl rfl (Nat.le_of_ble_eq_true rfl) dX3_restore_22 ⟨Nat.le_of_ble_eq_true rfl, Nat.le_of_ble_eq_true rfl⟩) (fun r6 cw7 hp8 => ?_)
    exact z_iret C hr dX3_restore_25 (⟨Or.inr ⟨T9, v1, hp8.1, hp8.2.1⟩, fun j hj => (hp8.2.2 j hj).trans (q3 j (by omega))⟩) (Nat.le_of_ble_eq_true rfl) (Nat.le_of_ble_eq_true rfl)
  · skip
    obtain ⟨k, b1, b2, b3⟩ : ∃ k, sRst ws.length ws 0 [] = .inl k ∧ k < 240 ∧ r1 = nI k := by rcases q4 with h9 | ⟨T9, b1, b2, b3⟩; exact h9; exact absurd b2 c5
    refine z_iconst (v := -1) C dX3_restore_17 (by decide) ?_
    refine z_iload_n C dX3_restore_18 0 rfl ?_
    refine z_isub C dX3_restore_19 ?_
    exact z_iret C hr dX3_restore_20 (⟨Or.inl ⟨k, b1, b2, by rw [b3], dr9, zRX_read hX q1 q2 q3⟩, fun j hj => q3 j (by omega)⟩) (Nat.le_of_ble_eq_true rfl) (Nat.le_of_ble_eq_true rfl)

