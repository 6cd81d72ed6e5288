def zIs (f : Nat → Int32) (xs : List Int32) : Prop := ∀ i, i < xs.length → xs[i]? = some (f i)
def zPart (xs : List Int32) (b k : Nat) : List Int32 := (xs.take k).drop b
def zCh (xs : List Int32) : Prop := ∀ x ∈ xs, ∃ q, q < 256 ∧ x = nI q
theorem zPart_len {xs : List Int32} {b k : Nat} (hk : k ≤ xs.length) : (zPart xs b k).length = k - b := by
  unfold zPart
  rw [List.length_drop, List.length_take]
  omega
theorem zPart_get {xs : List Int32} {b k i : Nat} (hi : b + i < k) : (zPart xs b k)[i]? = xs[b + i]? := by
  unfold zPart
  rw [List.getElem?_drop, List.getElem?_take, if_pos hi]
theorem zIs_nil (f : Nat → Int32) : zIs f [] := fun i h => absurd h (Nat.not_lt_zero _)
theorem zIs_add {f : Nat → Int32} {xs : List Int32} (h : zIs f xs) (x : Int32) : zIs (upd f xs.length x) (xs ++ [x]) := by
  intro i hi
  rw [List.length_append, List.length_singleton] at hi
  by_cases h1 : i < xs.length
  · rw [List.getElem?_append_left h1, h i h1, pk_un (by omega)]
  · have h2 : i = xs.length := by omega
    subst h2
    rw [List.getElem?_append_right (Nat.le_refl _), Nat.sub_self, pk_us]
    rfl
theorem zIs_cpy {f g : Nat → Int32} {xs ys : List Int32} (h : zIs f xs) (h2 : zIs g ys) {b k : Nat} (hk : k ≤ ys.length) : zIs (va_cpy g f b xs.length (k - b)) (xs ++ zPart ys b k) := by
  intro i hi
  rw [List.length_append, zPart_len hk] at hi
  by_cases h1 : i < xs.length
  · rw [List.getElem?_append_left h1, h i h1, pk_cpy_out (Or.inl h1)]
  · rw [List.getElem?_append_right (by omega), zPart_get (by omega), h2 _ (by omega), pk_cpy_in (by omega) (by omega)]
theorem zIs_get {f : Nat → Int32} {xs : List Int32} (h : zIs f xs) {i : Nat} (hi : i < xs.length) : f i ∈ xs := List.mem_of_getElem? (h i hi)
theorem zIs_eq {f : Nat → Int32} {xs ys : List Int32} (h : zIs f xs) (h2 : zIs f ys) (hl : xs.length = ys.length) : xs = ys := by
  apply List.ext_getElem?
  intro i
  by_cases hi : i < xs.length
  · rw [h i hi, h2 i (by omega)]
  · rw [List.getElem?_eq_none (by omega), List.getElem?_eq_none (by omega)]
theorem zCh_part {xs : List Int32} (h : zCh xs) (b k : Nat) : zCh (zPart xs b k) := fun x hx => h x (List.mem_of_mem_take (List.mem_of_mem_drop hx))
theorem zCh_app {xs ys : List Int32} (h : zCh xs) (h2 : zCh ys) : zCh (xs ++ ys) := fun x hx => (List.mem_append.mp hx).elim (h x) (h2 x)
theorem zCh_one {x : Int32} (h : ∃ q, q < 256 ∧ x = nI q) : zCh [x] := fun y hy => by rw [List.mem_singleton.mp hy]; exact h
theorem zCh_nil : zCh [] := fun x hx => absurd hx List.not_mem_nil
def zRow (cI : ClassId) (ad : Nat → Nat) (cw : Nat → va_E) (r a lim : Nat) (xs : List Int32) : Prop :=
  cw r = .inr (2, [.ref (ad (a)), .int (nI xs.length)]) ∧ xs.length ≤ lim ∧ ∃ f, cw a = .inl (cI, lim, .inl (f)) ∧ zIs f xs
theorem zRow_kept {cI : ClassId} {ad : Nat → Nat} {cw cw' : Nat → va_E} {r a lim : Nat} {xs : List Int32} (h : zRow cI ad cw r a lim xs) (h1 : cw' r = cw r) (h2 : cw' a = cw a) : zRow cI ad cw' r a lim xs := by
  obtain ⟨e1, e2, f, e3, e4⟩ := h
  exact ⟨h1.trans e1, e2, f, h2.trans e3, e4⟩
def zHist (cI : ClassId) (ad : Nat → Nat) (cw : Nat → va_E) (now past fut : Nat) (hs : Nat → List Int32) : Prop :=
  now < 13 ∧ past + fut ≤ 12 ∧ cw 1 = .inr (0, [.ref (ad (2)), .int (nI now), .int (nI past), .int (nI fut)]) ∧
  (∀ j, j ≤ past + fut → zRow cI ad cw (3 + 2 * ((now + 13 - past + j) % 13)) (4 + 2 * ((now + 13 - past + j) % 13)) 240 (hs j)) ∧
  (∀ i, i < 13 → ∃ xs, zRow cI ad cw (3 + 2 * i) (4 + 2 * i) 240 xs) ∧ (∀ j, j ≤ past + fut → zCh (hs j))
def zTexts (cR : ClassId) (ad : Nat → Nat) (cw : Nat → va_E) : Prop := ∃ fr, cw 2 = .inl (cR, 13, .inr (.inr (.inr (.inr (fr))))) ∧ ∀ i, i < 13 → fr i = some (ad (3 + 2 * i))
def zWords (cI : ClassId) (ad : Nat → Nat) (cw : Nat → va_E) (ws : List Int32) : Prop :=
  cw 31 = .inr (1, [.ref (ad (32)), .ref (ad (33)), .int (nI ws.length)]) ∧ ws.length ≤ 240 ∧ (∃ wf, cw 32 = .inl (cI, 240, .inl (wf)) ∧ zIs wf ws) ∧ ∃ sf, cw 33 = .inl (cI, 241, .inl (sf))
def zRX (cI cR : ClassId) (ad : Nat → Nat) (cw : Nat → va_E) (past fut : Nat) (hs : Nat → List Int32) (pat ws dr : List Int32) : Prop :=
  cw 0 = .inr (3, [.ref (ad (1)), .ref (ad (29)), .ref (ad (31)), .ref (ad (34)), .ref (ad (36))]) ∧ (∃ now, zHist cI ad cw now past fut hs) ∧ zTexts cR ad cw ∧ zRow cI ad cw 29 30 16 pat ∧ zWords cI ad cw ws ∧ zRow cI ad cw 34 35 240 dr ∧ ∃ nf, cw 36 = .inl (cI, 256, .inl (nf))
theorem zHist_kept {cI : ClassId} {ad : Nat → Nat} {cw cw' : Nat → va_E} {now past fut : Nat} {hs : Nat → List Int32} (h : zHist cI ad cw now past fut hs) (hk : ∀ j, 1 ≤ j → j ≤ 28 → cw' j = cw j) : zHist cI ad cw' now past fut hs := by
  obtain ⟨h1, h2, h3, h4, h5, h6⟩ := h
  exact ⟨h1, h2, (hk 1 (by omega) (by omega)).trans h3, fun j hj => zRow_kept (h4 j hj) (hk _ (by omega) (by omega)) (hk _ (by omega) (by omega)),
    fun i hi => (h5 i hi).imp fun xs hx => zRow_kept hx (hk _ (by omega) (by omega)) (hk _ (by omega) (by omega)), h6⟩
theorem zTexts_kept {cR : ClassId} {ad : Nat → Nat} {cw cw' : Nat → va_E} (h : zTexts cR ad cw) (hk : cw' 2 = cw 2) : zTexts cR ad cw' := by
  obtain ⟨fr, h1, h2⟩ := h
  exact ⟨fr, hk.trans h1, h2⟩
theorem zWords_kept {cI : ClassId} {ad : Nat → Nat} {cw cw' : Nat → va_E} {ws : List Int32} (h : zWords cI ad cw ws) (h1 : cw' 31 = cw 31) (h2 : cw' 32 = cw 32) (h3 : cw' 33 = cw 33) : zWords cI ad cw' ws := by
  obtain ⟨e1, e2, ⟨wf, e3, e4⟩, sf, e5⟩ := h
  exact ⟨h1.trans e1, e2, ⟨wf, h2.trans e3, e4⟩, sf, h3.trans e5⟩
/-- the draft alone has changed -/
theorem zRX_draft {cI cR : ClassId} {ad : Nat → Nat} {cw cw' : Nat → va_E} {past fut : Nat} {hs : Nat → List Int32} {pat ws dr dr' : List Int32} (h : zRX cI cR ad cw past fut hs pat ws dr) (hk : ∀ j, (j ≠ 34 ∧ j ≠ 35) → cw' j = cw j) (hd : zRow cI ad cw' 34 35 240 dr') : zRX cI cR ad cw' past fut hs pat ws dr' := by
  obtain ⟨h0, ⟨now, h1⟩, h2, h3, h4, h5, nf, h6⟩ := h
  exact ⟨(hk 0 (by omega)).trans h0, ⟨now, zHist_kept h1 (fun j _ _ => hk j (by omega))⟩, zTexts_kept h2 (hk 2 (by omega)), zRow_kept h3 (hk _ (by omega)) (hk _ (by omega)), zWords_kept h4 (hk _ (by omega)) (hk _ (by omega)) (hk _ (by omega)), hd, nf, (hk 36 (by omega)).trans h6⟩
/-- the history alone has changed -/
theorem zRX_hist {cI cR : ClassId} {ad : Nat → Nat} {cw cw' : Nat → va_E} {past fut past' fut' now' : Nat} {hs hs' : Nat → List Int32} {pat ws dr : List Int32} (h : zRX cI cR ad cw past fut hs pat ws dr) (hk : ∀ j, (j = 0 ∨ j = 2 ∨ 29 ≤ j) → cw' j = cw j) (hd : zHist cI ad cw' now' past' fut' hs') : zRX cI cR ad cw' past' fut' hs' pat ws dr := by
  obtain ⟨h0, ⟨now, h1⟩, h2, h3, h4, h5, nf, h6⟩ := h
  exact ⟨(hk 0 (by omega)).trans h0, ⟨now', hd⟩, zTexts_kept h2 (hk 2 (by omega)), zRow_kept h3 (hk _ (by omega)) (hk _ (by omega)), zWords_kept h4 (hk _ (by omega)) (hk _ (by omega)) (hk _ (by omega)), zRow_kept h5 (hk _ (by omega)) (hk _ (by omega)), nf, (hk 36 (by omega)).trans h6⟩
def aHs (past : Nat) (hs : Nat → List Int32) (xs : List Int32) : Nat → List Int32 := fun j => if past = 12 then (if j < 12 then hs (j + 1) else xs) else (if j = past + 1 then xs else hs j)
/-- a text is kept: the next row of the ring has it -/
theorem zHist_keep {cI : ClassId} {ad : Nat → Nat} {cw cw' : Nat → va_E} {now past fut : Nat} {hs : Nat → List Int32} {xs : List Int32} (h : zHist cI ad cw now past fut hs) (hx : zCh xs)
    (h1 : cw' 1 = .inr (0, [.ref (ad (2)), .int (nI ((now + 1) % 13)), .int (nI (aPast past)), .int (nI 0)]))
    (hr : zRow cI ad cw' (3 + 2 * ((now + 1) % 13)) (4 + 2 * ((now + 1) % 13)) 240 xs)
    (hk : ∀ j, (j ≠ 1 ∧ j ≠ 3 + 2 * ((now + 1) % 13) ∧ j ≠ 4 + 2 * ((now + 1) % 13)) → cw' j = cw j) : zHist cI ad cw' ((now + 1) % 13) (aPast past) 0 (aHs past hs xs) := by
  obtain ⟨g1, g2, g3, g4, g5, g6⟩ := h
  have hp : past ≤ 12 := by omega
  have keep : ∀ i, i < 13 → i ≠ (now + 1) % 13 → ∀ ys, zRow cI ad cw (3 + 2 * i) (4 + 2 * i) 240 ys → zRow cI ad cw' (3 + 2 * i) (4 + 2 * i) 240 ys := fun i hi hne ys hy => zRow_kept hy (hk _ (by omega)) (hk _ (by omega))
  refine ⟨Nat.mod_lt _ (by omega), by unfold aPast; split <;> omega, h1, ?_, ?_, ?_⟩
  · intro j hj
    unfold aPast at hj ⊢
    unfold aHs
    by_cases h12 : past = 12
    · rw [if_pos h12] at hj ⊢
      rw [if_pos h12]
      by_cases hj12 : j < 12
      · rw [if_pos hj12]
        have e : ((now + 1) % 13 + 13 - 12 + j) % 13 = (now + 13 - past + (j + 1)) % 13 := by omega
        rw [e]
        exact keep _ (Nat.mod_lt _ (by omega)) (by omega) _ (g4 (j + 1) (by omega))
      · rw [if_neg hj12]
        have e : ((now + 1) % 13 + 13 - 12 + j) % 13 = (now + 1) % 13 := by omega
        rw [e]
        exact hr
    · rw [if_neg h12] at hj ⊢
      rw [if_neg h12]
      by_cases hjp : j = past + 1
      · rw [if_pos hjp]
        have e : ((now + 1) % 13 + 13 - (past + 1) + j) % 13 = (now + 1) % 13 := by omega
        rw [e]
        exact hr
      · rw [if_neg hjp]
        have e : ((now + 1) % 13 + 13 - (past + 1) + j) % 13 = (now + 13 - past + j) % 13 := by omega
        rw [e]
        exact keep _ (Nat.mod_lt _ (by omega)) (by omega) _ (g4 j (by omega))
  · intro i hi
    by_cases hne : i = (now + 1) % 13
    · rw [hne]; exact ⟨xs, hr⟩
    · obtain ⟨ys, hy⟩ := g5 i hi
      exact ⟨ys, keep i hi hne ys hy⟩
  · intro j hj
    unfold aPast at hj
    unfold aHs
    by_cases h12 : past = 12
    · rw [if_pos h12] at hj ⊢
      split
      · exact g6 _ (by omega)
      · exact hx
    · rw [if_neg h12] at hj ⊢
      split
      · exact hx
      · exact g6 _ (by omega)
theorem zHist_back {cI : ClassId} {ad : Nat → Nat} {cw cw' : Nat → va_E} {now pv fut : Nat} {hs : Nat → List Int32} (h : zHist cI ad cw now (pv + 1) fut hs)
    (h1 : cw' 1 = .inr (0, [.ref (ad (2)), .int (nI ((now + 12) % 13)), .int (nI (pv)), .int (nI (fut + 1))])) (hk : ∀ j, (j ≠ 1) → cw' j = cw j) : zHist cI ad cw' ((now + 12) % 13) pv (fut + 1) hs := by
  obtain ⟨g1, g2, g3, g4, g5, g6⟩ := h
  refine ⟨Nat.mod_lt _ (by omega), by omega, h1, fun j hj => ?_, fun i hi => (g5 i hi).imp fun xs hx => zRow_kept hx (hk _ (by omega)) (hk _ (by omega)), fun j hj => g6 j (by omega)⟩
  have e : ((now + 12) % 13 + 13 - pv + j) % 13 = (now + 13 - (pv + 1) + j) % 13 := by omega
  rw [e]
  exact zRow_kept (g4 j (by omega)) (hk _ (by omega)) (hk _ (by omega))
theorem zHist_on {cI : ClassId} {ad : Nat → Nat} {cw cw' : Nat → va_E} {now past q : Nat} {hs : Nat → List Int32} (h : zHist cI ad cw now past (q + 1) hs)
    (h1 : cw' 1 = .inr (0, [.ref (ad (2)), .int (nI ((now + 1) % 13)), .int (nI (past + 1)), .int (nI (q))])) (hk : ∀ j, (j ≠ 1) → cw' j = cw j) : zHist cI ad cw' ((now + 1) % 13) (past + 1) q hs := by
  obtain ⟨g1, g2, g3, g4, g5, g6⟩ := h
  refine ⟨Nat.mod_lt _ (by omega), by omega, h1, fun j hj => ?_, fun i hi => (g5 i hi).imp fun xs hx => zRow_kept hx (hk _ (by omega)) (hk _ (by omega)), fun j hj => g6 j (by omega)⟩
  have e : ((now + 1) % 13 + 13 - (past + 1) + j) % 13 = (now + 13 - past + j) % 13 := by omega
  rw [e]
  exact zRow_kept (g4 j (by omega)) (hk _ (by omega)) (hk _ (by omega))
/-- the row of the text as it is -/
theorem zHist_now {cI : ClassId} {ad : Nat → Nat} {cw : Nat → va_E} {now past fut : Nat} {hs : Nat → List Int32} (h : zHist cI ad cw now past fut hs) : zRow cI ad cw (3 + 2 * now) (4 + 2 * now) 240 (hs past) := by
  obtain ⟨g1, g2, g3, g4, g5, g6⟩ := h
  have h9 := g4 past (by omega)
  have e : (now + 13 - past + past) % 13 = now := by omega
  rw [e] at h9
  exact h9
