def ph (P : List (List Int32)) (k : Nat) : List Int32 := if k = 0 then [] else P.getD (k - 1) []
theorem ph_zero (P : List (List Int32)) : ph P 0 = [] := rfl
theorem ph_succ (P : List (List Int32)) (i : Nat) : ph P (i + 1) = P.getD i [] := rfl
def zTri (wk : List Int32) (P : List (List Int32)) : Prop := wk.length = P.length ∧ (∀ i, i < P.length → ∃ k c, k ≤ i ∧ c < 256 ∧ wk[i]? = some (nI (257 * k + c)) ∧ ph P (i + 1) = ph P k ++ [nI c]) ∧ (∀ i j, i ≤ P.length → j ≤ P.length → ph P i = ph P j → i = j)
theorem zTri_nil : zTri [] [] := ⟨rfl, fun i h => absurd h (Nat.not_lt_zero _), fun i j h1 h2 _ => by rw [Nat.le_zero.mp h1, Nat.le_zero.mp h2]⟩
theorem zTri_pre {wk : List Int32} {P : List (List Int32)} (h : zTri wk P) : ∀ n j, j ≤ n → j ≤ P.length → ∀ t, t ≤ (ph P j).length → ∃ k, k ≤ P.length ∧ ph P k = (ph P j).take t := by
  intro n
  induction n with
  | zero =>
    intro j hj hl t ht
    rw [Nat.le_zero.mp hj] at ht ⊢
    exact ⟨0, Nat.zero_le _, by rw [ph_zero, List.take_nil]⟩
  | succ n ih =>
    intro j hj hl t ht
    cases j with
    | zero => exact ⟨0, Nat.zero_le _, by rw [ph_zero, List.take_nil]⟩
    | succ i =>
      obtain ⟨k, c, h1, h2, h3, h4⟩ := h.2.1 i (by omega)
      by_cases he : t = (ph P (i + 1)).length
      · exact ⟨i + 1, hl, by rw [he, List.take_length]⟩
      · rw [h4, List.length_append, List.length_singleton] at he ht
        obtain ⟨k2, g1, g2⟩ := ih k (by omega) (by omega) t (by omega)
        exact ⟨k2, g1, by rw [g2, h4, List.take_append_of_le_length (by omega)]⟩
theorem zTri_at {wk : List Int32} {P : List (List Int32)} (h : zTri wk P) {k c i : Nat} (hk : k ≤ P.length) (hb : P.length ≤ 240) (hc : c < 256) (hw : wk[i]? = some (nI (257 * k + c))) : i < P.length ∧ ph P (i + 1) = ph P k ++ [nI c] := by
  have hi : i < wk.length := (List.getElem?_eq_some_iff.mp hw).1
  rw [h.1] at hi
  obtain ⟨k2, c2, h1, h2, h3, h4⟩ := h.2.1 i hi
  rw [h3] at hw
  have h5 := (nI_eq (by omega) (by omega)).mp (Option.some.inj hw)
  have h6 : k2 = k := by omega
  have h7 : c2 = c := by omega
  rw [h6, h7] at h4
  exact ⟨hi, h4⟩
/-- a phrase that is one longer than phrase k: its number -/
theorem zTri_num {wk : List Int32} {P : List (List Int32)} (h : zTri wk P) (hb : P.length ≤ 240) {k c k' : Nat} (hk : k ≤ P.length) (hc : c < 256) (hk' : k' ≤ P.length) (he : ph P k' = ph P k ++ [nI c]) : 0 < k' ∧ zNum wk (nI (257 * k) + nI c) k = k' := by
  cases k' with
  | zero =>
    have h1 := congrArg List.length he
    rw [ph_zero, List.length_append, List.length_singleton] at h1
    exact absurd h1 (by simp only [List.length_nil]; omega)
  | succ i =>
    refine ⟨Nat.succ_pos _, ?_⟩
    obtain ⟨k2, c2, h1, h2, h3, h4⟩ := h.2.1 i (by omega)
    have h5 := h4.symm.trans he
    have h6 := List.append_inj_left' h5 rfl
    have h7 := h.2.2 k2 k (by omega) hk h6
    have h8 := List.append_inj_right' h5 rfl
    have h9 : nI c2 = nI c := by injection h8
    rw [h7] at h3
    have h10 := (nI_eq (by omega) (by omega)).mp h9
    rw [h10] at h3
    rw [nI_add]
    refine zNum_some (by omega) h3 (fun j g1 g2 g3 => ?_)
    have g4 := zTri_at h hk hb hc g3
    have g5 := h.2.2 (j + 1) (i + 1) (by omega) hk' (g4.2.trans he.symm)
    omega
theorem zTri_none {wk : List Int32} {P : List (List Int32)} (h : zTri wk P) (hb : P.length ≤ 240) {k c : Nat} (hk : k ≤ P.length) (hc : c < 256) (hno : ∀ k', k' ≤ P.length → ¬ ph P k' = ph P k ++ [nI c]) : zNum wk (nI (257 * k) + nI c) k = 0 := by
  rw [nI_add]
  refine zNum_none (fun j g1 g2 g3 => ?_)
  have g4 := zTri_at h hk hb hc g3
  exact hno (j + 1) (by omega) g4.2
theorem take_snoc {W : List Int32} {t : Nat} (ht : t < W.length) : W.take (t + 1) = W.take t ++ [W[t]] := by
  rw [List.take_succ, List.getElem?_eq_getElem ht]
  rfl
/-- the walk along the phrases, up to the longest that fits -/
theorem sLz_along {wk : List Int32} {P : List (List Int32)} (h : zTri wk P) (hb : P.length ≤ 240) {W : List Int32} (hW : zCh W) {K m : Nat} (hK : K ≤ P.length) (hm : m ≤ W.length) (hKm : ph P K = W.take m) : ∀ t, t ≤ m → ∃ k, k ≤ P.length ∧ ph P k = W.take t ∧ sLz W 0 wk = sLz (W.drop t) k wk := by
  intro t
  induction t with
  | zero => exact fun _ => ⟨0, Nat.zero_le _, by rw [ph_zero, List.take_zero], rfl⟩
  | succ t ih =>
    intro ht
    obtain ⟨k, h1, h2, h3⟩ := ih (by omega)
    have hl : (ph P K).length = m := by rw [hKm, List.length_take]; omega
    obtain ⟨k2, g1, g2⟩ := zTri_pre h K K (Nat.le_refl _) hK (t + 1) (by omega)
    rw [hKm, List.take_take, Nat.min_eq_left ht] at g2
    have ht2 : t < W.length := by omega
    obtain ⟨c, hc, hce⟩ := hW _ (List.getElem_mem ht2)
    have g3 := g2
    rw [take_snoc ht2, ← h2, hce] at g3
    obtain ⟨g4, g5⟩ := zTri_num h hb h1 hc g1 g3
    refine ⟨k2, g1, g2, ?_⟩
    rw [h3, List.drop_eq_getElem_cons ht2, hce, sLz, g5, if_neg (by omega)]
theorem sLz_end {wk : List Int32} {P : List (List Int32)} (h : zTri wk P) (hb : P.length ≤ 240) {W : List Int32} (hW : zCh W) {K m : Nat} (hK : K ≤ P.length) (hm : m = W.length) (h0 : 0 < m) (hKm : ph P K = W.take m) : sLz W 0 wk = wk ++ [nI (257 * K + 256)] := by
  obtain ⟨k, h1, h2, h3⟩ := sLz_along h hb hW hK (by omega) hKm m (Nat.le_refl _)
  have h4 := h.2.2 k K h1 hK (h2.trans hKm.symm)
  subst h4
  rw [h3, List.drop_eq_nil_of_le (by omega), sLz, if_pos]
  apply Nat.pos_of_ne_zero
  intro h5
  rw [h5, ph_zero] at h2
  have h6 := congrArg List.length h2
  rw [List.length_take] at h6
  simp only [List.length_nil] at h6
  omega
theorem sLz_on {wk : List Int32} {P : List (List Int32)} (h : zTri wk P) (hb : P.length ≤ 240) {W : List Int32} (hW : zCh W) {K m : Nat} (hK : K ≤ P.length) (hm : m < W.length) (hKm : ph P K = W.take m) (hbest : ∀ j, j ≤ P.length → ph P j = W.take (ph P j).length → (ph P j).length ≤ m) {x : Int32} (hx : W[m]? = some x) : sLz W 0 wk = sLz (W.drop (m + 1)) 0 (wk ++ [nI (257 * K) + x]) ∧ zTri (wk ++ [nI (257 * K) + x]) (P ++ [W.take (m + 1)]) := by
  obtain ⟨k, h1, h2, h3⟩ := sLz_along h hb hW hK (by omega) hKm m (Nat.le_refl _)
  have h4 := h.2.2 k K h1 hK (h2.trans hKm.symm)
  subst h4
  have hx2 : W[m] = x := by rw [List.getElem?_eq_getElem hm] at hx; exact Option.some.inj hx
  obtain ⟨c, hc, hce⟩ := hW _ (List.getElem_mem hm)
  have hxc : x = nI c := hx2.symm.trans hce
  have hlen : (W.take (m + 1)).length = m + 1 := by rw [List.length_take]; omega
  have hno : ∀ k', k' ≤ P.length → ¬ ph P k' = W.take (m + 1) := fun k' g1 g2 => by
    have g3 := hbest k' g1 (by rw [g2, hlen])
    rw [g2, hlen] at g3
    omega
  have hts : W.take (m + 1) = ph P k ++ [nI c] := by rw [take_snoc hm, hce, hKm]
  have hz := zTri_none h hb h1 hc (fun k' g1 g2 => hno k' g1 (g2.trans hts.symm))
  have old : ∀ i, i ≤ P.length → ph (P ++ [W.take (m + 1)]) i = ph P i := fun i hi => by
    cases i with
    | zero => rfl
    | succ i => rw [ph_succ, ph_succ, List.getD_eq_getElem?_getD, List.getElem?_append_left (by omega), ← List.getD_eq_getElem?_getD]
  have new : ph (P ++ [W.take (m + 1)]) (P.length + 1) = W.take (m + 1) := by
    rw [ph_succ, List.getD_eq_getElem?_getD, List.getElem?_append_right (Nat.le_refl _), Nat.sub_self]
    rfl
  refine ⟨by rw [h3, List.drop_eq_getElem_cons hm, sLz, hx2, hxc, if_pos hz], by rw [List.length_append, List.length_append, h.1]; rfl, fun i hi => ?_, fun i j hi hj he => ?_⟩
  · rw [List.length_append, List.length_singleton] at hi
    by_cases h8 : i < P.length
    · obtain ⟨k2, c2, g1, g2, g3, g4⟩ := h.2.1 i h8
      exact ⟨k2, c2, g1, g2, by rw [List.getElem?_append_left (by rw [h.1]; exact h8)]; exact g3, by rw [old (i + 1) (by omega), old k2 (by omega)]; exact g4⟩
    · have h9 : i = P.length := by omega
      subst h9
      refine ⟨k, c, h1, hc, ?_, by rw [new, old k h1]; exact hts⟩
      rw [List.getElem?_append_right (by rw [h.1]; exact Nat.le_refl _), h.1, Nat.sub_self, hxc, nI_add]
      rfl
  · rw [List.length_append, List.length_singleton] at hi hj
    by_cases h8 : i ≤ P.length
    · by_cases h9 : j ≤ P.length
      · rw [old i h8, old j h9] at he
        exact h.2.2 i j h8 h9 he
      · have e2 : j = P.length + 1 := by omega
        rw [e2, old i h8, new] at he
        exact absurd he (hno i h8)
    · have e1 : i = P.length + 1 := by omega
      by_cases h9 : j ≤ P.length
      · rw [e1, old j h9, new] at he
        exact absurd he.symm (hno j h9)
      · omega
/-- whether phrase k stands at p, by the characters -/
theorem ph_match {f : Nat → Int32} {xs : List Int32} (hf : zIs f xs) {P : List (List Int32)} {p : Nat} (hP : P.flatten = xs.take p) (hp : p ≤ xs.length) {i : Nat} (hi : i < P.length) (hfit : p + (P.getD i []).length ≤ xs.length) : (∀ a, a < (P.getD i []).length → f (zSv P i + a) = f (p + a)) ↔ ph P (i + 1) = (xs.drop p).take (ph P (i + 1)).length := by
  rw [ph_succ]
  have hn := zSv_next hi
  have ht := zSv_top (P := P) (i + 1)
  have hfl : P.flatten.length = p := by rw [hP, List.length_take]; omega
  have e1 : ∀ a, a < (P.getD i []).length → (P.getD i [])[a]? = some (f (zSv P i + a)) := fun a ha => by
    rw [← flat_get hi ha, hP, List.getElem?_take, if_pos (by omega), hf _ (by omega)]
  have e2 : ∀ a, a < (P.getD i []).length → ((xs.drop p).take (P.getD i []).length)[a]? = some (f (p + a)) := fun a ha => by
    rw [List.getElem?_take, if_pos ha, List.getElem?_drop, hf _ (by omega)]
  constructor
  · intro h
    apply List.ext_getElem?
    intro a
    by_cases ha : a < (P.getD i []).length
    · rw [e1 a ha, e2 a ha, h a ha]
    · rw [List.getElem?_eq_none (by omega), List.getElem?_eq_none (by rw [List.length_take]; omega)]
  · intro h a ha
    have h1 := e1 a ha
    rw [h, e2 a ha] at h1
    exact (Option.some.inj h1).symm
