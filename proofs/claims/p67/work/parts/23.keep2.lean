/-! ===== A CHANGE KEEPS THE ROW'S BOUNDS ===== -/
theorem zTu.part {N N' : Nat → Int32} {k : Nat} (h : zTu N k) (h3 : zn (N' 3) = zn (N 3)) (h4 : zn (N' 4) = zn (N 4)) (hw : ∀ w, w < 4 → N' (42 + 21 * k + w) = N (42 + 21 * k + w)) (hf : zIn (N' (42 + 21 * k + 4)) 0 999) (ht : zIn (N' (42 + 21 * k + 5)) (-200) 1500)
    (hl : N' (42 + 21 * k + 6) = nI 0 ∨ N' (42 + 21 * k + 6) = nI 1) (hb : N' (42 + 21 * k + 7) = -1 ∨ ∃ b, N' (42 + 21 * k + 7) = nI b ∧ b < zn (N 4))
    (hp : ∃ m, N' (42 + 21 * k + 8) = nI m ∧ m ≤ 6 ∧ (∀ p, p < m → zIn (sDeg N' k p) (-20) 150 ∧ zIn (sHgt N' k p) 0 999) ∧ ∀ p q, p < m → q < m → (sDeg N' k p = sDeg N' k q ∨ sHgt N' k p = sHgt N' k q) → p = q) : zTu N' k := by
  obtain ⟨a0, a1, a2, a3, -⟩ := h
  refine ⟨?_, ?_, ?_, ?_, hf, ht, hl, by rw [h4]; exact hb, hp⟩
  · rw [hw 0 (by omega), h3]; exact a0
  · rw [hw 1 (by omega)]; exact a1
  · rw [hw 2 (by omega)]; exact a2
  · rw [hw 3 (by omega)]; exact a3
theorem zTu.pts {N N' : Nat → Int32} {k : Nat} (h : zTu N k) (hw : ∀ w, 8 ≤ w → w < 21 → N' (42 + 21 * k + w) = N (42 + 21 * k + w)) : ∃ m, N' (42 + 21 * k + 8) = nI m ∧ m ≤ 6 ∧ (∀ p, p < m → zIn (sDeg N' k p) (-20) 150 ∧ zIn (sHgt N' k p) 0 999) ∧ ∀ p q, p < m → q < m → (sDeg N' k p = sDeg N' k q ∨ sHgt N' k p = sHgt N' k q) → p = q := by
  obtain ⟨-, -, -, -, -, -, -, -, m, m1, m2, m3, m4⟩ := h
  have eD : ∀ p, p < m → sDeg N' k p = sDeg N k p := fun p hp => hw (9 + 2 * p) (by omega) (by omega)
  have eH : ∀ p, p < m → sHgt N' k p = sHgt N k p := fun p hp => hw (9 + 2 * p + 1) (by omega) (by omega)
  refine ⟨m, by rw [hw 8 (by omega) (by omega)]; exact m1, m2, fun p hp => ?_, fun p q hp hq => ?_⟩
  · rw [eD p hp, eH p hp]; exact m3 p hp
  · rw [eD p hp, eH p hp, eD q hq, eH q hq]; exact m4 p q hp hq
theorem zOk.at {N N' : Nat → Int32} (h : zOk N) {k : Nat} (hk : k < zn (N 5)) (hw : ∀ w, w < 42 → w ≠ 8 → N' w = N w) (ho : ∀ q, q < zn (N 5) → q ≠ k → ∀ w, w < 21 → N' (42 + 21 * q + w) = N (42 + 21 * q + w)) (ht : zTu N' k) : zOk N' := by
  refine h.keep (fun w a _ _ _ b _ _ => hw w a b) (by rw [hw 6 (by omega) (by omega), hw 7 (by omega) (by omega)]; exact h.2.2.2.2.2.1) fun q hq => ?_
  by_cases e : q = k
  · subst e; exact ht
  · exact (h.tu hq).move (ho q hq e) (by rw [hw 3 (by omega) (by omega)]) (by rw [hw 4 (by omega) (by omega)])
theorem zOk_bath {N : Nat → Int32} (h : zOk N) {k : Nat} (hk : k < zn (N 5)) {v : Int32} (hv : v = -1 ∨ ∃ b, v = nI b ∧ b < zn (N 4)) : zOk (upd N (42 + 21 * k + 7) v) := by
  have h8 := h.k8 hk
  have t := h.tu hk
  have e : ∀ w, w ≠ 42 + 21 * k + 7 → upd N (42 + 21 * k + 7) v w = N w := fun w hw => pk_un hw
  have t' := t
  obtain ⟨-, -, -, -, t4, t5, t6, -⟩ := t'
  refine h.at hk (fun w a b => e w (by omega)) (fun q hq hqk w hw => e _ (by omega)) (t.part (by rw [e 3 (by omega)]) (by rw [e 4 (by omega)]) (fun w hw => e _ (by omega)) ?_ ?_ ?_ ?_ (t.pts fun w a b => e _ (by omega)))
  · rw [e _ (by omega)]; exact t4
  · rw [e _ (by omega)]; exact t5
  · rw [e _ (by omega)]; exact t6
  · rw [pk_us]; exact hv
theorem zOk_leaky {N : Nat → Int32} (h : zOk N) {k : Nat} (hk : k < zn (N 5)) {v : Int32} (hv : v = nI 0 ∨ v = nI 1) : zOk (upd N (42 + 21 * k + 6) v) := by
  have h8 := h.k8 hk
  have t := h.tu hk
  have e : ∀ w, w ≠ 42 + 21 * k + 6 → upd N (42 + 21 * k + 6) v w = N w := fun w hw => pk_un hw
  have t' := t
  obtain ⟨-, -, -, -, t4, t5, -, t7, -⟩ := t'
  refine h.at hk (fun w a b => e w (by omega)) (fun q hq hqk w hw => e _ (by omega)) (t.part (by rw [e 3 (by omega)]) (by rw [e 4 (by omega)]) (fun w hw => e _ (by omega)) ?_ ?_ ?_ ?_ (t.pts fun w a b => e _ (by omega)))
  · rw [e _ (by omega)]; exact t4
  · rw [e _ (by omega)]; exact t5
  · rw [pk_us]; exact hv
  · rw [e _ (by omega)]; exact t7
def aPour (N : Nat → Int32) (k : Nat) (a : Int32) : Nat → Int32 := upd (upd N (42 + 21 * k + 4) (N (42 + 21 * k + 4) + a)) 8 (N 8 + a)
theorem zOk_pour {N : Nat → Int32} (h : zOk N) {k : Nat} (hk : k < zn (N 5)) {a : Int32} (hv : zIn (N (42 + 21 * k + 4) + a) 0 999) : zOk (aPour N k a) := by
  have h8 := h.k8 hk
  have t := h.tu hk
  have e : ∀ w, w ≠ 42 + 21 * k + 4 → w ≠ 8 → aPour N k a w = N w := fun w hw hw2 => by rw [aPour, pk_un hw2, pk_un hw]
  have t' := t
  obtain ⟨-, -, -, -, -, t5, t6, t7, -⟩ := t'
  refine h.at hk (fun w a b => e w (by omega) b) (fun q hq hqk w hw => e _ (by omega) (by omega)) (t.part (by rw [e 3 (by omega) (by omega)]) (by rw [e 4 (by omega) (by omega)]) (fun w hw => e _ (by omega) (by omega)) ?_ ?_ ?_ ?_ (t.pts fun w a b => e _ (by omega) (by omega)))
  · rw [aPour, pk_un (by omega), pk_us]; exact hv
  · rw [e _ (by omega) (by omega)]; exact t5
  · rw [e _ (by omega) (by omega)]; exact t6
  · rw [e _ (by omega) (by omega)]; exact t7
theorem zOk_room {N : Nat → Int32} (h : zOk N) {v : Int32} (hv : zIn v (-20) 150) : zOk (upd N 0 v) := by
  have e : ∀ w, w ≠ 0 → upd N 0 v w = N w := fun w hw => pk_un hw
  have hh := h
  obtain ⟨h1, h2, h3, h4, h5, h6, h7, h8, h9⟩ := h
  refine ⟨by rw [e 3 (by omega)]; exact h1, by rw [e 4 (by omega)]; exact h2, by rw [e 5 (by omega)]; exact h3, by rw [e 1 (by omega)]; exact h4, by rw [pk_us]; exact hv, by rw [e 6 (by omega), e 7 (by omega), e 5 (by omega)]; exact h6, ?_, ?_, ?_⟩
  · intro s hs
    rw [e 3 (by omega)] at hs
    rw [e _ (by omega)]; exact h7 s hs
  · intro s hs
    rw [e 4 (by omega)] at hs
    rw [e _ (by omega)]; exact h8 s hs
  · intro k hk
    rw [e 5 (by omega)] at hk
    exact (hh.tu hk).move (fun w _ => e _ (by omega)) (by rw [e 3 (by omega)]) (by rw [e 4 (by omega)])
def aThumb (N : Nat → Int32) (k : Nat) (m : Int32) : Nat → Int32 := upd (upd N 6 (nI k)) 7 m
theorem zOk_thumb {N : Nat → Int32} (h : zOk N) {k : Nat} (hk : k < zn (N 5)) {m : Int32} (hm : zIn m 1 60) : zOk (aThumb N k m) := by
  have e : ∀ w, w ≠ 6 → w ≠ 7 → aThumb N k m w = N w := fun w h1 h2 => by rw [aThumb, pk_un h2, pk_un h1]
  refine h.keep (fun w _ _ a b _ _ _ => e w a b) (Or.inr ⟨⟨k, by rw [aThumb, pk_un (by omega), pk_us], hk⟩, by rw [aThumb, pk_us]; exact hm⟩) fun q hq => ?_
  exact (h.tu hq).move (fun w _ => e _ (by omega) (by omega)) (by rw [e 3 (by omega) (by omega)]) (by rw [e 4 (by omega) (by omega)])


