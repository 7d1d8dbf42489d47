/-! ===== THE MODEL LOADS ===== -/
theorem zW.wr {g : Sh} {x n d b p s o v : Nat} (h : zW g x n d b p s o) : zW (wR g x 3 v) x n d b p s o := by
  obtain ⟨w1, w2, w3, w4, w5, w6, w7, rest⟩ := h
  exact ⟨w1, by rw [gR_wR, if_pos rfl, if_neg (by decide)]; exact w2, by rw [gR_wR, if_pos rfl, if_neg (by decide)]; exact w3, by rw [gR_wR, if_pos rfl, if_neg (by decide)]; exact w4, by rw [gR_wR, if_pos rfl, if_neg (by decide)]; exact w5, by rw [gR_wR, if_pos rfl, if_neg (by decide)]; exact w6, by rw [gR_wR, if_pos rfl, if_neg (by decide)]; exact w7, rest⟩
def zLd (x : Nat) (i' i : Ni) (j' j : Nj) (c w : Int32) : Prop := i' x 0 = nI 0 ∧ i' x 5 = nI 0 ∧ i' x 32 = c ∧ i' x 33 = w ∧ i' x 31 = i x 31 ∧ i' x 35 = i x 35 ∧ (∀ m, m ≠ 10 → j' x m = j x m) ∧ ∀ q, q ≠ x → j' q = j q

