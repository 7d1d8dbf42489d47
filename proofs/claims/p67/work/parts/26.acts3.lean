/-! ===== THE MODEL: save, restore, undo ===== -/
theorem zW.ss {g : Sh} {x n d b p s o : Nat} (h : zW g x n d b p s o) : s ≠ x ∧ n ≠ s ∧ p ≠ s := by
  obtain ⟨w1, -, -, -, -, -, -, -, -, -, -, ⟨w8, -⟩, -, -, -, w9, -, -, -, -, w10, -⟩ := h
  refine ⟨?_, w9, w10⟩
  rintro rfl
  omega

