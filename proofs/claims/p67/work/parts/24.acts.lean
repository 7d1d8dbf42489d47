/-! ===== THE MODEL'S CHANGES ===== -/
theorem c3_0 {a b c : Prop} {da : Decidable a} {db : Decidable b} {dc : Decidable c} (ha : a) (hb : b) (hc : c) : c3 a b c = nI 0 := by
  rw [c3, if_neg (fun h => h ha), if_neg (fun h => h hb), if_neg (fun h => h hc)]
theorem zW.pp {g : Sh} {x n d b p s o : Nat} (h : zW g x n d b p s o) : p ≠ x ∧ n ≠ p := by
  obtain ⟨w1, -, -, -, -, -, -, -, -, -, ⟨w8, -⟩, -, -, -, w9, -⟩ := h
  refine ⟨?_, w9⟩
  rintro rfl
  omega

