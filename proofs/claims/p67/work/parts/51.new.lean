/-! ===== THE MODEL READS A NEW SPIRIT, A NEW BATH ===== -/
theorem zG.bb {x b r L t : Nat} {B N : Nat → Int32} {i0 i : Ni} {j0 j : Nj} (h : zG x b r L B N i0 j0 t i j) : i b = B := h.2.1
theorem zG.tok {x b r L t : Nat} {B N : Nat → Int32} {i0 i : Ni} {j0 j : Nj} (h : zG x b r L B N i0 j0 t i j) : zTok (i x) (j x) B L t := by
  obtain ⟨⟨-, -, -, -, h5⟩, hb, -⟩ := h
  rw [hb] at h5
  exact h5
theorem sLtr_le {L t : Nat} (B : Nat → Int32) (h : t ≤ L) : sLtr B L t ≤ L := by
  rw [sLtr]
  split
  · have := sEnd_le B L t h; omega
  · omega

