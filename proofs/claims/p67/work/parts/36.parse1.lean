/-! ===== THE MODEL'S PARSER: faults, the text's start ===== -/
theorem sRun_le (c : Int32 → Bool) (B : Nat → Int32) (L : Nat) : ∀ q p, p ≤ L → sRun c B L q p ≤ L
  | 0, p, h => h
  | q + 1, p, h => by
    rw [sRun]
    split
    · rename_i h2; exact sRun_le c B L q (p + 1) (by omega)
    · exact h
theorem sEnd_le (B : Nat → Int32) (L s : Nat) (h : s ≤ L) : sEnd B L s ≤ L := by
  rw [sEnd]
  split
  · exact h
  · split
    · exact sRun_le _ _ _ _ _ h
    · split
      · exact sRun_le _ _ _ _ _ h
      · omega
/-- where the token behind that at s begins -/
def sNext (B : Nat → Int32) (L s : Nat) : Nat := sSkip B L (L - sEnd B L s) (sEnd B L s)
theorem sNext_le (B : Nat → Int32) (L s : Nat) (h : s ≤ L) : sNext B L s ≤ L := sSkip_le B L _ _ (sEnd_le B L s h)
/-- the model has told an error: code v at place w -/
def zBad (i : Ni) (x : Nat) (v w : Int32) : Ni := wA i x (upd (upd (i x) 12 v) 13 w)

