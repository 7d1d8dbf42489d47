/-! ===== THE MODEL TAKES A NUMBER, DEGREES ===== -/
theorem zBad_12 {i : Ni} {x : Nat} {v w : Int32} : zBad i x v w x 12 = v := by rw [zBad, wA_s, pk_un (by decide), pk_us]
/-- a good state of the parser: the token at s -/
def zPs (i : Ni) (j : Nj) (x b L s : Nat) : Prop := i x 5 = nI L ∧ L ≤ 600 ∧ zByt (i b) ∧ s ≤ L ∧ zTok (i x) (j x) (i b) L s
abbrev okN (B : Nat → Int32) (L s : Nat) (l h : Int32) : Prop := sKind B L s = 2 ∧ l.toInt ≤ (sVal B L s).toInt ∧ (sVal B L s).toInt ≤ h.toInt
theorem sKind_lt (B : Nat → Int32) (L s : Nat) : sKind B L s < 4 := by
  rw [sKind]
  split
  · decide
  · split
    · decide
    · split <;> decide

