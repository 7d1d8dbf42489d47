/-! ===== settledShare, meanHeight ===== -/
theorem sStills_le (N : Nat → Int32) : ∀ k, sStills N k ≤ k
  | 0 => Nat.le_refl 0
  | k + 1 => by
    have := sStills_le N k
    rw [sStills]
    split <;> omega
theorem nf32_all : ∀ a : Fin 9, ∀ b : Fin 9, b.val ≠ 0 → (FP.fdiv (FP.i2f (nI a.val)) (FP.i2f (nI b.val))) &&& 0x7fffffff ≤ 0x7f800000 := by decide +kernel
theorem nf32 {a b : Nat} (ha : a ≤ 8) (hb : b ≤ 8) (h0 : b ≠ 0) : vf_n32 (FP.fdiv (FP.i2f (nI a)) (FP.i2f (nI b))) := nf32_all ⟨a, by omega⟩ ⟨b, by omega⟩ h0
def sShare (N : Nat → Int32) (m : Nat) : UInt32 := if m = 0 then FP.fconst0 else FP.fdiv (FP.i2f (nI (sStills N m))) (FP.i2f (nI m))
def sMean (N : Nat → Int32) (m : Nat) : UInt64 := if m = 0 then FP.dconst0 else FP.ddiv (FP.i2d (sHighs N m)) (FP.i2d (nI m))

