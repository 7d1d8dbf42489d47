/-! ===== NAMES FOUND ===== -/
def fSp (N B : Nat → Int32) (L t k : Nat) : Bool := decide (sKind B L t = 1 ∧ N (10 + 4 * k + 1) = nI (sLtr B L t) ∧ (N (10 + 4 * k + 0)).toInt64 = sSpl B L t)
def fBa (N B : Nat → Int32) (L t k : Nat) : Bool := decide (sKind B L t = 1 ∧ N (30 + 3 * k + 1) = nI (sLtr B L t) ∧ (N (30 + 3 * k + 0)).toInt64 = sSpl B L t)

