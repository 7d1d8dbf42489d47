/-! ===== missedPoints, settledShare, meanHeight ===== -/
theorem sMiss_e {N : Nat → Int32} {k p : Nat} (h : sTells N k (sHgt N k p) = nI 10 * sDeg N k p) : sMiss N k p = nI 0 := if_pos h
theorem sMiss_n {N : Nat → Int32} {k p : Nat} (h : ¬ sTells N k (sHgt N k p) = nI 10 * sDeg N k p) : sMiss N k p = nI 1 := if_neg h

