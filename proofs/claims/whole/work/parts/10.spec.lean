/-! ===== WHAT THE REFERENCE COMPUTES, over its row of 210 numbers ===== -/
def zn (v : Int32) : Nat := v.toNatClampNeg
theorem zn_nI {n : Nat} (h : n < 2 ^ 31) : zn (nI n) = n := nI_clamp h
def zM (g : Sh) (x r : Nat) : Prop := gT g x = 5 ∧ gR g x 3 = r ∧ gT g r = 11 ∧ gL g r = 210
/-- the free height of tube k at t -/
def sFree (N : Nat → Int32) (k : Nat) (t : Int32) : Int32 := N (42 + 21 * k + 4) + N (42 + 21 * k + 1) * N (10 + 4 * zn (N (42 + 21 * k + 0)) + 2) * (t + nI 300) / (nI 1000 * N (42 + 21 * k + 2))
def sHigh (N : Nat → Int32) (k : Nat) : Int32 := jmin (N (42 + 21 * k + 3)) (sFree N k (N (42 + 21 * k + 5)))
def sAround (N : Nat → Int32) (k : Nat) : Int32 := if N 6 = nI k then nI 370 else nI 10 * (if N (42 + 21 * k + 7) = -1 then N 0 else N (30 + 3 * zn (N (42 + 21 * k + 7)) + 2))

