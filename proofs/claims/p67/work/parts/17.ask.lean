/-! ===== THE MODEL'S ASKING METHODS ===== -/
def zB (g : Sh) (i : Ni) (x n d b p s o : Nat) : Prop := zW g x n d b p s o ∧ gR g x 3 = n ∧ zOk (i n)
abbrev rd (N : Nat → Int32) (t : Int32) : Prop := tv (N 5) t ∧ 2 ≤ sMany N (zn t)
abbrev pv (N : Nat → Int32) (t q : Int32) : Prop := tv (N 5) t ∧ tv (N (42 + 21 * zn t + 8)) q

