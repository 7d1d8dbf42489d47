abbrev isSemi (B : Nat → Int32) (L t : Nat) : Prop := sKind B L t = 3 ∧ sVal B L t = nI 59

