def aTube (N : Nat → Int32) (T : Nat) (s b o l f : Int32) : Nat → Int32 :=
  upd (upd (upd (upd (upd (upd (upd (upd (upd N 5 (nI (T + 1))) (42 + 21 * T + 0) s) (42 + 21 * T + 1) b) (42 + 21 * T + 2) o) (42 + 21 * T + 3) l) (42 + 21 * T + 4) f) (42 + 21 * T + 5) (nI 10 * N 0)) (42 + 21 * T + 7) (-1)) 8 (N 8 + f)

