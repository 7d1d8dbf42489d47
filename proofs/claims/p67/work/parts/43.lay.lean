/-! ===== A TUBE'S NUMBER; NEW SPIRITS, BATHS, TUBES ===== -/
def aSpirit (N : Nat → Int32) (S : Nat) (w l e : Int32) : Nat → Int32 := upd (upd (upd (upd N 3 (nI (S + 1))) (10 + 4 * S + 0) w) (10 + 4 * S + 1) l) (10 + 4 * S + 2) e
def aBath (N : Nat → Int32) (S : Nat) (w l e : Int32) : Nat → Int32 := upd (upd (upd (upd N 4 (nI (S + 1))) (30 + 3 * S + 0) w) (30 + 3 * S + 1) l) (30 + 3 * S + 2) e

