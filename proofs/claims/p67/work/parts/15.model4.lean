theorem zTf.warm {N : Nat → Int32} {k : Nat} (h : zTf N k) : zTf (sWarm N k) k := h.up (by omega) (by omega)
theorem zTf.lose {N : Nat → Int32} {k : Nat} {v : Int32} (h : zTf N k) : zTf (sLose N k v) k := by
  obtain ⟨h8, ⟨s, hs, hs5⟩, hb⟩ := id h
  rw [sLose, hs, zn_nI (by omega)]
  exact (h.up (by omega) (by omega)).up (by omega) (by omega)
theorem zTf.leak {N : Nat → Int32} {k : Nat} (h : zTf N k) : zTf (sLeak N k) k := by
  rw [sLeak]
  split
  · exact h.lose
  · exact h

