/-! ===== ROWS AS LISTS ===== -/
def fr (l : List Int32) : Nat → Int32 := fun k => l.getD k 0
def toL (N : Nat → Int32) : List Int32 := (List.range 210).map N
def zTl (N : Nat → Int32) : Prop := ∀ q, 210 ≤ q → N q = 0
theorem toL_at {N : Nat → Int32} {k : Nat} (hk : k < 210) : fr (toL N) k = N k := by
  rw [fr, toL, List.getD_eq_getElem?_getD, List.getElem?_map, List.getElem?_range hk]
  rfl
theorem fr_toL {N : Nat → Int32} (h : zTl N) : fr (toL N) = N := by
  funext k
  by_cases hk : k < 210
  · exact toL_at hk
  · rw [h k (by omega), fr, List.getD_eq_getElem?_getD, List.getElem?_eq_none (by rw [toL, List.length_map, List.length_range]; omega)]
    rfl
theorem zTl_fr (N : Nat → Int32) : zTl (fr (toL N)) := fun q hq => by
  rw [fr, List.getD_eq_getElem?_getD, List.getElem?_eq_none (by rw [toL, List.length_map, List.length_range]; omega)]
  rfl
theorem zTl.up {N : Nat → Int32} {k : Nat} {v : Int32} (h : zTl N) (hk : k < 210) : zTl (upd N k v) := fun q hq => by
  rw [pk_un (by omega)]; exact h q hq
theorem zTl.lose {N : Nat → Int32} {k : Nat} {v : Int32} (h : zTl N) (hk : k < 8) (hs : zn (N (42 + 21 * k + 0)) < 5) : zTl (sLose N k v) := (h.up (by omega)).up (by omega)
theorem zTl.warm {N : Nat → Int32} {k : Nat} (h : zTl N) (hk : k < 8) : zTl (sWarm N k) ∧ sWarm N k (42 + 21 * k + 0) = N (42 + 21 * k + 0) := ⟨h.up (by omega), pk_un (by omega)⟩
theorem zTl.leak {N : Nat → Int32} {k : Nat} (h : zTl N) (hk : k < 8) (hs : zn (N (42 + 21 * k + 0)) < 5) : zTl (sLeak N k) ∧ sLeak N k (42 + 21 * k + 0) = N (42 + 21 * k + 0) := by
  rw [sLeak]
  split
  · exact ⟨h.lose hk hs, by rw [sLose, pk_un (by omega), pk_un (by omega)]⟩
  · exact ⟨h, rfl⟩
theorem zTl.tube {N : Nat → Int32} {k : Nat} (h : zTl N) (hO : zOk N) (hk : k < zn (N 5)) : zTl (sTube N k) := by
  have h8 := hO.k8 hk
  obtain ⟨s, hs, hs3, hs5⟩ := hO.S hk
  have hz : zn (N (42 + 21 * k + 0)) < 5 := by rw [hs, zn_nI (by omega)]; omega
  obtain ⟨w1, w2⟩ := h.warm h8
  obtain ⟨l1, l2⟩ := w1.leak h8 (by rw [w2]; exact hz)
  have l3 : zTl (sLose (sLeak (sWarm N k) k) k (sSpilt (sLeak (sWarm N k) k) k)) := l1.lose h8 (by rw [l2, w2]; exact hz)
  refine zTl.up ?_ (by decide)
  rw [sFor, sThumb]
  split
  · exact (l3.up (by decide)).up (by decide)
  · exact l3
def lTube (l : List Int32) (k : Nat) : List Int32 := toL (sTube (fr l) k)
def lTubes (l : List Int32) : Nat → List Int32
  | 0 => l
  | k + 1 => lTube (lTubes l k) k
def lOne (l : List Int32) : List Int32 := lTubes (toL (upd (fr l) 2 (fr l 2 + nI 1))) (zn (fr l 5))
def lWalk (l : List Int32) : Nat → List Int32
  | 0 => l
  | n + 1 => lOne (lWalk l n)
theorem lTubes_e {l : List Int32} (h : zTl (fr l)) (hO : zOk (fr l)) : ∀ p, p ≤ zn (fr l 5) → fr (lTubes l p) = sTubes (fr l) p ∧ zTl (sTubes (fr l) p)
  | 0, _ => ⟨rfl, h⟩
  | p + 1, hp => by
    obtain ⟨e, t⟩ := lTubes_e h hO p (by omega)
    obtain ⟨o1, o2⟩ := sTubes_ok hO (p := p) (by omega)
    have t2 := t.tube o1 (k := p) (by rw [o2]; omega)
    refine ⟨?_, t2⟩
    rw [lTubes, lTube, e, fr_toL t2]
    rfl
theorem lOne_e {l : List Int32} (h : zTl (fr l)) (hO : zOk (fr l)) : fr (lOne l) = sOne (fr l) ∧ zTl (sOne (fr l)) := by
  have t1 : zTl (upd (fr l) 2 (fr l 2 + nI 1)) := h.up (by decide)
  have e1 := fr_toL t1
  have o1 : zOk (upd (fr l) 2 (fr l 2 + nI 1)) := hO.up (Or.inl rfl)
  obtain ⟨a, b⟩ := lTubes_e (l := toL (upd (fr l) 2 (fr l 2 + nI 1))) (by rw [e1]; exact t1) (by rw [e1]; exact o1) (zn (fr l 5)) (by rw [e1, pk_un (by decide)]; exact Nat.le_refl _)
  rw [e1] at a b
  exact ⟨a, b⟩
theorem lWalk_e {l : List Int32} (h : zTl (fr l)) (hO : zOk (fr l)) : ∀ n, fr (lWalk l n) = sWalk (fr l) n ∧ zTl (sWalk (fr l) n)
  | 0 => ⟨rfl, h⟩
  | n + 1 => by
    obtain ⟨e, t⟩ := lWalk_e h hO n
    have o := (sWalk_ok hO n).1
    obtain ⟨a, b⟩ := lOne_e (l := lWalk l n) (by rw [e]; exact t) (by rw [e]; exact o)
    rw [e] at a b
    exact ⟨a, b⟩


