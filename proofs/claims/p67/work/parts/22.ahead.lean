/-! ===== THE MODEL'S FORECASTS ===== -/
theorem nn_nat {v : Int32} {b : Nat} (h : 0 ≤ v.toInt ∧ v.toInt ≤ (b : Int)) : v = nI (zn v) ∧ zn v ≤ b := by
  obtain ⟨h1, h2⟩ := h
  have h3 := Int32.toInt_lt v
  have e : (zn v : Int) = v.toInt := by
    rw [zn, Int32.toNatClampNeg]
    exact Int.toNat_of_nonneg h1
  refine ⟨Int32.toInt_inj.mp ?_, by omega⟩
  rw [nI_toInt (by omega), e]
theorem zW.dr {g : Sh} {x n d b p s o : Nat} (h : zW g x n d b p s o) : zM (wR g x 3 d) x d := by
  obtain ⟨w1, -, -, -, -, -, -, -, ⟨w10, w11⟩, -⟩ := h
  exact ⟨w1, by rw [gR_wR, if_pos rfl, if_pos rfl], w10, w11⟩
theorem zW.d1 {g : Sh} {x n d b p s o v : Nat} (h : zW g x n d b p s o) : gR (wR g x 3 v) x 1 = n := by
  rw [gR_wR, if_pos rfl, if_neg (by decide)]
  exact h.2.1
theorem zW.bk {g : Sh} {x n d b p s o : Nat} (h : zW g x n d b p s o) (hR : gR g x 3 = n) : wR (wR g x 3 d) x 3 n = g := by
  rw [wR_wR]
  subst hR
  exact wR_self
theorem zW.dx {g : Sh} {x n d b p s o : Nat} (h : zW g x n d b p s o) : d ≠ x := by
  obtain ⟨w1, -, -, -, -, -, -, -, ⟨w8, -⟩, -⟩ := h
  rintro rfl
  omega
theorem sWalk_f {N : Nat → Int32} (h : zOk N) {k : Nat} (hk : k < zn (N 5)) (q : Nat) : k < zn (sWalk N q 5) ∧ zTf (sWalk N q) k := by
  have h2 := sWalk_ok h q
  have h3 : k < zn (sWalk N q 5) := by rw [h2.2]; exact hk
  exact ⟨h3, h2.1.f h3⟩
def sUntil (f : Nat → Bool) (p : Nat) : Nat → Int32
  | 0 => -1
  | q + 1 => if f p = true then nI p else sUntil f (p + 1) q
def fStill (N : Nat → Int32) (k p : Nat) : Bool := decide (sWalk N p (42 + 21 * k + 5) = sAround (sWalk N p) k)
def fSpill (N : Nat → Int32) (k p : Nat) : Bool := decide ((sWalk N p 9 >>> (nI k &&& 31)) &&& nI 1 = nI 1)
def fHigh (N : Nat → Int32) (k : Nat) (h : Int32) (p : Nat) : Bool := decide (h ≤ sHigh (sWalk N p) k)
theorem sUntil_y {f : Nat → Bool} {p q : Nat} (h : f p = true) : sUntil f p (q + 1) = nI p := if_pos h
theorem sUntil_n {f : Nat → Bool} {p q : Nat} (h : ¬ f p = true) : sUntil f p (q + 1) = sUntil f (p + 1) q := if_neg h
-- BEGIN
theorem sTube_3 {N : Nat → Int32} (h : zOk N) {k : Nat} (hk : k < zn (N 5)) : sTube N k 3 = N 3 := by
  obtain ⟨s, hs, hs3, h5⟩ := h.S hk
  exact sTube_n hs h5 (by omega) (by omega) (by omega) (by omega) (by omega) (by omega)
theorem sTubes_3 {N : Nat → Int32} (h : zOk N) {p : Nat} (hp : p ≤ zn (N 5)) : sTubes N p 3 = N 3 := by
  induction p with
  | zero => rfl
  | succ p ih =>
    obtain ⟨i1, i2⟩ := sTubes_ok h (p := p) (by omega)
    exact (sTube_3 i1 (by rw [i2]; omega)).trans (ih (by omega))
theorem sWalk_3 {N : Nat → Int32} (h : zOk N) (q : Nat) : sWalk N q 3 = N 3 := by
  induction q with
  | zero => rfl
  | succ q ih =>
    have h1 := (sWalk_ok h q).1
    have h2 : zOk (upd (sWalk N q) 2 (sWalk N q 2 + nI 1)) := h1.up (Or.inl rfl)
    have e5 : upd (sWalk N q) 2 (sWalk N q 2 + nI 1) 5 = sWalk N q 5 := pk_un (by omega)
    rw [sWalk, sOne, sTubes_3 h2 (by rw [e5]; exact Nat.le_refl _), pk_un (by omega), ih]

