/-! ===== THE MODEL'S OBJECT; what is refused ===== -/
/-- the model's cells: object x, net n, draft d, buffer b, past p, slots s, out o -/
def zW (g : Sh) (x n d b p s o : Nat) : Prop :=
  gT g x = 5 ∧ gR g x 1 = n ∧ gR g x 2 = d ∧ gR g x 4 = b ∧ gR g x 28 = p ∧ gR g x 30 = s ∧ gR g x 34 = o ∧
  (gT g n = 11 ∧ gL g n = 210) ∧ (gT g d = 11 ∧ gL g d = 210) ∧ (gT g b = 12 ∧ gL g b = 600) ∧ (gT g p = 11 ∧ gL g p = 1260) ∧ (gT g s = 11 ∧ gL g s = 420) ∧ (gT g o = 11 ∧ gL g o = 100) ∧
  n ≠ d ∧ n ≠ p ∧ n ≠ s ∧ n ≠ o ∧ d ≠ p ∧ d ≠ s ∧ d ≠ o ∧ p ≠ s ∧ p ≠ o ∧ s ≠ o
theorem zW.nx {g : Sh} {x n d b p s o : Nat} (h : zW g x n d b p s o) : n ≠ x := by
  obtain ⟨w1, -, -, -, -, -, -, ⟨w8, -⟩, -⟩ := h
  rintro rfl
  omega
theorem zW.m {g : Sh} {x n d b p s o : Nat} (h : zW g x n d b p s o) (h3 : gR g x 3 = n) : zM g x n := by
  obtain ⟨w1, -, -, -, -, -, -, ⟨w8, w9⟩, -⟩ := h
  exact ⟨w1, h3, w8, w9⟩
abbrev tv (n t : Int32) : Prop := 0 ≤ t.toInt ∧ t.toInt < (zn n : Int)
theorem tv_in {t n : Int32} {T : Nat} (hT : n = nI T) (h8 : T < 1000) : ((0 : Int64).toInt ≤ t.toInt64.toInt ∧ t.toInt64.toInt ≤ (n - nI 1).toInt64.toInt) ↔ tv n t := by
  subst hT
  have e : (nI T - nI 1).toInt = (T : Int) - 1 := by
    rw [Int32.toInt_sub, nI_toInt (by omega), nI_toInt (by omega), Int.bmod_eq_of_le] <;> omega
  rw [Int32.toInt_toInt64, Int32.toInt_toInt64, e, tv, zn_nI (by omega), show (0 : Int64).toInt = 0 by decide]
  omega
theorem tv_nat {n t : Int32} (h : tv n t) : t = nI (zn t) ∧ zn t < zn n := by
  obtain ⟨h1, h2⟩ := h
  have h3 := Int32.toInt_lt t
  have e : (zn t : Int) = t.toInt := by
    rw [zn, Int32.toNatClampNeg]
    exact Int.toNat_of_nonneg h1
  refine ⟨Int32.toInt_inj.mp ?_, by omega⟩
  rw [nI_toInt (by omega), e]
def c3 (a b c : Prop) [Decidable a] [Decidable b] [Decidable c] : Int32 := if ¬ a then nI 1 else if ¬ b then nI 2 else if ¬ c then nI 3 else nI 0
theorem wA_x {i : Ni} {x r : Nat} {f : Nat → Int32} (h : r ≠ x) : wA i x f r = i r := wA_n h

