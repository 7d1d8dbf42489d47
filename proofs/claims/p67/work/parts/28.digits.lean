/-! ===== NUMBERS AS DIGITS; LETTERS OF A NAME ===== -/
theorem nI_mulN (a b : Nat) : nI a * nI b = nI (a * b) := (Int32.ofNat_mul a b).symm
theorem nI_div {a b : Nat} (ha : a < 2 ^ 31) (hb : b < 2 ^ 31) (h0 : 0 < b) : nI a / nI b = nI (a / b) := by
  have h1 : a / b < 2 ^ 31 := Nat.lt_of_le_of_lt (Nat.div_le_self a b) ha
  refine Int32.toInt_inj.mp ?_
  rw [Int32.toInt_div_of_ne_right _ _ (by intro h; have := congrArg Int32.toInt h; rw [nI_toInt hb, show ((-1 : Int32)).toInt = -1 by decide] at this; omega), nI_toInt ha, nI_toInt hb, nI_toInt h1]
  exact (Int.ofNat_tdiv a b).symm
theorem nI_rem {a b : Nat} (ha : a < 2 ^ 31) (hb : b < 2 ^ 31) (h0 : 0 < b) : nI a - nI a / nI b * nI b = nI (a % b) := by
  rw [nI_div ha hb h0, nI_mulN, nI_sub (Nat.div_mul_le_self a b)]
  congr 1
  have := Nat.div_add_mod a b
  rw [Nat.mul_comm] at this
  omega
/-- the last e digits of w, the greatest first -/
def dgs (w : Nat) : Nat → List Int32
  | 0 => []
  | e + 1 => nI (48 + w / 10 ^ e % 10) :: dgs w e
def ndg (w : Nat) : Nat := if w < 10 then 1 else if w < 100 then 2 else if w < 1000 then 3 else if w < 10000 then 4 else if w < 100000 then 5 else if w < 1000000 then 6 else if w < 10000000 then 7 else if w < 100000000 then 8 else if w < 1000000000 then 9 else 10
def dig (w : Nat) : List Int32 := dgs w (ndg w)
theorem ndg_of {w e : Nat} (he : e ≤ 9) (h1 : w < 10 ^ (e + 1) ∨ e = 9) (h2 : 10 ^ e ≤ w ∨ e = 0) : ndg w = e + 1 := by
  unfold ndg
  rcases (show e = 0 ∨ e = 1 ∨ e = 2 ∨ e = 3 ∨ e = 4 ∨ e = 5 ∨ e = 6 ∨ e = 7 ∨ e = 8 ∨ e = 9 by omega) with rfl | rfl | rfl | rfl | rfl | rfl | rfl | rfl | rfl | rfl <;> simp only [Nat.reducePow, Nat.reduceAdd] at h1 h2 <;> repeat (first | rw [if_pos (by omega)] | rw [if_neg (by omega)])
theorem dgs_len (w : Nat) : ∀ e, (dgs w e).length = e
  | 0 => rfl
  | e + 1 => by rw [dgs, List.length_cons, dgs_len w e]
theorem p10 {e : Nat} (h : e ≤ 9) : 10 ^ e ≤ 1000000000 ∧ 0 < 10 ^ e := ⟨Nat.pow_le_pow_right (by decide) h, Nat.pow_pos (by decide)⟩
theorem nI_dec (a : Nat) : nI (a + 1) + Int32.ofInt (-1) = nI a := by
  rw [show Int32.ofInt (-1) = - 1 by decide, ← Int32.sub_eq_add_neg]
  exact nI_pred a
def dsz (e : Nat) : Int32 := if e = 0 then nI 0 else nI (10 ^ (e - 1))
theorem dsz_s {e : Nat} (h : e ≤ 9) : nI (10 ^ e) / nI 10 = dsz e := by
  have := p10 h
  rw [nI_div (by omega) (by decide) (by decide), dsz]
  by_cases h0 : e = 0
  · subst h0; rfl
  · rw [if_neg h0]
    obtain ⟨m, rfl⟩ : ∃ m, e = m + 1 := ⟨e - 1, by omega⟩
    rw [Nat.pow_succ, Nat.mul_div_cancel _ (by decide)]
    rfl
/-- letter k of a name of L letters that spells w -/
def sLet (w L k : Nat) : Int32 := nI (96 + w / 27 ^ (L - 1 - k) % 27)

