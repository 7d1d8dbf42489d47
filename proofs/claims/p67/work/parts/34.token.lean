/-! ===== THE TEXT'S TOKENS ===== -/
def kLet (v : Int32) : Bool := decide (97 ≤ v.toInt ∧ v.toInt ≤ 122)
def kDig (v : Int32) : Bool := decide (48 ≤ v.toInt ∧ v.toInt ≤ 57)
def kSp (v : Int32) : Bool := decide (v = nI 32 ∨ v = nI 10)
/-- bytes of a text as an array holds them -/
def zByt (B : Nat → Int32) : Prop := ∀ k, zIn (B k) (-128) 127
def uB (v : Int32) : Int32 := v &&& nI 255
theorem uB_all : ∀ n : Fin 256, (uB (nI n.val - nI 128)).toInt = if 128 ≤ n.val then (n.val : Int) - 128 else (n.val : Int) + 128 := by decide +kernel
theorem uB_in {v : Int32} (h : zIn v (-128) 127) : (uB v).toInt = if 0 ≤ v.toInt then v.toInt else v.toInt + 256 := by
  have e := add_in h (show zIn (nI 128) 128 128 from ⟨by decide, by decide⟩) (by decide) (by decide) (by decide) (by decide)
  rw [show (nI 128).toInt = 128 by decide] at e
  obtain ⟨h1, h2⟩ := h
  obtain ⟨m, em, m1, m2⟩ := (show zIn (v + nI 128) 0 255 from ⟨by omega, by omega⟩).ex (by decide)
  have e2 : v = nI m - nI 128 := by rw [← em, Int32.add_sub_cancel]
  have e3 := uB_all ⟨m, by omega⟩
  have e4 : (m : Int) = v.toInt + 128 := by rw [← e, em, nI_toInt (by omega)]
  simp only at e3
  rw [← e2] at e3
  rw [e3]
  split <;> split <;> omega
theorem kLet_u {v : Int32} (h : zIn v (-128) 127) : (97 ≤ (uB v).toInt ∧ (uB v).toInt ≤ 122) ↔ kLet v = true := by
  have := uB_in h
  obtain ⟨h1, h2⟩ := h
  rw [kLet, decide_eq_true_iff]
  split at this <;> omega
theorem kDig_u {v : Int32} (h : zIn v (-128) 127) : (48 ≤ (uB v).toInt ∧ (uB v).toInt ≤ 57) ↔ kDig v = true := by
  have := uB_in h
  obtain ⟨h1, h2⟩ := h
  rw [kDig, decide_eq_true_iff]
  split at this <;> omega
theorem uB_eq {v : Int32} (h : zIn v (-128) 127) {n : Nat} (hn : n < 128) : uB v = nI n ↔ v = nI n := by
  have := uB_in h
  obtain ⟨h1, h2⟩ := h
  constructor
  · intro e
    rw [e, nI_toInt (by omega)] at this
    refine Int32.toInt_inj.mp ?_
    rw [nI_toInt (by omega)]
    split at this <;> omega
  · intro e
    refine Int32.toInt_inj.mp ?_
    rw [this, e, nI_toInt (by omega), if_pos (by omega)]
theorem uB_ne {v : Int32} (h : zIn v (-128) 127) : ¬ uB v = -1 := by
  have := uB_in h
  obtain ⟨h1, h2⟩ := h
  intro e
  rw [e, show ((-1 : Int32)).toInt = -1 by decide] at this
  split at this <;> omega
theorem uB_l {v : Int32} (h : zIn v (-128) 127) (hk : kLet v = true ∨ kDig v = true) : uB v = v := by
  have := uB_in h
  have h0 : 0 ≤ v.toInt := by
    rcases hk with hk | hk
    · have := of_decide_eq_true hk; omega
    · have := of_decide_eq_true hk; omega
  rw [if_pos h0] at this
  exact Int32.toInt_inj.mp this
def sSkip (B : Nat → Int32) (L : Nat) : Nat → Nat → Nat
  | 0, p => p
  | q + 1, p => if p < L ∧ kSp (B p) = true then sSkip B L q (p + 1) else p
def sRun (c : Int32 → Bool) (B : Nat → Int32) (L : Nat) : Nat → Nat → Nat
  | 0, p => p
  | q + 1, p => if p < L ∧ c (B p) = true then sRun c B L q (p + 1) else p
def sKind (B : Nat → Int32) (L s : Nat) : Nat := if L ≤ s then 0 else if kLet (B s) = true then 1 else if kDig (B s) = true then 2 else 3
def sEnd (B : Nat → Int32) (L s : Nat) : Nat := if L ≤ s then s else if kLet (B s) = true then sRun kLet B L (L - s) s else if kDig (B s) = true then sRun kDig B L (L - s) s else s + 1
def sSp (B : Nat → Int32) (s : Nat) : Nat → Int64
  | 0 => 0
  | k + 1 => if k < 8 then 27 * sSp B s k + (B (s + k)).toInt64 - 97 + 1 else -1
def sNu (B : Nat → Int32) (s : Nat) : Nat → Int32
  | 0 => nI 0
  | k + 1 => if nI 999 < sNu B s k then nI 9999 else nI 10 * sNu B s k + B (s + k) - nI 48
def sVal (B : Nat → Int32) (L s : Nat) : Int32 := if sKind B L s = 2 then sNu B s (sEnd B L s - s) else if sKind B L s = 3 then uB (B s) else nI 0
def sLtr (B : Nat → Int32) (L s : Nat) : Nat := if sKind B L s = 1 then sEnd B L s - s else 0
def sSpl (B : Nat → Int32) (L s : Nat) : Int64 := if sKind B L s = 1 then sSp B s (sEnd B L s - s) else 0

