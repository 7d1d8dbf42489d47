/-! ===== THE MODEL'S ASKING METHODS WITH LOOPS ===== -/
def sIn (N : Nat → Int32) (b : Int32) : Nat → Int32
  | 0 => nI 0
  | k + 1 => sIn N b k + (if N (42 + 21 * k + 7) = b then nI 1 else nI 0)
def sHold (N : Nat → Int32) (s : Int32) : Nat → Int32
  | 0 => nI 0
  | k + 1 => sHold N s k + (if N (42 + 21 * k + 0) = s then N (42 + 21 * k + 4) else nI 0)
def sArg (ok : Nat → Bool) (lt : Nat → Nat → Bool) : Nat → Int32
  | 0 => -1
  | k + 1 => if ok k = true ∧ (sArg ok lt k = -1 ∨ lt k (zn (sArg ok lt k)) = true) then nI k else sArg ok lt k
theorem sArg_c {ok : Nat → Bool} {lt : Nat → Nat → Bool} {k : Nat} (hk : k < 100) : sArg ok lt k = -1 ∨ ∃ q, q < k ∧ ok q = true ∧ sArg ok lt k = nI q := by
  induction k with
  | zero => exact Or.inl rfl
  | succ k ih =>
    rw [sArg]
    split
    · rename_i h
      exact Or.inr ⟨k, by omega, h.1, rfl⟩
    · exact (ih (by omega)).imp_right fun ⟨q, a, b, c⟩ => ⟨q, by omega, b, c⟩
theorem sArg_y {ok : Nat → Bool} {lt : Nat → Nat → Bool} {p : Nat} (h1 : ok p = true) (h2 : sArg ok lt p = -1) : sArg ok lt (p + 1) = nI p := if_pos ⟨h1, Or.inl h2⟩
theorem sArg_y2 {ok : Nat → Bool} {lt : Nat → Nat → Bool} {p q : Nat} (h1 : ok p = true) (e : sArg ok lt p = nI q) (hq : q < 100) (h2 : lt p q = true) : sArg ok lt (p + 1) = nI p := if_pos ⟨h1, Or.inr (by rw [e, zn_nI (by omega)]; exact h2)⟩
theorem sArg_n1 {ok : Nat → Bool} {lt : Nat → Nat → Bool} {p : Nat} (h1 : ¬ ok p = true) : sArg ok lt (p + 1) = sArg ok lt p := if_neg (fun h => h1 h.1)
theorem nI_m1 {q : Nat} (h : q < 100) : ¬ nI q = -1 := fun e => by
  have := nI_toInt (n := q) (by omega)
  rw [e, show ((-1 : Int32)).toInt = -1 by decide] at this
  omega
theorem sArg_n2 {ok : Nat → Bool} {lt : Nat → Nat → Bool} {p q : Nat} (e : sArg ok lt p = nI q) (hq : q < 100) (h2 : ¬ lt p q = true) : sArg ok lt (p + 1) = sArg ok lt p :=
  if_neg (fun h => h.2.elim (fun h => nI_m1 hq (e.symm.trans h)) (fun h => h2 (by rw [e, zn_nI (by omega)] at h; exact h)))
def sOff (N : Nat → Int32) (k : Nat) : Int32 := jabs (sRead N k - N (42 + 21 * k + 5))
def sBest (N : Nat → Int32) : Nat → Int32 := sArg (fun k => decide (2 ≤ sMany N k)) (fun a b => decide (sOff N a < sOff N b))
def sTall (N : Nat → Int32) : Nat → Int32 := sArg (fun _ => true) (fun a b => decide (sHigh N b < sHigh N a))
def sWorst (N : Nat → Int32) : Nat → Int32 := sArg (fun k => decide (2 ≤ sMany N k)) (fun a b => decide (sFit N b (sMany N b) < sFit N a (sMany N a)))
def sMost (N : Nat → Int32) : Nat → Int32
  | 0 => -2147483648
  | k + 1 => if 2 ≤ sMany N k then jmax (sMost N k) (sRead N k) else sMost N k
def sLeast (N : Nat → Int32) : Nat → Int32
  | 0 => 2147483647
  | k + 1 => if 2 ≤ sMany N k then jmin (sLeast N k) (sRead N k) else sLeast N k
def sNew (N : Nat → Int32) (k : Nat) : Nat → Int32
  | 0 => nI 0
  | b + 1 => sNew N k b + (if sHas (sDeg N k) (N (30 + 3 * b + 2)) (sMany N k) = true then nI 0 else nI 1)
def sRest (N : Nat → Int32) (a : Int32) : Nat → Int32
  | 0 => a
  | k + 1 => sRest N a k - N (42 + 21 * k + 4)
def sMiss (N : Nat → Int32) (k p : Nat) : Int32 := if sTells N k (sHgt N k p) = nI 10 * sDeg N k p then nI 0 else nI 1
def sMissed (N : Nat → Int32) : Nat → Int32
  | 0 => nI 0
  | k + 1 => if 2 ≤ sMany N k then sMissed N k + sMiss N k (sBy (sDeg N k) (-1) (sMany N k)) + sMiss N k (sBy (sDeg N k) (nI 1) (sMany N k)) else sMissed N k
def sStills (N : Nat → Int32) : Nat → Nat
  | 0 => 0
  | k + 1 => sStills N k + (if N (42 + 21 * k + 5) = sAround N k then 1 else 0)
def sHighs (N : Nat → Int32) : Nat → Int32
  | 0 => nI 0
  | k + 1 => sHighs N k + sHigh N k
/-- the greatest temperature from n - 201 down -/
def sGreat (N : Nat → Int32) (k : Nat) : Nat → Int32
  | 0 => -1000
  | n + 1 => if N (42 + 21 * k + 3) < sFree N k (nI n - nI 200) then sGreat N k n else nI n - nI 200

