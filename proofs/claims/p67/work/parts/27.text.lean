/-! ===== THE MODEL'S BUFFER AND ITS PRINTED TEXT ===== -/
theorem zW.bb {g : Sh} {x n d b p s o : Nat} (h : zW g x n d b p s o) : b ≠ x ∧ gT g b = 12 ∧ gL g b = 600 := by
  obtain ⟨w1, -, -, -, -, -, -, -, -, ⟨w8, w9⟩, -⟩ := h
  refine ⟨?_, w8, w9⟩
  rintro rfl
  omega
theorem zW.oo {g : Sh} {x n d b p s o : Nat} (h : zW g x n d b p s o) : o ≠ x ∧ n ≠ o ∧ gR g x 34 = o ∧ gT g o = 11 ∧ gL g o = 100 := by
  obtain ⟨w1, -, -, -, -, -, w7, -, -, -, -, -, ⟨w8, w9⟩, -, -, -, w10, -⟩ := h
  refine ⟨?_, w10, w7, w8, w9⟩
  rintro rfl
  omega
/-- the byte of v above w bits, as it is stored -/
def sByt (v : Int32) (w : Nat) : Int32 := ((v >>> (nI w &&& 31)).toInt8.toInt32).toInt8.toInt32
def sStore (P : Nat → Int32) (f : Nat) (v : Int32) : Nat → Int32 := upd (upd (upd (upd P f (sByt v 24)) (f + 1) (sByt v 16)) (f + 2) (sByt v 8)) (f + 3) (sByt v 0)
theorem st_dec (q : Nat) : nI (8 * (q + 1)) - nI 8 + Int32.ofInt (-8) = nI (8 * q) - nI 8 := by
  have h : nI (8 * (q + 1)) = nI (8 * q) + nI 8 := by rw [nI_add, Nat.mul_succ]
  rw [h, Int32.add_sub_cancel, Int32.sub_eq_add_neg, show Int32.ofInt (-8) = - nI 8 by decide]
theorem st_sh (q : Nat) : nI (8 * (q + 1)) - nI 8 = nI (8 * q) := by
  rw [nI_sub (by omega), show 8 * (q + 1) - 8 = 8 * q by omega]
-- BEGIN
theorem st_d2 (q : Nat) : nI (8 * q) + Int32.ofInt (-8) = nI (8 * q) - nI 8 := by
  rw [Int32.sub_eq_add_neg, show Int32.ofInt (-8) = - nI 8 by decide]
def sSt (P : Nat → Int32) (e : Nat) (v : Int32) : Nat → Nat → Int32
  | 0 => P
  | q + 1 => sSt (upd P e (sByt v (8 * q))) (e + 1) v q
def sApp (P : Nat → Int32) (f : Nat) (a0 a1 a2 a3 a4 : Int32) : Nat → Int32 := sStore (sStore (sStore (sStore (sStore P f a0) (f + 4) a1) (f + 8) a2) (f + 12) a3) (f + 16) a4
/-- the text printed: out's first numbers are l -/
def zL (f h : Nat → Int32) (l : List Int32) : Prop := f 35 = nI l.length ∧ l.length ≤ 100 ∧ ∀ k, k < l.length → h k = l.getD k 0
theorem zL.put {f h : Nat → Int32} {l : List Int32} {c : Int32} (hl : zL f h l) (h1 : l.length < 100) : zL (upd f 35 (nI (l.length + 1))) (upd h l.length c) (l ++ [c]) := by
  obtain ⟨a, b, e⟩ := hl
  refine ⟨by rw [pk_us, List.length_append]; rfl, by rw [List.length_append]; exact h1, fun k hk => ?_⟩
  rw [List.length_append] at hk
  by_cases h2 : k = l.length
  · subst h2
    rw [pk_us]
    simp
  · have h3 : k < l.length := by
      have : ([c] : List Int32).length = 1 := rfl
      omega
    rw [pk_un h2, e k h3]
    simp [List.getD, List.getElem?_append_left h3]

