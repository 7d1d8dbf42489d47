/-! ===== THE PRINTED LINE ===== -/
theorem zIn.ex {v : Int32} {a b : Int} (h : zIn v a b) (h0 : 0 ≤ a) : ∃ m : Nat, v = nI m ∧ (m : Int) ≤ b ∧ a ≤ (m : Int) := by
  have h1 := h.nat h0
  obtain ⟨h2, h3⟩ := h
  exact ⟨v.toInt.toNat, h1, by omega, by omega⟩
theorem zIn_nI {m : Nat} {a b : Int} (h1 : a ≤ (m : Int)) (h2 : (m : Int) ≤ b) (hm : m < 2 ^ 31) : zIn (nI m) a b := by
  rw [zIn, nI_toInt hm]; exact ⟨h1, h2⟩
theorem sFree_in {N : Nat → Int32} (h : zOk N) {k : Nat} (hk : k < zn (N 5)) {t : Int32} (ht : zIn t (-200) 1500) : ∃ F : Nat, sFree N k t = nI F ∧ F ≤ 4000000 := by
  obtain ⟨s, hs, hs3, h5⟩ := h.S hk
  obtain ⟨-, b1, b2, -, b4, -⟩ := h.tu hk
  have b3 := h.2.2.2.2.2.2.1 s hs3
  obtain ⟨a, ea, ha, -⟩ := b1.ex (by decide)
  obtain ⟨b, eb, hb, hb1⟩ := b2.ex (by decide)
  obtain ⟨e, ee, he, -⟩ := b3.ex (by decide)
  obtain ⟨f, ef, hf, -⟩ := b4.ex (by decide)
  have ht2 : (t + nI 300).toInt = t.toInt + 300 := by
    rw [add_in ht (show zIn (nI 300) 300 300 from ⟨by decide, by decide⟩) (by decide) (by decide) (by decide) (by decide), show (nI 300).toInt = 300 by decide]
  obtain ⟨c, ec, hc, -⟩ := (show zIn (t + nI 300) 100 1800 from by obtain ⟨t1, t2⟩ := ht; exact ⟨by omega, by omega⟩).ex (by decide)
  have m1 : a * e ≤ 2000 := Nat.le_trans (Nat.mul_le_mul (show a ≤ 50 by omega) (show e ≤ 40 by omega)) (by decide)
  have m2 : a * e * c ≤ 3600000 := Nat.le_trans (Nat.mul_le_mul m1 (show c ≤ 1800 by omega)) (by decide)
  refine ⟨f + a * e * c / (1000 * b), ?_, ?_⟩
  · rw [sFree, hs, zn_nI (by omega), ea, ee, eb, ef, ec, nI_mulN, nI_mulN, nI_mulN, nI_div (by omega) (by omega) (by omega), nI_add]
  · have := Nat.div_le_self (a * e * c) (1000 * b)
    omega
theorem sHigh_in {N : Nat → Int32} (h : zOk N) {k : Nat} (hk : k < zn (N 5)) : ∃ H : Nat, sHigh N k = nI H ∧ H ≤ 999 := by
  obtain ⟨-, -, -, b3, -, b5, -⟩ := h.tu hk
  obtain ⟨F, eF, hF⟩ := sFree_in h hk b5
  obtain ⟨a, ea, ha, -⟩ := b3.ex (by decide)
  rw [sHigh, eF, ea, jmin]
  split
  · rename_i hlt
    have := (nI_ltI (by omega) (by omega)).mp hlt
    exact ⟨F, rfl, by omega⟩
  · exact ⟨a, rfl, by omega⟩
theorem mul_in {a b : Int32} {A B : Nat} (ha : zIn a (-(A : Int)) A) (hb : zIn b (-(B : Int)) B) (h : A * B < 2 ^ 31) : (a * b).toInt = a.toInt * b.toInt ∧ zIn (a * b) (-((A * B : Nat) : Int)) ((A * B : Nat) : Int) := by
  obtain ⟨a1, a2⟩ := ha
  obtain ⟨b1, b2⟩ := hb
  have h1 : (a.toInt * b.toInt).natAbs ≤ A * B := by
    rw [Int.natAbs_mul]
    exact Nat.mul_le_mul (by omega) (by omega)
  have e : (a * b).toInt = a.toInt * b.toInt := by
    rw [Int32.toInt_mul, Int.bmod_eq_of_le] <;> omega
  refine ⟨e, ?_⟩
  rw [zIn, e]
  omega
theorem sTells_in {N : Nat → Int32} (h : zOk N) {k : Nat} (hk : k < zn (N 5)) (h2 : 2 ≤ sMany N k) {hi : Int32} (hh : zIn hi 0 999) : zIn (sTells N k hi) (-2000000) 2000000 := by
  obtain ⟨h3, h4⟩ := h.pts hk
  have l1 := sBy_lt (sDeg N k) (nI 1) (m := sMany N k) (by omega)
  have l2 := sBy_lt (sDeg N k) (-1) (m := sMany N k) (by omega)
  have hz := h.span hk h2
  obtain ⟨d1, g1⟩ := h3 _ l1
  obtain ⟨d2, g2⟩ := h3 _ l2
  rw [sTells]
  generalize sBy (sDeg N k) (nI 1) (sMany N k) = p at *
  generalize sBy (sDeg N k) (-1) (sMany N k) = q at *
  have e1 := sub_in d2 d1 (by decide) (by decide) (by decide) (by decide)
  have e2 := sub_in hh g1 (by decide) (by decide) (by decide) (by decide)
  have e3 := mul10 d1
  obtain ⟨d11, d12⟩ := d1
  obtain ⟨d21, d22⟩ := d2
  obtain ⟨g11, g12⟩ := g1
  obtain ⟨hh1, hh2⟩ := hh
  have r1 := mul_in (A := 10) (B := 170) (show zIn (nI 10) (-((10 : Nat) : Int)) ((10 : Nat) : Int) from ⟨by decide, by decide⟩) (show zIn (sDeg N k q - sDeg N k p) (-((170 : Nat) : Int)) ((170 : Nat) : Int) from ⟨by omega, by omega⟩) (by decide)
  have r2 := mul_in (A := 10 * 170) (B := 999) r1.2 (show zIn (hi - sHgt N k p) (-((999 : Nat) : Int)) ((999 : Nat) : Int) from ⟨by omega, by omega⟩) (by decide)
  generalize nI 10 * (sDeg N k q - sDeg N k p) * (hi - sHgt N k p) = A at *
  generalize sHgt N k q - sHgt N k p = B at *
  have r3 : zIn (A / B) (-1698300) 1698300 := by
    obtain ⟨r21, r22⟩ := r2.2
    have hA : A.toInt ≠ -2147483648 := by omega
    have e4 : (A / B).toInt = A.toInt.tdiv B.toInt := Int32.toInt_div_of_ne_left _ _ (by intro hc; rw [hc] at hA; exact hA (by decide))
    have e5 : (A.toInt.tdiv B.toInt).natAbs ≤ A.toInt.natAbs := by
      rw [Int.natAbs_tdiv]
      exact Nat.div_le_self _ _
    rw [zIn, e4]
    omega
  obtain ⟨f1, f2⟩ := e3.1
  obtain ⟨f3, f4⟩ := r3
  have e6 : (nI 10 * sDeg N k p + A / B).toInt = (nI 10 * sDeg N k p).toInt + (A / B).toInt := by
    rw [Int32.toInt_add, Int.bmod_eq_of_le] <;> omega
  rw [zIn, e6]
  omega
/-- the names of a row -/
def zNm (N : Nat → Int32) : Prop := (∀ s, s < zn (N 3) → ∃ L w, N (10 + 4 * s + 1) = nI L ∧ 1 ≤ L ∧ L ≤ 4 ∧ N (10 + 4 * s + 0) = nI w ∧ w < 2 ^ 31) ∧ ∀ s, s < zn (N 4) → ∃ L w, N (30 + 3 * s + 1) = nI L ∧ 1 ≤ L ∧ L ≤ 4 ∧ N (30 + 3 * s + 0) = nI w ∧ w < 2 ^ 31
def sNam (w L : Nat) : Nat → List Int32
  | 0 => []
  | k + 1 => sNam w L k ++ [sLet w L k]
theorem sNam_len (w L : Nat) : ∀ k, (sNam w L k).length = k
  | 0 => rfl
  | k + 1 => by rw [sNam, List.length_append, sNam_len w L k]; rfl
def pNum (N : Nat → Int32) (k : Nat) : List Int32 := if 2 ≤ sMany N k then [nI 32] ++ [nI 64] ++ (if sRead N k < 0 then [nI 45] else []) ++ dig (sRead N k).toInt.natAbs else []
def pTx (N : Nat → Int32) (k : Nat) : List Int32 :=
  sNam (zn (N (10 + 4 * zn (N (42 + 21 * k + 0)) + 0))) (zn (N (10 + 4 * zn (N (42 + 21 * k + 0)) + 1))) (zn (N (10 + 4 * zn (N (42 + 21 * k + 0)) + 1))) ++ [nI 32] ++ dig (zn (sHigh N k)) ++ [nI 47] ++ dig (zn (N (42 + 21 * k + 3))) ++ pNum N k ++ (if N 6 = nI k then [nI 42] else [])
theorem ndg_le (w : Nat) : ndg w ≤ 10 := by
  unfold ndg
  repeat' split
  all_goals decide
theorem dig_len (w : Nat) : (dig w).length ≤ 10 := by rw [dig, dgs_len]; exact ndg_le w
def zP (x o : Nat) (i0 i' : Ni) (l : List Int32) : Prop := zL (i' x) (i' o) l ∧ (∀ m, m ≠ 35 → i' x m = i0 x m) ∧ ∀ r, r ≠ x → r ≠ o → i' r = i0 r
section CP
variable {E : Ev} {g : Sh} {i i0 : Ni} {j : Nj} {K : Kp} {x n d b p s o : Nat} {l : List Int32}
end CP
theorem jabs_nat {v : Int32} (h : zIn v (-2000000) 2000000) : jabs v = nI v.toInt.natAbs ∧ v.toInt.natAbs < 2 ^ 31 := by
  obtain ⟨h1, h2⟩ := h
  refine ⟨Int32.toInt_inj.mp ?_, by omega⟩
  rw [nI_toInt (by omega), jabs]
  split
  · rename_i h3
    rw [Int32.le_iff_toInt_le, show (0 : Int32).toInt = 0 by decide] at h3
    omega
  · rename_i h3
    rw [Int32.le_iff_toInt_le, show (0 : Int32).toInt = 0 by decide] at h3
    rw [Int32.toInt_sub, show (0 : Int32).toInt = 0 by decide, Int.bmod_eq_of_le] <;> omega


