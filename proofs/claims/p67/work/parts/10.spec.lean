/-! ===== WHAT THE REFERENCE COMPUTES, over its row of 210 numbers ===== -/
def zn (v : Int32) : Nat := v.toNatClampNeg
theorem zn_nI {n : Nat} (h : n < 2 ^ 31) : zn (nI n) = n := nI_clamp h
def zM (g : Sh) (x r : Nat) : Prop := gT g x = 5 ∧ gR g x 3 = r ∧ gT g r = 11 ∧ gL g r = 210
/-- the free height of tube k at t -/
def sFree (N : Nat → Int32) (k : Nat) (t : Int32) : Int32 := N (42 + 21 * k + 4) + N (42 + 21 * k + 1) * N (10 + 4 * zn (N (42 + 21 * k + 0)) + 2) * (t + nI 300) / (nI 1000 * N (42 + 21 * k + 2))
def sHigh (N : Nat → Int32) (k : Nat) : Int32 := jmin (N (42 + 21 * k + 3)) (sFree N k (N (42 + 21 * k + 5)))
def sAround (N : Nat → Int32) (k : Nat) : Int32 := if N 6 = nI k then nI 370 else nI 10 * (if N (42 + 21 * k + 7) = -1 then N 0 else N (30 + 3 * zn (N (42 + 21 * k + 7)) + 2))
/-! ===== ONE TUBE OF A ROW ===== -/
theorem nI_sub {a b : Nat} (h : b ≤ a) : nI a - nI b = nI (a - b) := by
  have h1 : nI (a - b) + nI b = nI a := by rw [nI_add, Nat.sub_add_cancel h]
  rw [← h1, Int32.add_sub_cancel]
theorem nI_inc (p : Nat) : nI p + Int32.ofInt 1 = nI (p + 1) := nI_1 p
def zIn (v : Int32) (a b : Int) : Prop := a ≤ v.toInt ∧ v.toInt ≤ b
def sDeg (N : Nat → Int32) (k p : Nat) : Int32 := N (42 + 21 * k + (9 + 2 * p))
def sHgt (N : Nat → Int32) (k p : Nat) : Int32 := N (42 + 21 * k + (9 + 2 * p + 1))
def sMany (N : Nat → Int32) (k : Nat) : Nat := zn (N (42 + 21 * k + 8))
/-- what the free height needs -/
def zTf (N : Nat → Int32) (k : Nat) : Prop := k < 8 ∧ (∃ s, N (42 + 21 * k + 0) = nI s ∧ s < 5) ∧ ¬ nI 1000 * N (42 + 21 * k + 2) = 0
/-- a tube of a row as every call keeps it -/
def zTu (N : Nat → Int32) (k : Nat) : Prop :=
  (∃ s, N (42 + 21 * k + 0) = nI s ∧ s < zn (N 3)) ∧ zIn (N (42 + 21 * k + 1)) 1 50 ∧ zIn (N (42 + 21 * k + 2)) 1 9 ∧ zIn (N (42 + 21 * k + 3)) 10 999 ∧ zIn (N (42 + 21 * k + 4)) 0 999 ∧ zIn (N (42 + 21 * k + 5)) (-200) 1500 ∧
  (N (42 + 21 * k + 6) = nI 0 ∨ N (42 + 21 * k + 6) = nI 1) ∧ (N (42 + 21 * k + 7) = -1 ∨ ∃ b, N (42 + 21 * k + 7) = nI b ∧ b < zn (N 4)) ∧
  ∃ m, N (42 + 21 * k + 8) = nI m ∧ m ≤ 6 ∧ (∀ p, p < m → zIn (sDeg N k p) (-20) 150 ∧ zIn (sHgt N k p) 0 999) ∧ ∀ p q, p < m → q < m → (sDeg N k p = sDeg N k q ∨ sHgt N k p = sHgt N k q) → p = q
/-- a row as every call keeps it -/
def zOk (N : Nat → Int32) : Prop :=
  (∃ S, N 3 = nI S ∧ S ≤ 5) ∧ (∃ B, N 4 = nI B ∧ B ≤ 4) ∧ (∃ T, N 5 = nI T ∧ T ≤ 8) ∧ zIn (N 1) 1 20 ∧ zIn (N 0) (-20) 150 ∧ (N 6 = -1 ∨ (∃ k, N 6 = nI k ∧ k < zn (N 5)) ∧ zIn (N 7) 1 60) ∧
  (∀ s, s < zn (N 3) → zIn (N (10 + 4 * s + 2)) 1 40) ∧ (∀ b, b < zn (N 4) → zIn (N (30 + 3 * b + 2)) (-20) 150) ∧ ∀ k, k < zn (N 5) → zTu N k
theorem zIn.ne {v : Int32} {a b : Int} (h : zIn v a b) (c : Int32) (hc : c.toInt < a ∨ b < c.toInt) : ¬ v = c := by
  rintro rfl
  obtain ⟨h1, h2⟩ := h
  omega
/-- a number of a small range is a count -/
theorem zIn.nat {v : Int32} {a b : Int} (h : zIn v a b) (h0 : 0 ≤ a) : v = nI v.toInt.toNat := by
  obtain ⟨h1, h2⟩ := h
  have h3 := Int32.toInt_lt v
  refine Int32.toInt_inj.mp ?_
  rw [nI_toInt (by omega)]
  omega
theorem bore_ne {v : Int32} (h : zIn v 1 9) : ¬ nI 1000 * v = 0 := by
  have h1 := h.nat (by decide)
  obtain ⟨h2, h3⟩ := h
  have h4 : ∃ n : Nat, v.toInt.toNat = n ∧ 1 ≤ n ∧ n ≤ 9 := ⟨_, rfl, by omega, by omega⟩
  obtain ⟨n, h5, h6, h7⟩ := h4
  rw [h1, h5]
  have : ∀ n : Fin 10, 1 ≤ n.val → ¬ nI 1000 * nI n.val = 0 := by decide +kernel
  exact this ⟨n, by omega⟩ h6
theorem zOk.f {N : Nat → Int32} (h : zOk N) {k : Nat} (hk : k < zn (N 5)) : zTf N k := by
  obtain ⟨⟨S, h1, h1'⟩, -, ⟨T, h3, h3'⟩, -, -, -, -, -, h9⟩ := h
  obtain ⟨⟨s, a1, a2⟩, -, a3, -⟩ := h9 k hk
  rw [h3, zn_nI (by omega)] at hk
  rw [h1, zn_nI (by omega)] at a2
  exact ⟨by omega, ⟨s, a1, by omega⟩, bore_ne a3⟩
theorem zOk.k8 {N : Nat → Int32} (h : zOk N) {k : Nat} (hk : k < zn (N 5)) : k < 8 := (h.f hk).1
theorem zOk.tu {N : Nat → Int32} (h : zOk N) {k : Nat} (hk : k < zn (N 5)) : zTu N k := h.2.2.2.2.2.2.2.2 k hk
theorem zOk.lag {N : Nat → Int32} (h : zOk N) : ¬ N 1 = 0 := h.2.2.2.1.ne 0 (Or.inl (by decide))
theorem zOk.many {N : Nat → Int32} (h : zOk N) {k : Nat} (hk : k < zn (N 5)) : N (42 + 21 * k + 8) = nI (sMany N k) ∧ sMany N k ≤ 6 := by
  obtain ⟨-, -, -, -, -, -, -, -, m, m1, m2, -⟩ := h.tu hk
  have e : sMany N k = m := by rw [sMany, m1, zn_nI (by omega)]
  rw [e]
  exact ⟨m1, m2⟩
theorem zOk.pts {N : Nat → Int32} (h : zOk N) {k : Nat} (hk : k < zn (N 5)) : (∀ p, p < sMany N k → zIn (sDeg N k p) (-20) 150 ∧ zIn (sHgt N k p) 0 999) ∧ ∀ p q, p < sMany N k → q < sMany N k → (sDeg N k p = sDeg N k q ∨ sHgt N k p = sHgt N k q) → p = q := by
  obtain ⟨-, -, -, -, -, -, -, -, m, m1, m2, m3⟩ := h.tu hk
  have e : sMany N k = m := by rw [sMany, m1, zn_nI (by omega)]
  rw [e]
  exact m3
theorem zOk.bath {N : Nat → Int32} (h : zOk N) {k : Nat} (hk : k < zn (N 5)) : N (42 + 21 * k + 7) = -1 ∨ ∃ b, N (42 + 21 * k + 7) = nI b ∧ b < 4 := by
  obtain ⟨-, -, -, -, -, -, -, a, -⟩ := h.tu hk
  obtain ⟨-, ⟨B, h2, h2'⟩, -⟩ := h
  refine a.imp_right fun ⟨b, b1, b2⟩ => ⟨b, b1, ?_⟩
  rw [h2, zn_nI (by omega)] at b2
  omega
theorem zOk.T8 {N : Nat → Int32} (h : zOk N) : N 5 = nI (zn (N 5)) ∧ zn (N 5) ≤ 8 := by
  obtain ⟨-, -, ⟨T, h3, h3'⟩, -⟩ := h
  rw [h3, zn_nI (by omega)]
  exact ⟨rfl, h3'⟩
theorem zOk.S5 {N : Nat → Int32} (h : zOk N) : N 3 = nI (zn (N 3)) ∧ zn (N 3) ≤ 5 := by
  obtain ⟨⟨T, h3, h3'⟩, -⟩ := h
  rw [h3, zn_nI (by omega)]
  exact ⟨rfl, h3'⟩
theorem zOk.B4 {N : Nat → Int32} (h : zOk N) : N 4 = nI (zn (N 4)) ∧ zn (N 4) ≤ 4 := by
  obtain ⟨-, ⟨T, h3, h3'⟩, -⟩ := h
  rw [h3, zn_nI (by omega)]
  exact ⟨rfl, h3'⟩
theorem zTf.up {N : Nat → Int32} {k w : Nat} {v : Int32} (h : zTf N k) (h0 : w ≠ 42 + 21 * k + 0) (h2 : w ≠ 42 + 21 * k + 2) : zTf (upd N w v) k := by
  obtain ⟨a1, a2, a3⟩ := h
  refine ⟨a1, ?_, ?_⟩
  · rw [pk_un (fun e => h0 e.symm)]; exact a2
  · rw [pk_un (fun e => h2 e.symm)]; exact a3
/-! what is asked of one tube -/
def sHas (f : Nat → Int32) (v : Int32) : Nat → Bool
  | 0 => false
  | m + 1 => sHas f v m || decide (f m = v)
theorem sHas_l {f : Nat → Int32} {v : Int32} {p : Nat} (h : sHas f v p = true) : sHas f v (p + 1) = true := by simp [sHas, h]
theorem sHas_r {f : Nat → Int32} {v : Int32} {p : Nat} (h : f p = v) : sHas f v (p + 1) = true := by simp [sHas, h]
theorem sHas_n {f : Nat → Int32} {v : Int32} {p : Nat} (h : ¬ sHas f v p = true) (h2 : ¬ f p = v) : ¬ sHas f v (p + 1) = true := by simp [sHas, h, h2]
theorem sHas_iff {f : Nat → Int32} {v : Int32} {m : Nat} : sHas f v m = true ↔ ∃ p, p < m ∧ f p = v := by
  induction m with
  | zero => simp [sHas]
  | succ m ih =>
    simp only [sHas, Bool.or_eq_true, decide_eq_true_eq, ih]
    constructor
    · rintro (⟨p, h1, h2⟩ | h)
      · exact ⟨p, by omega, h2⟩
      · exact ⟨m, by omega, h⟩
    · rintro ⟨p, h1, h2⟩
      rcases Nat.lt_or_ge p m with h | h
      · exact Or.inl ⟨p, h, h2⟩
      · have : p = m := by omega
        subst this
        exact Or.inr h2
def sDip (N : Nat → Int32) (k : Nat) (b : Int32) : Int32 := if N (42 + 21 * k + 7) = b then nI 1 else if N 6 = nI k then nI 2 else nI 0
def sStill (N : Nat → Int32) (k : Nat) : Prop := N (42 + 21 * k + 5) = sAround N k
def sMark (N : Nat → Int32) (k : Nat) : Int32 :=
  if N (42 + 21 * k + 7) = -1 then nI 1 else if ¬ N (42 + 21 * k + 5) = sAround N k ∨ N 6 = nI k then nI 2
  else if sHas (sDeg N k) (N (30 + 3 * zn (N (42 + 21 * k + 7)) + 2)) (sMany N k) = true then nI 3 else if sHas (sHgt N k) (sHigh N k) (sMany N k) = true then nI 4
  else if sMany N k = 6 then nI 5 else nI 0
/-- a point put -/
def sPut (N : Nat → Int32) (k : Nat) : Nat → Int32 :=
  upd (upd (upd N (42 + 21 * k + (9 + 2 * sMany N k)) (N (30 + 3 * zn (N (42 + 21 * k + 7)) + 2))) (42 + 21 * k + (9 + 2 * sMany N k + 1)) (sHigh (upd N (42 + 21 * k + (9 + 2 * sMany N k)) (N (30 + 3 * zn (N (42 + 21 * k + 7)) + 2))) k)) (42 + 21 * k + 8) (nI (sMany N k + 1))
/-- points from q + 1 on go down by one, n of them -/
def sDown (N : Nat → Int32) (k q : Nat) : Nat → Nat → Int32
  | 0 => N
  | n + 1 => upd (upd (sDown N k q n) (42 + 21 * k + (9 + 2 * (q + n))) (sDeg (sDown N k q n) k (q + n + 1))) (42 + 21 * k + (9 + 2 * (q + n) + 1))
      (sHgt (upd (sDown N k q n) (42 + 21 * k + (9 + 2 * (q + n))) (sDeg (sDown N k q n) k (q + n + 1))) k (q + n + 1))
def sErase (N : Nat → Int32) (k q : Nat) : Nat → Int32 := upd (sDown N k q (sMany N k - (q + 1))) (42 + 21 * k + 8) (nI (sMany N k - 1))
def sBy (f : Nat → Int32) (s : Int32) : Nat → Nat
  | 0 => 0
  | m + 1 => if m = 0 then 0 else if s * f m < s * f (sBy f s m) then m else sBy f s m
theorem sBy_lt (f : Nat → Int32) (s : Int32) {m : Nat} (h : 0 < m) : sBy f s m < m := by
  induction m with
  | zero => omega
  | succ m ih =>
    simp only [sBy]
    split
    · omega
    · split
      · omega
      · have := ih (by omega); omega
def sTells (N : Nat → Int32) (k : Nat) (high : Int32) : Int32 :=
  nI 10 * sDeg N k (sBy (sDeg N k) (nI 1) (sMany N k)) +
    nI 10 * (sDeg N k (sBy (sDeg N k) (-1) (sMany N k)) - sDeg N k (sBy (sDeg N k) (nI 1) (sMany N k))) * (high - sHgt N k (sBy (sDeg N k) (nI 1) (sMany N k))) /
      (sHgt N k (sBy (sDeg N k) (-1) (sMany N k)) - sHgt N k (sBy (sDeg N k) (nI 1) (sMany N k)))
def sRead (N : Nat → Int32) (k : Nat) : Int32 := sTells N k (sHigh N k)
def sFit (N : Nat → Int32) (k : Nat) : Nat → Int32
  | 0 => nI 0
  | p + 1 => jmax (sFit N k p) (jabs (nI 10 * sDeg N k p - sTells N k (sHgt N k p)))
/-! a minute of one tube -/
def sLose (N : Nat → Int32) (k : Nat) (by0 : Int32) : Nat → Int32 :=
  upd (upd N (42 + 21 * k + 4) (N (42 + 21 * k + 4) - by0)) (10 + 4 * zn (N (42 + 21 * k + 0)) + 3) (N (10 + 4 * zn (N (42 + 21 * k + 0)) + 3) + by0)
def sWarm (N : Nat → Int32) (k : Nat) : Nat → Int32 :=
  upd N (42 + 21 * k + 5) (N (42 + 21 * k + 5) + (if jabs (sAround N k - N (42 + 21 * k + 5)) < N 1 then sAround N k - N (42 + 21 * k + 5) else (sAround N k - N (42 + 21 * k + 5)) / N 1))
def sLeak (N : Nat → Int32) (k : Nat) : Nat → Int32 := if N (42 + 21 * k + 6) = nI 1 ∧ 0 < N (42 + 21 * k + 4) ∧ N 2 - N 2 / nI 10 * nI 10 = 0 then sLose N k (nI 1) else N
def sSpilt (N : Nat → Int32) (k : Nat) : Int32 := jmin (N (42 + 21 * k + 4)) (jmax (nI 0) (sFree N k (N (42 + 21 * k + 5)) - N (42 + 21 * k + 3)))
def sThumb (N : Nat → Int32) (k : Nat) : Nat → Int32 := if N 6 = nI k then upd (upd N 7 (N 7 - nI 1)) 6 (if N 7 - nI 1 = 0 then (-1) else nI k) else N
def sFor (N : Nat → Int32) (k : Nat) : Nat → Int32 := sThumb (sLose (sLeak (sWarm N k) k) k (sSpilt (sLeak (sWarm N k) k) k)) k
def sOut (N : Nat → Int32) (k : Nat) : Int32 := sSpilt (sLeak (sWarm N k) k) k
/-- tube k's minute with its bit of the spills -/
def sTube (N : Nat → Int32) (k : Nat) : Nat → Int32 :=
  upd (sFor N k) 9 (if 0 < sOut N k then sFor N k 9 ||| (nI 1 <<< (nI k &&& 31)) else sFor N k 9 &&& ((nI 1 <<< (nI k &&& 31)) ^^^ (-1)))
def sTubes (N : Nat → Int32) : Nat → Nat → Int32
  | 0 => N
  | k + 1 => sTube (sTubes N k) k
def sOne (N : Nat → Int32) : Nat → Int32 := sTubes (upd N 2 (N 2 + nI 1)) (zn (N 5))
def sWalk (N : Nat → Int32) : Nat → Nat → Int32
  | 0 => N
  | n + 1 => sOne (sWalk N n)
def sLost (N : Nat → Int32) : Nat → Int32
  | 0 => nI 0
  | s + 1 => sLost N s + N (10 + 4 * s + 3)
/-! the points by degrees: the least and the greatest are two -/
theorem m1_lt {a b : Int32} (ha : zIn a (-20) 150) (hb : zIn b (-20) 150) : (-1) * a < (-1) * b ↔ b < a := by
  obtain ⟨a1, a2⟩ := ha
  obtain ⟨b1, b2⟩ := hb
  have e : ∀ v : Int32, -20 ≤ v.toInt → v.toInt ≤ 150 → ((-1) * v).toInt = - v.toInt := by
    intro v h1 h2
    rw [Int32.toInt_mul, show ((-1 : Int32)).toInt = -1 by decide]
    rw [Int.bmod_eq_of_le] <;> omega
  rw [Int32.lt_iff_toInt_lt, Int32.lt_iff_toInt_lt, e a a1 a2, e b b1 b2]
  omega
theorem p1_mul (a : Int32) : nI 1 * a = a := Int32.one_mul a
theorem sBy_min {f : Nat → Int32} {m p : Nat} (h : p < m) : ¬ f p < f (sBy f (nI 1) m) := by
  induction m with
  | zero => omega
  | succ m ih =>
    simp only [sBy, p1_mul]
    by_cases h0 : m = 0
    · subst h0
      obtain rfl : p = 0 := by omega
      simp
    · rw [if_neg h0]
      split
      · rename_i hlt
        rcases Nat.lt_or_ge p m with hp | hp
        · have := ih hp
          rw [Int32.lt_iff_toInt_lt] at *
          omega
        · obtain rfl : p = m := by omega
          simp
      · rename_i hlt
        rcases Nat.lt_or_ge p m with hp | hp
        · exact ih hp
        · obtain rfl : p = m := by omega
          exact hlt
theorem sBy_max {f : Nat → Int32} {m p : Nat} (hr : ∀ q, q < m → zIn (f q) (-20) 150) (h : p < m) : ¬ f (sBy f (-1) m) < f p := by
  induction m with
  | zero => omega
  | succ m ih =>
    have ihr := ih (fun q hq => hr q (by omega))
    simp only [sBy]
    by_cases h0 : m = 0
    · subst h0
      obtain rfl : p = 0 := by omega
      simp
    · rw [if_neg h0]
      have hb := sBy_lt f (-1) (m := m) (by omega)
      split
      · rename_i hlt
        rw [m1_lt (hr m (by omega)) (hr _ (by omega))] at hlt
        rcases Nat.lt_or_ge p m with hp | hp
        · have := ihr hp
          rw [Int32.lt_iff_toInt_lt] at *
          omega
        · obtain rfl : p = m := by omega
          simp
      · rename_i hlt
        rw [m1_lt (hr m (by omega)) (hr _ (by omega))] at hlt
        rcases Nat.lt_or_ge p m with hp | hp
        · exact ihr hp
        · obtain rfl : p = m := by omega
          exact hlt
theorem zOk.span {N : Nat → Int32} (h : zOk N) {k : Nat} (hk : k < zn (N 5)) (h2 : 2 ≤ sMany N k) : ¬ sHgt N k (sBy (sDeg N k) (-1) (sMany N k)) - sHgt N k (sBy (sDeg N k) (nI 1) (sMany N k)) = 0 := by
  obtain ⟨h3, h4⟩ := h.pts hk
  have l1 := sBy_lt (sDeg N k) (nI 1) (m := sMany N k) (by omega)
  have l2 := sBy_lt (sDeg N k) (-1) (m := sMany N k) (by omega)
  intro e
  have e1 := h4 _ _ l2 l1 (Or.inr (by rw [← Int32.sub_add_cancel (sHgt N k (sBy (sDeg N k) (-1) (sMany N k))) (sHgt N k (sBy (sDeg N k) (nI 1) (sMany N k))), e, Int32.zero_add]))
  have a0 := sBy_min (f := sDeg N k) (show 0 < sMany N k by omega)
  have a1 := sBy_min (f := sDeg N k) (show 1 < sMany N k by omega)
  have b0 := sBy_max (f := sDeg N k) (fun q hq => (h3 q hq).1) (show 0 < sMany N k by omega)
  have b1 := sBy_max (f := sDeg N k) (fun q hq => (h3 q hq).1) (show 1 < sMany N k by omega)
  rw [e1] at b0 b1
  have e2 : sDeg N k 0 = sDeg N k 1 := by
    rw [Int32.lt_iff_toInt_lt] at *
    exact Int32.toInt_inj.mp (by omega)
  exact absurd (h4 0 1 (by omega) (by omega) (Or.inl e2)) (by decide)


