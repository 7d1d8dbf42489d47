/-! ===== P67: WHAT ACTS KEEP ===== -/
theorem tells_lo {N : Nat → Int32} {k : Nat} : sTells N k (sHgt N k (sBy (sDeg N k) (nI 1) (sMany N k))) = nI 10 * sDeg N k (sBy (sDeg N k) (nI 1) (sMany N k)) := by
  rw [sTells, Int32.sub_self, Int32.mul_zero, Int32.zero_div, Int32.add_zero]
theorem tells_eq {d e a b : Int32} (hd : zIn d (-20) 150) (he : zIn e (-20) 150) (ha : zIn a 0 999) (hb : zIn b 0 999) (h0 : ¬ b - a = 0) : nI 10 * d + nI 10 * (e - d) * (b - a) / (b - a) = nI 10 * e := by
  have e1 := sub_in he hd (by decide) (by decide) (by decide) (by decide)
  have e2 := sub_in hb ha (by decide) (by decide) (by decide) (by decide)
  obtain ⟨-, f1⟩ := mul10 hd
  obtain ⟨-, f2⟩ := mul10 he
  obtain ⟨d1, d2⟩ := hd
  obtain ⟨g1, g2⟩ := he
  obtain ⟨a1, a2⟩ := ha
  obtain ⟨b1, b2⟩ := hb
  have e3 : (nI 10 * (e - d)).toInt = 10 * (e.toInt - d.toInt) := by
    rw [Int32.toInt_mul, show (nI 10).toInt = 10 by decide, e1, Int.bmod_eq_of_le] <;> omega
  have hx : ∃ x : Int, x = 10 * (e.toInt - d.toInt) ∧ -1700 ≤ x ∧ x ≤ 1700 := ⟨_, rfl, by omega, by omega⟩
  obtain ⟨x, hx1, hx2, hx3⟩ := hx
  have hy : ∃ y : Int, y = b.toInt - a.toInt ∧ -999 ≤ y ∧ y ≤ 999 := ⟨_, rfl, by omega, by omega⟩
  obtain ⟨y, hy1, hy2, hy3⟩ := hy
  rw [← hx1] at e3
  rw [← hy1] at e2
  have y0 : y ≠ 0 := fun h => h0 (Int32.toInt_inj.mp (by rw [e2, h]; rfl))
  have hxy : -1698300 ≤ x * y ∧ x * y ≤ 1698300 := by
    have h1 : (x * y).natAbs ≤ 1700 * 999 := by
      rw [Int.natAbs_mul]
      exact Nat.mul_le_mul (by omega) (by omega)
    omega
  have e4 : (nI 10 * (e - d) * (b - a)).toInt = x * y := by
    rw [Int32.toInt_mul, e3, e2, Int.bmod_eq_of_le] <;> omega
  have e5 : (nI 10 * (e - d) * (b - a) / (b - a)).toInt = x := by
    rw [Int32.toInt_div_of_ne_left _ _ (fun h => by rw [h, show Int32.minValue.toInt = -2147483648 by decide] at e4; omega), e4, e2]
    exact Int.mul_tdiv_cancel _ y0
  refine Int32.toInt_inj.mp ?_
  rw [Int32.toInt_add, e5, f1, f2, Int.bmod_eq_of_le] <;> omega
theorem tells_hi {N : Nat → Int32} (hO : zOk N) {k : Nat} (hk : k < zn (N 5)) (h2 : 2 ≤ sMany N k) : sTells N k (sHgt N k (sBy (sDeg N k) (-1) (sMany N k))) = nI 10 * sDeg N k (sBy (sDeg N k) (-1) (sMany N k)) := by
  have h3 := (hO.pts hk).1
  have l1 := sBy_lt (sDeg N k) (nI 1) (m := sMany N k) (by omega)
  have l2 := sBy_lt (sDeg N k) (-1) (m := sMany N k) (by omega)
  rw [sTells]
  exact tells_eq (h3 _ l1).1 (h3 _ l2).1 (h3 _ l1).2 (h3 _ l2).2 (hO.span hk h2)
theorem sMissed_0 {N : Nat → Int32} (hO : zOk N) : ∀ p, p ≤ zn (N 5) → sMissed N p = 0
  | 0, _ => by rw [sMissed]; decide
  | p + 1, hp => by
    rw [sMissed]
    split
    · rename_i h2
      rw [sMissed_0 hO p (by omega), sMiss, if_pos (tells_hi hO (by omega) h2), sMiss, if_pos tells_lo]
      decide
    · exact sMissed_0 hO p (by omega)
/-- the sum of the fills -/
def sFl (N : Nat → Int32) (m : Nat) : Int32 := sAdd (fun k => N (42 + 21 * k + 4)) m
theorem sRest_e (N : Nat → Int32) (a : Int32) : ∀ m, sRest N a m = a - sFl N m
  | 0 => by rw [sRest, sFl, sAdd, nI_0, Int32.sub_zero]
  | m + 1 => by
    rw [sRest, sRest_e N a m, sFl, sFl, sAdd, Int32.sub_sub]
/-- what was given is what is there and what was lost -/
def jB (N : Nat → Int32) : Prop := N 8 = sLost N (zn (N 3)) + sFl N (zn (N 5))
theorem jB.rest {N : Nat → Int32} (h : jB N) : sRest N (N 8 - sLost N (zn (N 3))) (zn (N 5)) = 0 := by
  rw [sRest_e, h, Int32.add_comm (sLost N (zn (N 3))), Int32.add_sub_cancel, Int32.sub_self]
def dKp (N N' : Nat → Int32) : Prop := (∀ w, w = 3 ∨ w = 4 ∨ w = 5 → N' w = N w) ∧ (∀ s, s < 5 → N' (10 + 4 * s + 2) = N (10 + 4 * s + 2)) ∧ (∀ b, b < 4 → N' (30 + 3 * b + 2) = N (30 + 3 * b + 2)) ∧ ∀ k q, k < 8 → q < 4 → N' (42 + 21 * k + q) = N (42 + 21 * k + q)
theorem dKp.refl {N : Nat → Int32} : dKp N N := ⟨fun _ _ => rfl, fun _ _ => rfl, fun _ _ => rfl, fun _ _ _ _ => rfl⟩
theorem dKp.trans {N N1 N2 : Nat → Int32} (h : dKp N N1) (h2 : dKp N1 N2) : dKp N N2 := ⟨fun w hw => (h2.1 w hw).trans (h.1 w hw), fun s hs => (h2.2.1 s hs).trans (h.2.1 s hs), fun b hb => (h2.2.2.1 b hb).trans (h.2.2.1 b hb), fun k q hk hq => (h2.2.2.2 k q hk hq).trans (h.2.2.2 k q hk hq)⟩
theorem dKp.d {E : Ev} {N N' : Nat → Int32} (h : dKp N N') (hD : dOk E N) : dOk E N' := by
  have h1 := vS_lt E
  have h2 := vB_lt E
  have h3 := vT_lt E
  obtain ⟨k1, k2, k3, k4⟩ := h
  obtain ⟨d1, d2, d3, d4, d5, d6⟩ := hD
  refine ⟨(k1 3 (Or.inl rfl)).trans d1, (k1 4 (Or.inr (Or.inl rfl))).trans d2, (k1 5 (Or.inr (Or.inr rfl))).trans d3, fun s hs => (k2 s (by omega)).trans (d4 s hs), fun b hb => (k3 b (by omega)).trans (d5 b hb), fun k hk => ?_⟩
  obtain ⟨e1, e2, e3, e4⟩ := d6 k hk
  exact ⟨(k4 k 0 (by omega) (by omega)).trans e1, (k4 k 1 (by omega) (by omega)).trans e2, (k4 k 2 (by omega) (by omega)).trans e3, (k4 k 3 (by omega) (by omega)).trans e4⟩
/-- what is neither of the script nor of the balance -/
def bKp (N N' : Nat → Int32) : Prop := ∀ w, (w = 3 ∨ w = 4 ∨ w = 5 ∨ w = 8 ∨ (10 ≤ w ∧ w < 42) ∨ ∃ k q, k < 8 ∧ q < 5 ∧ w = 42 + 21 * k + q) → N' w = N w
theorem bKp.k {N N' : Nat → Int32} (h : bKp N N') : dKp N N' :=
  ⟨fun w hw => h w (by omega), fun s hs => h _ (by omega), fun b hb => h _ (by omega), fun k q hk hq => h _ (Or.inr (Or.inr (Or.inr (Or.inr (Or.inr ⟨k, q, hk, by omega, rfl⟩)))))⟩
theorem bKp.b {N N' : Nat → Int32} (h : bKp N N') (hO : zOk N) (hB : jB N) : jB N' := by
  have h5 := hO.S5.2
  have h8 := hO.T8.2
  rw [jB, h 8 (by omega), h 3 (by omega), h 5 (by omega), hB, sLost_e, sLost_e, sFl, sFl]
  congr 1
  · exact (sAdd_c _ (fun s hs => h _ (by omega))).symm
  · exact (sAdd_c _ (fun k hk => h _ (Or.inr (Or.inr (Or.inr (Or.inr (Or.inr ⟨k, 4, by omega, by omega, rfl⟩))))))).symm
theorem bKp_upd {N : Nat → Int32} {w : Nat} {v : Int32} (hw : w < 3 ∨ w = 6 ∨ w = 7 ∨ w = 9 ∨ ∃ k q, 5 ≤ q ∧ q < 21 ∧ w = 42 + 21 * k + q) : bKp N (upd N w v) := by
  intro z hz
  refine pk_un ?_
  rintro rfl
  rcases hz with h | h | h | h | h | ⟨k, q, h1, h2, h3⟩ <;> rcases hw with g | g | g | g | ⟨k2, q2, g1, g2, g3⟩ <;> omega
theorem bKp.trans {N N1 N2 : Nat → Int32} (h : bKp N N1) (h2 : bKp N1 N2) : bKp N N2 := fun w hw => (h2 w hw).trans (h w hw)
theorem bKp_put {N : Nat → Int32} {k : Nat} (hm : sMany N k < 6) : bKp N (sPut N k) := by
  intro z hz
  have hc : ∀ r, 8 ≤ r → r < 21 → z ≠ 42 + 21 * k + r := by
    intro r h8 h21 e
    rcases hz with h | h | h | h | h | ⟨k2, q, h1, h2, h3⟩
    · omega
    · omega
    · omega
    · omega
    · omega
    · rcases Nat.lt_trichotomy k2 k with h4 | h4 | h4 <;> omega
  exact sPut_n (hc _ (by omega) (by omega)) (hc _ (by omega) (by omega)) (hc _ (by omega) (by omega))
theorem bKp_erase {N : Nat → Int32} {k q : Nat} (hm : sMany N k ≤ 6) (hq : q < sMany N k) : bKp N (sErase N k q) := by
  intro z hz
  refine sErase_n hm hq ?_
  rcases hz with h | h | h | h | h | ⟨k2, q2, h1, h2, h3⟩ <;> omega
theorem dKp_pour {N : Nat → Int32} {k : Nat} {a : Int32} : dKp N (aPour N k a) := by
  refine ⟨fun w hw => ?_, fun s hs => ?_, fun b hb => ?_, fun k2 q hk hq => ?_⟩ <;> rw [aPour, pk_un (by omega), pk_un (by omega)]
theorem jB_pour {N : Nat → Int32} {k : Nat} {a : Int32} (hO : zOk N) (hk : k < zn (N 5)) (hB : jB N) : jB (aPour N k a) := by
  have h5 := hO.S5.2
  have h8 := hO.T8.2
  have e : ∀ w, w ≠ 42 + 21 * k + 4 → w ≠ 8 → aPour N k a w = N w := fun w h1 h2 => by rw [aPour, pk_un h2, pk_un h1]
  have e8 : aPour N k a 8 = N 8 + a := by rw [aPour, pk_us]
  have e4 : aPour N k a (42 + 21 * k + 4) = N (42 + 21 * k + 4) + a := by rw [aPour, pk_un (by omega), pk_us]
  rw [jB, e8, e 3 (by omega) (by omega), e 5 (by omega) (by omega), hB, Int32.add_assoc, sLost_e, sLost_e, sFl, sFl]
  congr 1
  · exact (sAdd_c _ (fun s hs => e _ (by omega) (by omega))).symm
  · exact (sAdd_at _ hk (fun q hq hqk => show aPour N k a (42 + 21 * q + 4) = N (42 + 21 * q + 4) from e _ (by omega) (by omega)) e4).symm
theorem tube_kp {N : Nat → Int32} (hO : zOk N) {k : Nat} (hk : k < zn (N 5)) : dKp N (sTube N k) := by
  obtain ⟨s, hs, hs3, h5⟩ := hO.S hk
  have h8 := hO.k8 hk
  exact ⟨fun w hw => sTube_n hs h5 (by omega) (by omega) (by omega) (by omega) (by omega) (by omega), fun z hz => sTube_n hs h5 (by omega) (by omega) (by omega) (by omega) (by omega) (by omega), fun b hb => sTube_n hs h5 (by omega) (by omega) (by omega) (by omega) (by omega) (by omega), fun k2 q hk2 hq => sTube_n hs h5 (by omega) (by omega) (by omega) (by omega) (by omega) (by omega)⟩
theorem i32_bal (L F e : Int32) : L + e + (F + -e) = L + F := by
  rw [Int32.add_assoc, ← Int32.add_assoc e, Int32.add_comm e F, Int32.add_assoc F, Int32.add_right_neg, Int32.add_zero]
theorem tube_b {N : Nat → Int32} (hO : zOk N) {k : Nat} (hk : k < zn (N 5)) (hB : jB N) : jB (sTube N k) := by
  obtain ⟨s, hs, hs3, h5⟩ := hO.S hk
  have h8 := hO.k8 hk
  have hn : ∀ w, w ≠ 42 + 21 * k + 5 → w ≠ 42 + 21 * k + 4 → w ≠ 10 + 4 * s + 3 → w ≠ 6 → w ≠ 7 → w ≠ 9 → sTube N k w = N w := fun w a b c d e f => sTube_n hs h5 a b c d e f
  have eF : sFl (sTube N k) (zn (N 5)) = sFl N (zn (N 5)) + -(sLk N k + sOut N k) := by
    refine sAdd_at _ hk (fun q hq hqk => hn _ (by omega) (by omega) (by omega) (by omega) (by omega) (by omega)) ?_
    show sTube N k (42 + 21 * k + 4) = _
    rw [sTube_4 hO hk, Int32.sub_sub, Int32.sub_eq_add_neg]
  rw [jB, hn 8 (by omega) (by omega) (by omega) (by omega) (by omega) (by omega), hn 3 (by omega) (by omega) (by omega) (by omega) (by omega) (by omega), hn 5 (by omega) (by omega) (by omega) (by omega) (by omega) (by omega), sLost_tube hO hk, eF, i32_bal]
  exact hB
/-- all that a walk of minutes keeps -/
def wKp (N N' : Nat → Int32) : Prop := dKp N N' ∧ N' 8 = N 8 ∧ (jB N → jB N')
theorem tubes_kp {N : Nat → Int32} (hO : zOk N) : ∀ p, p ≤ zn (N 5) → wKp N (sTubes N p)
  | 0, _ => ⟨dKp.refl, rfl, id⟩
  | p + 1, hp => by
    obtain ⟨i1, i2, i3⟩ := tubes_kp hO p (by omega)
    obtain ⟨o1, o2⟩ := sTubes_ok hO (p := p) (by omega)
    have hk : p < zn (sTubes N p 5) := by rw [o2]; omega
    obtain ⟨s, hs, hs3, h5⟩ := o1.S hk
    exact ⟨i1.trans (tube_kp o1 hk), (sTube_n hs h5 (by omega) (by omega) (by omega) (by omega) (by omega) (by omega)).trans i2, fun h => tube_b o1 hk (i3 h)⟩
theorem one_kp {N : Nat → Int32} (hO : zOk N) : wKp N (sOne N) := by
  have h2 : zOk (upd N 2 (N 2 + nI 1)) := hO.up (Or.inl rfl)
  have b := bKp_upd (N := N) (w := 2) (v := N 2 + nI 1) (Or.inl (by decide))
  have e : upd N 2 (N 2 + nI 1) 5 = N 5 := pk_un (by omega)
  obtain ⟨i1, i2, i3⟩ := tubes_kp h2 (zn (N 5)) (by rw [e]; exact Nat.le_refl _)
  exact ⟨b.k.trans i1, i2.trans (pk_un (by omega)), fun h => i3 (b.b hO h)⟩
theorem walk_kp {N : Nat → Int32} (hO : zOk N) : ∀ n, wKp N (sWalk N n)
  | 0 => ⟨dKp.refl, rfl, id⟩
  | n + 1 => by
    obtain ⟨i1, i2, i3⟩ := walk_kp hO n
    obtain ⟨j1, j2, j3⟩ := one_kp (sWalk_ok hO n).1
    exact ⟨i1.trans j1, j2.trans i2, fun h => j3 (i3 h)⟩
theorem sFl_in {N : Nat → Int32} (hO : zOk N) : ∀ m, m ≤ zn (N 5) → ∃ S : Nat, sFl N m = nI S ∧ S ≤ 999 * m
  | 0, _ => ⟨0, rfl, Nat.le_refl 0⟩
  | m + 1, hm => by
    obtain ⟨S, e, hS⟩ := sFl_in hO m (by omega)
    obtain ⟨-, -, -, -, t4, -⟩ := hO.tu (k := m) (by omega)
    obtain ⟨f, f1, f2, f3⟩ := t4.ex (by decide)
    refine ⟨S + f, ?_, by omega⟩
    show sFl N m + N (42 + 21 * m + 4) = _
    rw [e, f1, nI_add]
/-- what minutes lose is no -9999 -/
theorem pass_ne {N : Nat → Int32} (hO : zOk N) (hB : jB N) (n : Nat) : ¬ sLost (sWalk N n) (zn (N 3)) - sLost N (zn (N 3)) = -9999 := by
  obtain ⟨⟨k1, -⟩, k2, k3⟩ := walk_kp hO n
  have hB2 := k3 hB
  have h8 := hO.T8.2
  obtain ⟨S, e, hS⟩ := sFl_in hO _ (Nat.le_refl _)
  have e5 := k1 5 (Or.inr (Or.inr rfl))
  obtain ⟨S2, f, hS2⟩ := sFl_in (sWalk_ok hO n).1 (zn (N 5)) (by rw [e5]; exact Nat.le_refl _)
  rw [jB, k2, k1 3 (Or.inl rfl), e5, f] at hB2
  rw [jB, e] at hB
  have e9 : sLost (sWalk N n) (zn (N 3)) - sLost N (zn (N 3)) = nI S - nI S2 := by
    have e1 : sLost (sWalk N n) (zn (N 3)) = sLost N (zn (N 3)) + nI S - nI S2 := by
      rw [← hB, hB2, Int32.add_sub_cancel]
    rw [e1, Int32.sub_eq_add_neg, Int32.sub_eq_add_neg, Int32.sub_eq_add_neg, Int32.add_assoc (sLost N (zn (N 3))), Int32.add_comm (sLost N (zn (N 3))), Int32.add_assoc, Int32.add_right_neg, Int32.add_zero]
  rw [e9]
  intro h
  have := congrArg Int32.toInt h
  rw [Int32.toInt_sub, nI_toInt (by omega), nI_toInt (by omega), show ((-9999 : Int32)).toInt = -9999 by decide, Int.bmod_eq_of_le (by omega) (by omega)] at this
  omega

