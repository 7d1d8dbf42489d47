/-! ===== THE TEXT'S TOKENS ===== -/
def kLet (v : Int32) : Bool := decide (97 ≤ v.toInt ∧ v.toInt ≤ 122)
def kDig (v : Int32) : Bool := decide (48 ≤ v.toInt ∧ v.toInt ≤ 57)
def kSp (v : Int32) : Bool := decide (v = nI 32 ∨ v = nI 10)
/-- bytes of a text as an array holds them -/
def zByt (B : Nat → Int32) : Prop := ∀ k, zIn (B k) (-128) 127
def uB (v : Int32) : Int32 := v &&& nI 255
theorem uB_all : ∀ n : Fin 256, (uB (nI n.val - nI 128)).toInt = if 128 ≤ n.val then (n.val : Int) - 128 else (n.val : Int) + 128 := by decide +kernel
theorem uB_in {v : Int32} (h : zIn v (-128) 127) : (uB v).toInt = if 0 ≤ v.toInt then v.toInt else v.toInt + 256 := by
  have e := add_in h (show zIn (nI 128) 128 128 from ⟨by decide, by decide⟩) (by decide) (by decide) (by decide) (by decide)
  rw [show (nI 128).toInt = 128 by decide] at e
  obtain ⟨h1, h2⟩ := h
  obtain ⟨m, em, m1, m2⟩ := (show zIn (v + nI 128) 0 255 from ⟨by omega, by omega⟩).ex (by decide)
  have e2 : v = nI m - nI 128 := by rw [← em, Int32.add_sub_cancel]
  have e3 := uB_all ⟨m, by omega⟩
  have e4 : (m : Int) = v.toInt + 128 := by rw [← e, em, nI_toInt (by omega)]
  simp only at e3
  rw [← e2] at e3
  rw [e3]
  split <;> split <;> omega
theorem kLet_u {v : Int32} (h : zIn v (-128) 127) : (97 ≤ (uB v).toInt ∧ (uB v).toInt ≤ 122) ↔ kLet v = true := by
  have := uB_in h
  obtain ⟨h1, h2⟩ := h
  rw [kLet, decide_eq_true_iff]
  split at this <;> omega
theorem kDig_u {v : Int32} (h : zIn v (-128) 127) : (48 ≤ (uB v).toInt ∧ (uB v).toInt ≤ 57) ↔ kDig v = true := by
  have := uB_in h
  obtain ⟨h1, h2⟩ := h
  rw [kDig, decide_eq_true_iff]
  split at this <;> omega
theorem uB_eq {v : Int32} (h : zIn v (-128) 127) {n : Nat} (hn : n < 128) : uB v = nI n ↔ v = nI n := by
  have := uB_in h
  obtain ⟨h1, h2⟩ := h
  constructor
  · intro e
    rw [e, nI_toInt (by omega)] at this
    refine Int32.toInt_inj.mp ?_
    rw [nI_toInt (by omega)]
    split at this <;> omega
  · intro e
    refine Int32.toInt_inj.mp ?_
    rw [this, e, nI_toInt (by omega), if_pos (by omega)]
theorem uB_ne {v : Int32} (h : zIn v (-128) 127) : ¬ uB v = -1 := by
  have := uB_in h
  obtain ⟨h1, h2⟩ := h
  intro e
  rw [e, show ((-1 : Int32)).toInt = -1 by decide] at this
  split at this <;> omega
theorem uB_l {v : Int32} (h : zIn v (-128) 127) (hk : kLet v = true ∨ kDig v = true) : uB v = v := by
  have := uB_in h
  have h0 : 0 ≤ v.toInt := by
    rcases hk with hk | hk
    · have := of_decide_eq_true hk; omega
    · have := of_decide_eq_true hk; omega
  rw [if_pos h0] at this
  exact Int32.toInt_inj.mp this
def sSkip (B : Nat → Int32) (L : Nat) : Nat → Nat → Nat
  | 0, p => p
  | q + 1, p => if p < L ∧ kSp (B p) = true then sSkip B L q (p + 1) else p
def sRun (c : Int32 → Bool) (B : Nat → Int32) (L : Nat) : Nat → Nat → Nat
  | 0, p => p
  | q + 1, p => if p < L ∧ c (B p) = true then sRun c B L q (p + 1) else p
def sKind (B : Nat → Int32) (L s : Nat) : Nat := if L ≤ s then 0 else if kLet (B s) = true then 1 else if kDig (B s) = true then 2 else 3
def sEnd (B : Nat → Int32) (L s : Nat) : Nat := if L ≤ s then s else if kLet (B s) = true then sRun kLet B L (L - s) s else if kDig (B s) = true then sRun kDig B L (L - s) s else s + 1
def sSp (B : Nat → Int32) (s : Nat) : Nat → Int64
  | 0 => 0
  | k + 1 => if k < 8 then 27 * sSp B s k + (B (s + k)).toInt64 - 97 + 1 else -1
def sNu (B : Nat → Int32) (s : Nat) : Nat → Int32
  | 0 => nI 0
  | k + 1 => if nI 999 < sNu B s k then nI 9999 else nI 10 * sNu B s k + B (s + k) - nI 48
def sVal (B : Nat → Int32) (L s : Nat) : Int32 := if sKind B L s = 2 then sNu B s (sEnd B L s - s) else if sKind B L s = 3 then uB (B s) else nI 0
def sLtr (B : Nat → Int32) (L s : Nat) : Nat := if sKind B L s = 1 then sEnd B L s - s else 0
def sSpl (B : Nat → Int32) (L s : Nat) : Int64 := if sKind B L s = 1 then sSp B s (sEnd B L s - s) else 0
set_option maxHeartbeats 4000000 in
set_option maxRecDepth 20000 in
theorem c_X4_byteAt {E : Ev} {g : Sh} {i : Ni} {j : Nj} {K : Kp} {x n d b p s o L k : Nat} (hW : zW g x n d b p s o) (hL : i x 5 = nI L) (hL6 : L ≤ 600) (hk : k ≤ 1000) (hK : K (.inl (some (.int (if k < L then uB (i b k) else -1)))) g i j) : zCon E mX4_byteAt [.ref x, .int (nI k)] g i j K := by
  refine zcon_of (by decide +kernel) rfl rfl (lo := [.ref x, .int (nI k)]) rfl (fun X => ?_)
  have w1 := hW.1
  have w4 := hW.2.2.2.1
  obtain ⟨bx, w8, w9⟩ := hW.bb
  by_cases h : k < L
  · skip
    rw [if_pos h] at hK
    refine r_iload_n qX4_byteAt_0 rfl ?_
    refine r_aload_n qX4_byteAt_1 rfl ?_
    refine r_geti qX4_byteAt_2 fX4_214 rfl (by assumption) ?_
    rw [hL]
    refine r_icmp_ge (t := 21) qX4_byteAt_5 (by decide) (fun hc5 => absurd hc5 (nI_ge h (by omega))) (fun hc5 => ?_)
    refine r_aload_n qX4_byteAt_8 rfl ?_
    refine r_getr qX4_byteAt_9 fX4_27 rfl (by assumption) (by first | assumption | rfl) ?_
    refine r_iload_n qX4_byteAt_12 rfl ?_
    refine r_baldN qX4_byteAt_13 (by assumption) (by assumption) (by omega) rfl ?_
    refine r_sipush (v := nI 255) qX4_byteAt_14 (by decide) ?_
    refine r_iand qX4_byteAt_17 ?_
    refine r_goto (t := 22) qX4_byteAt_18 (by decide) ?_
    refine r_iret qX4_byteAt_22 rfl rfl rfl rfl ?_
    exact hK
  · skip
    rw [if_neg h] at hK
    refine r_iload_n qX4_byteAt_0 rfl ?_
    refine r_aload_n qX4_byteAt_1 rfl ?_
    refine r_geti qX4_byteAt_2 fX4_214 rfl (by assumption) ?_
    rw [hL]
    refine r_icmp_ge (t := 21) qX4_byteAt_5 (by decide) (fun hc5 => ?_) (fun hc5 => absurd hc5 (fun h2 => h2 (nI_le (by omega) (by omega))))
    refine r_iconst (v := (-1)) qX4_byteAt_21 (by decide) ?_
    refine r_iret qX4_byteAt_22 rfl rfl rfl rfl ?_
    exact hK
set_option maxHeartbeats 4000000 in
set_option maxRecDepth 20000 in
theorem c_X4_isLetter {E : Ev} {g : Sh} {i : Ni} {j : Nj} {K : Kp} {v : Int32} (hK : K (.inl (some (.int (zb (97 ≤ v.toInt ∧ v.toInt ≤ 122))))) g i j) : zCon E mX4_isLetter [.int v] g i j K := by
  refine zcon_of (by decide +kernel) rfl rfl (lo := [.int v]) rfl (fun X => ?_)
  refine r_iload_n qX4_isLetter_0 rfl ?_
  refine r_bipush (v := nI 97) qX4_isLetter_1 (by decide) ?_
  refine r_icmp_lt (t := 16) qX4_isLetter_3 (by decide) (fun hc3 => ?_) (fun hc3 => ?_)
  · refine r_iconst (v := nI 0) qX4_isLetter_16 (by decide) ?_
    refine r_iret qX4_isLetter_17 rfl (by first | decide | exact zb_nar _ | assumption) rfl rfl ?_
    first | (rw [zb_f (by simp only [Int32.lt_iff_toInt_lt, Int32.le_iff_toInt_le, show (nI 97).toInt = 97 by decide, show (nI 122).toInt = 122 by decide] at *; omega)] at hK; exact hK) | (rw [zb_t (by simp only [Int32.lt_iff_toInt_lt, Int32.le_iff_toInt_le, show (nI 97).toInt = 97 by decide, show (nI 122).toInt = 122 by decide] at *; omega)] at hK; exact hK)
  · refine r_iload_n qX4_isLetter_6 rfl ?_
    refine r_bipush (v := nI 122) qX4_isLetter_7 (by decide) ?_
    refine r_icmp_gt (t := 16) qX4_isLetter_9 (by decide) (fun hc9 => ?_) (fun hc9 => ?_)
    · refine r_iconst (v := nI 0) qX4_isLetter_16 (by decide) ?_
      refine r_iret qX4_isLetter_17 rfl (by first | decide | exact zb_nar _ | assumption) rfl rfl ?_
      first | (rw [zb_f (by simp only [Int32.lt_iff_toInt_lt, Int32.le_iff_toInt_le, show (nI 97).toInt = 97 by decide, show (nI 122).toInt = 122 by decide] at *; omega)] at hK; exact hK) | (rw [zb_t (by simp only [Int32.lt_iff_toInt_lt, Int32.le_iff_toInt_le, show (nI 97).toInt = 97 by decide, show (nI 122).toInt = 122 by decide] at *; omega)] at hK; exact hK)
    · refine r_iconst (v := nI 1) qX4_isLetter_12 (by decide) ?_
      refine r_goto (t := 17) qX4_isLetter_13 (by decide) ?_
      refine r_iret qX4_isLetter_17 rfl (by first | decide | exact zb_nar _ | assumption) rfl rfl ?_
      first | (rw [zb_f (by simp only [Int32.lt_iff_toInt_lt, Int32.le_iff_toInt_le, show (nI 97).toInt = 97 by decide, show (nI 122).toInt = 122 by decide] at *; omega)] at hK; exact hK) | (rw [zb_t (by simp only [Int32.lt_iff_toInt_lt, Int32.le_iff_toInt_le, show (nI 97).toInt = 97 by decide, show (nI 122).toInt = 122 by decide] at *; omega)] at hK; exact hK)
set_option maxHeartbeats 4000000 in
set_option maxRecDepth 20000 in
theorem c_X4_isDigit {E : Ev} {g : Sh} {i : Ni} {j : Nj} {K : Kp} {v : Int32} (hK : K (.inl (some (.int (zb (48 ≤ v.toInt ∧ v.toInt ≤ 57))))) g i j) : zCon E mX4_isDigit [.int v] g i j K := by
  refine zcon_of (by decide +kernel) rfl rfl (lo := [.int v]) rfl (fun X => ?_)
  refine r_iload_n qX4_isDigit_0 rfl ?_
  refine r_bipush (v := nI 48) qX4_isDigit_1 (by decide) ?_
  refine r_icmp_lt (t := 16) qX4_isDigit_3 (by decide) (fun hc3 => ?_) (fun hc3 => ?_)
  · refine r_iconst (v := nI 0) qX4_isDigit_16 (by decide) ?_
    refine r_iret qX4_isDigit_17 rfl (by first | decide | exact zb_nar _ | assumption) rfl rfl ?_
    first | (rw [zb_f (by simp only [Int32.lt_iff_toInt_lt, Int32.le_iff_toInt_le, show (nI 48).toInt = 48 by decide, show (nI 57).toInt = 57 by decide] at *; omega)] at hK; exact hK) | (rw [zb_t (by simp only [Int32.lt_iff_toInt_lt, Int32.le_iff_toInt_le, show (nI 48).toInt = 48 by decide, show (nI 57).toInt = 57 by decide] at *; omega)] at hK; exact hK)
  · refine r_iload_n qX4_isDigit_6 rfl ?_
    refine r_bipush (v := nI 57) qX4_isDigit_7 (by decide) ?_
    refine r_icmp_gt (t := 16) qX4_isDigit_9 (by decide) (fun hc9 => ?_) (fun hc9 => ?_)
    · refine r_iconst (v := nI 0) qX4_isDigit_16 (by decide) ?_
      refine r_iret qX4_isDigit_17 rfl (by first | decide | exact zb_nar _ | assumption) rfl rfl ?_
      first | (rw [zb_f (by simp only [Int32.lt_iff_toInt_lt, Int32.le_iff_toInt_le, show (nI 48).toInt = 48 by decide, show (nI 57).toInt = 57 by decide] at *; omega)] at hK; exact hK) | (rw [zb_t (by simp only [Int32.lt_iff_toInt_lt, Int32.le_iff_toInt_le, show (nI 48).toInt = 48 by decide, show (nI 57).toInt = 57 by decide] at *; omega)] at hK; exact hK)
    · refine r_iconst (v := nI 1) qX4_isDigit_12 (by decide) ?_
      refine r_goto (t := 17) qX4_isDigit_13 (by decide) ?_
      refine r_iret qX4_isDigit_17 rfl (by first | decide | exact zb_nar _ | assumption) rfl rfl ?_
      first | (rw [zb_f (by simp only [Int32.lt_iff_toInt_lt, Int32.le_iff_toInt_le, show (nI 48).toInt = 48 by decide, show (nI 57).toInt = 57 by decide] at *; omega)] at hK; exact hK) | (rw [zb_t (by simp only [Int32.lt_iff_toInt_lt, Int32.le_iff_toInt_le, show (nI 48).toInt = 48 by decide, show (nI 57).toInt = 57 by decide] at *; omega)] at hK; exact hK)
set_option maxHeartbeats 4000000 in
set_option maxRecDepth 20000 in
theorem c_X4_isGood {E : Ev} {g : Sh} {i : Ni} {j : Nj} {K : Kp} {x : Nat} (h1 : gT g x = 5) (hK : K (.inl (some (.int (zb (i x 12 = 0))))) g i j) : zCon E mX4_isGood [.ref x] g i j K := by
  refine zcon_of (by decide +kernel) rfl rfl (lo := [.ref x]) rfl (fun X => ?_)
  refine r_aload_n qX4_isGood_0 rfl ?_
  refine r_geti qX4_isGood_1 fX4_250 rfl (by assumption) ?_
  refine r_if_ne (t := 11) qX4_isGood_4 (by decide) (fun hc4 => ?_) (fun hc4 => ?_)
  · refine r_iconst (v := nI 0) qX4_isGood_11 (by decide) ?_
    refine r_iret qX4_isGood_12 rfl (by first | decide | exact zb_nar _ | assumption) rfl rfl ?_
    first | (rw [zb_f hc4] at hK; exact hK) | (rw [zb_t hc4] at hK; exact hK)
  · refine r_iconst (v := nI 1) qX4_isGood_7 (by decide) ?_
    refine r_goto (t := 12) qX4_isGood_8 (by decide) ?_
    refine r_iret qX4_isGood_12 rfl (by first | decide | exact zb_nar _ | assumption) rfl rfl ?_
    first | (rw [zb_f hc4] at hK; exact hK) | (rw [zb_t hc4] at hK; exact hK)
set_option maxHeartbeats 4000000 in
set_option maxRecDepth 20000 in
theorem c_X4_isWord {E : Ev} {g : Sh} {i : Ni} {j : Nj} {K : Kp} {x : Nat} {v : Int64} (h1 : gT g x = 5) (hK : K (.inl (some (.int (zb (i x 7 = nI 1 ∧ i x 9 ≤ nI 8 ∧ j x 10 = v))))) g i j) : zCon E mX4_isWord [.ref x, .long v] g i j K := by
  refine zcon_of (by decide +kernel) rfl rfl (lo := [.ref x, .long v, zJ]) rfl (fun X => ?_)
  refine r_aload_n qX4_isWord_0 rfl ?_
  refine r_geti qX4_isWord_1 fX4_235 rfl (by assumption) ?_
  refine r_iconst (v := nI 1) qX4_isWord_4 (by decide) ?_
  refine r_icmp_ne (t := 30) qX4_isWord_5 (by decide) (fun hc5 => ?_) (fun hc5 => ?_)
  · refine r_iconst (v := nI 0) qX4_isWord_30 (by decide) ?_
    refine r_iret qX4_isWord_31 rfl (by first | decide | exact zb_nar _ | assumption) rfl rfl ?_
    first | (rw [zb_f (fun h => hc5 h.1)] at hK; exact hK) | (rw [zb_f (fun h => absurd h.2.1 (Int32.not_le.mpr hc14))] at hK; exact hK) | (rw [zb_f (fun h => hc23 ((lg_cmp_eq _ _).mpr h.2.2))] at hK; exact hK) | (rw [zb_t ⟨hc5, Int32.not_lt.mp hc14, (lg_cmp_eq _ _).mp hc23⟩] at hK; exact hK)
  · refine r_aload_n qX4_isWord_8 rfl ?_
    refine r_geti qX4_isWord_9 fX4_226 rfl (by assumption) ?_
    refine r_bipush (v := nI 8) qX4_isWord_12 (by decide) ?_
    refine r_icmp_gt (t := 30) qX4_isWord_14 (by decide) (fun hc14 => ?_) (fun hc14 => ?_)
    · refine r_iconst (v := nI 0) qX4_isWord_30 (by decide) ?_
      refine r_iret qX4_isWord_31 rfl (by first | decide | exact zb_nar _ | assumption) rfl rfl ?_
      first | (rw [zb_f (fun h => hc5 h.1)] at hK; exact hK) | (rw [zb_f (fun h => absurd h.2.1 (Int32.not_le.mpr hc14))] at hK; exact hK) | (rw [zb_f (fun h => hc23 ((lg_cmp_eq _ _).mpr h.2.2))] at hK; exact hK) | (rw [zb_t ⟨hc5, Int32.not_lt.mp hc14, (lg_cmp_eq _ _).mp hc23⟩] at hK; exact hK)
    · refine r_aload_n qX4_isWord_17 rfl ?_
      refine r_getl qX4_isWord_18 fX4_229 rfl (by assumption) ?_
      refine r_lload_n qX4_isWord_21 rfl ?_
      refine r_lcmp qX4_isWord_22 ?_
      refine r_if_ne (t := 30) qX4_isWord_23 (by decide) (fun hc23 => ?_) (fun hc23 => ?_)
      · refine r_iconst (v := nI 0) qX4_isWord_30 (by decide) ?_
        refine r_iret qX4_isWord_31 rfl (by first | decide | exact zb_nar _ | assumption) rfl rfl ?_
        first | (rw [zb_f (fun h => hc5 h.1)] at hK; exact hK) | (rw [zb_f (fun h => absurd h.2.1 (Int32.not_le.mpr hc14))] at hK; exact hK) | (rw [zb_f (fun h => hc23 ((lg_cmp_eq _ _).mpr h.2.2))] at hK; exact hK) | (rw [zb_t ⟨hc5, Int32.not_lt.mp hc14, (lg_cmp_eq _ _).mp hc23⟩] at hK; exact hK)
      · refine r_iconst (v := nI 1) qX4_isWord_26 (by decide) ?_
        refine r_goto (t := 31) qX4_isWord_27 (by decide) ?_
        refine r_iret qX4_isWord_31 rfl (by first | decide | exact zb_nar _ | assumption) rfl rfl ?_
        first | (rw [zb_f (fun h => hc5 h.1)] at hK; exact hK) | (rw [zb_f (fun h => absurd h.2.1 (Int32.not_le.mpr hc14))] at hK; exact hK) | (rw [zb_f (fun h => hc23 ((lg_cmp_eq _ _).mpr h.2.2))] at hK; exact hK) | (rw [zb_t ⟨hc5, Int32.not_lt.mp hc14, (lg_cmp_eq _ _).mp hc23⟩] at hK; exact hK)

