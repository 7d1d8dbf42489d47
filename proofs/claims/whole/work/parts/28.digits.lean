/-! ===== NUMBERS AS DIGITS; LETTERS OF A NAME ===== -/
theorem nI_mulN (a b : Nat) : nI a * nI b = nI (a * b) := (Int32.ofNat_mul a b).symm
theorem nI_div {a b : Nat} (ha : a < 2 ^ 31) (hb : b < 2 ^ 31) (h0 : 0 < b) : nI a / nI b = nI (a / b) := by
  have h1 : a / b < 2 ^ 31 := Nat.lt_of_le_of_lt (Nat.div_le_self a b) ha
  refine Int32.toInt_inj.mp ?_
  rw [Int32.toInt_div_of_ne_right _ _ (by intro h; have := congrArg Int32.toInt h; rw [nI_toInt hb, show ((-1 : Int32)).toInt = -1 by decide] at this; omega), nI_toInt ha, nI_toInt hb, nI_toInt h1]
  exact (Int.ofNat_tdiv a b).symm
theorem nI_rem {a b : Nat} (ha : a < 2 ^ 31) (hb : b < 2 ^ 31) (h0 : 0 < b) : nI a - nI a / nI b * nI b = nI (a % b) := by
  rw [nI_div ha hb h0, nI_mulN, nI_sub (Nat.div_mul_le_self a b)]
  congr 1
  have := Nat.div_add_mod a b
  rw [Nat.mul_comm] at this
  omega
/-- the last e digits of w, the greatest first -/
def dgs (w : Nat) : Nat → List Int32
  | 0 => []
  | e + 1 => nI (48 + w / 10 ^ e % 10) :: dgs w e
def ndg (w : Nat) : Nat := if w < 10 then 1 else if w < 100 then 2 else if w < 1000 then 3 else if w < 10000 then 4 else if w < 100000 then 5 else if w < 1000000 then 6 else if w < 10000000 then 7 else if w < 100000000 then 8 else if w < 1000000000 then 9 else 10
def dig (w : Nat) : List Int32 := dgs w (ndg w)
theorem ndg_of {w e : Nat} (he : e ≤ 9) (h1 : w < 10 ^ (e + 1) ∨ e = 9) (h2 : 10 ^ e ≤ w ∨ e = 0) : ndg w = e + 1 := by
  unfold ndg
  rcases (show e = 0 ∨ e = 1 ∨ e = 2 ∨ e = 3 ∨ e = 4 ∨ e = 5 ∨ e = 6 ∨ e = 7 ∨ e = 8 ∨ e = 9 by omega) with rfl | rfl | rfl | rfl | rfl | rfl | rfl | rfl | rfl | rfl <;> simp only [Nat.reducePow, Nat.reduceAdd] at h1 h2 <;> repeat (first | rw [if_pos (by omega)] | rw [if_neg (by omega)])
theorem dgs_len (w : Nat) : ∀ e, (dgs w e).length = e
  | 0 => rfl
  | e + 1 => by rw [dgs, List.length_cons, dgs_len w e]
theorem p10 {e : Nat} (h : e ≤ 9) : 10 ^ e ≤ 1000000000 ∧ 0 < 10 ^ e := ⟨Nat.pow_le_pow_right (by decide) h, Nat.pow_pos (by decide)⟩
theorem nI_dec (a : Nat) : nI (a + 1) + Int32.ofInt (-1) = nI a := by
  rw [show Int32.ofInt (-1) = - 1 by decide, ← Int32.sub_eq_add_neg]
  exact nI_pred a
def dsz (e : Nat) : Int32 := if e = 0 then nI 0 else nI (10 ^ (e - 1))
theorem dsz_s {e : Nat} (h : e ≤ 9) : nI (10 ^ e) / nI 10 = dsz e := by
  have := p10 h
  rw [nI_div (by omega) (by decide) (by decide), dsz]
  by_cases h0 : e = 0
  · subst h0; rfl
  · rw [if_neg h0]
    obtain ⟨m, rfl⟩ : ∃ m, e = m + 1 := ⟨e - 1, by omega⟩
    rw [Nat.pow_succ, Nat.mul_div_cancel _ (by decide)]
    rfl
set_option maxHeartbeats 4000000 in
set_option maxRecDepth 20000 in
theorem c_X4_putNumber {E : Ev} {g : Sh} {i : Ni} {j : Nj} {K : Kp} {x n d b p s o w : Nat} {l : List Int32} (hW : zW g x n d b p s o) (hw : w < 2 ^ 31) (hl : zL (i x) (i o) l) (hl1 : l.length ≤ 90) (hK : ∀ i' : Ni, zL (i' x) (i' o) (l ++ dig w) → (∀ m, m ≠ 35 → i' x m = i x m) → (∀ r, r ≠ x → r ≠ o → i' r = i r) → K (.inl none) g i' j) : zCon E mX4_putNumber [.ref x, .int (nI w)] g i j K := by
  refine zcon_of (by decide +kernel) rfl rfl (lo := [.ref x, .int (nI w), zJ]) rfl (fun X => ?_)
  have w1 := hW.1
  have K18 : ∀ (e : Nat) (i0 : Ni) (l : List Int32), e ≤ 10 → zL (i0 x) (i0 o) l → l.length + e ≤ 100 → (∀ i' : Ni, zL (i' x) (i' o) (l ++ dgs w e) → (∀ m, m ≠ 35 → i' x m = i0 x m) → (∀ r, r ≠ x → r ≠ o → i' r = i0 r) → K (.inl none) g i' j) → zR E mX4_putNumber (zZ E mX4_putNumber K) X 18 [.ref x, .int (nI w), .int (dsz e)] [] g i0 j 0 0 := by
    clear hK hl hl1
    intro e
    induction e with
    | zero =>
      intro i0 l he hl hl1 hK
      refine r_iload_n qX4_putNumber_18 rfl ?_
      refine r_if_le (t := 43) qX4_putNumber_19 (by decide) (fun hc19 => ?_) (fun hc19 => absurd hc19 (by decide))
      refine r_vret qX4_putNumber_43 rfl rfl rfl ?_
      exact hK i0 (by rw [dgs, List.append_nil]; exact hl) (fun _ _ => rfl) (fun _ _ _ => rfl)
    | succ e ih =>
      intro i0 l he hl hl1 hK
      have hp := p10 (e := e) (by omega)
      rw [show dsz (e + 1) = nI (10 ^ e) from if_neg (by omega)]
      refine r_iload_n qX4_putNumber_18 rfl ?_
      refine r_if_le (t := 43) qX4_putNumber_19 (by decide) (fun hc19 => absurd hc19 (nI_nle hp.2 (by omega))) (fun hc19 => ?_)
      refine r_aload_n qX4_putNumber_22 rfl ?_
      refine r_bipush (v := nI 48) qX4_putNumber_23 (by decide) ?_
      refine r_iload_n qX4_putNumber_25 rfl ?_
      refine r_iload_n qX4_putNumber_26 rfl ?_
      refine r_idiv qX4_putNumber_27 (nI_ne0 hp.2 (by omega)) ?_
      rw [nI_div hw (by omega) hp.2]
      refine r_bipush (v := nI 10) qX4_putNumber_28 (by decide) ?_
      refine r_irem qX4_putNumber_30 (by decide) ?_
      rw [nI_rem (Nat.lt_of_le_of_lt (Nat.div_le_self _ _) hw) (by decide) (by decide)]
      first | with_reducible refine r_iaddN qX4_putNumber_31 ?_ | refine r_iadd qX4_putNumber_31 ?_
      refine r_cv1 (cu2 := 0) (su2 := 0) qX4_putNumber_32 kX4_466 rfl (by decide +kernel) (c := 4) (by assumption) (by decide) rfl rfl rfl rfl rfl rfl ?_
      refine c_X4_put hW (l := l) hl (by omega) (fun i2 r1 r2 r3 => ?_)
      show zR E _ _ X 35 _ _ _ _ _ _ _
      refine r_iload_n qX4_putNumber_35 rfl ?_
      refine r_bipush (v := nI 10) qX4_putNumber_36 (by decide) ?_
      refine r_idiv qX4_putNumber_38 (by decide) ?_
      rw [dsz_s (by omega)]
      refine r_is_3_2 qX4_putNumber_39 rfl rfl ?_
      refine r_goto (t := 18) qX4_putNumber_40 (by decide) ?_
      exact ih i2 _ (by omega) r2 (by rw [List.length_append]; simp only [List.length_cons, List.length_nil]; omega) (fun i' a1 a2 a3 => hK i' (by rw [dgs]; rw [List.append_assoc] at a1; exact a1) (fun m hm => by rw [a2 m hm, r1, pk_un hm]) (fun r h1 h2 => by rw [a3 r h1 h2, r3 r h1 h2]))
  have K2 : ∀ q e : Nat, q + e = 9 → (10 ^ e ≤ w ∨ e = 0) → zR E mX4_putNumber (zZ E mX4_putNumber K) X 2 [.ref x, .int (nI w), .int (nI (10 ^ e))] [] g i j 0 0 := by
    intro q
    induction q with
    | zero =>
      intro e he h2
      obtain rfl : e = 9 := by omega
      have hd : w / 10 < 10 ^ 9 := by omega
      refine r_iload_n qX4_putNumber_2 rfl ?_
      refine r_iload_n qX4_putNumber_3 rfl ?_
      refine r_bipush (v := nI 10) qX4_putNumber_4 (by decide) ?_
      refine r_idiv qX4_putNumber_6 (by decide) ?_
      rw [nI_div hw (by decide) (by decide)]
      refine r_icmp_gt (t := 18) qX4_putNumber_7 (by decide) (fun hc7 => ?_) (fun hc7 => absurd hc7 (fun h => h (nI_lt hd (by omega))))
      exact K18 10 i l (by omega) hl (by omega) (by rw [dig, ndg_of (by omega) (Or.inr rfl) h2] at hK; exact hK)
    | succ q ih =>
      intro e he h2
      have hp := p10 (e := e) (by omega)
      by_cases hd : w / 10 < 10 ^ e
      · skip
        refine r_iload_n qX4_putNumber_2 rfl ?_
        refine r_iload_n qX4_putNumber_3 rfl ?_
        refine r_bipush (v := nI 10) qX4_putNumber_4 (by decide) ?_
        refine r_idiv qX4_putNumber_6 (by decide) ?_
        rw [nI_div hw (by decide) (by decide)]
        refine r_icmp_gt (t := 18) qX4_putNumber_7 (by decide) (fun hc7 => ?_) (fun hc7 => absurd hc7 (fun h => h (nI_lt hd (by omega))))
        exact K18 (e + 1) i l (by omega) hl (by omega) (by rw [dig, ndg_of (by omega) (Or.inl (by rw [Nat.pow_succ]; omega)) h2] at hK; exact hK)
      · skip
        refine r_iload_n qX4_putNumber_2 rfl ?_
        refine r_iload_n qX4_putNumber_3 rfl ?_
        refine r_bipush (v := nI 10) qX4_putNumber_4 (by decide) ?_
        refine r_idiv qX4_putNumber_6 (by decide) ?_
        rw [nI_div hw (by decide) (by decide)]
        refine r_icmp_gt (t := 18) qX4_putNumber_7 (by decide) (fun hc7 => absurd hc7 (nI_nlt (Nat.not_lt.mp hd) (by omega))) (fun hc7 => ?_)
        refine r_iload_n qX4_putNumber_10 rfl ?_
        refine r_bipush (v := nI 10) qX4_putNumber_11 (by decide) ?_
        first | with_reducible refine r_imulN qX4_putNumber_13 ?_ | refine r_imul qX4_putNumber_13 ?_
        rw [show 10 ^ e * 10 = 10 ^ (e + 1) from (Nat.pow_succ ..).symm]
        refine r_is_3_2 qX4_putNumber_14 rfl rfl ?_
        refine r_goto (t := 2) qX4_putNumber_15 (by decide) ?_
        exact ih (e + 1) (by omega) (Or.inl (by rw [Nat.pow_succ]; omega))
  refine r_iconst (v := nI 1) qX4_putNumber_0 (by decide) ?_
  refine r_is_3_2 qX4_putNumber_1 rfl rfl ?_
  exact K2 9 0 rfl (Or.inr rfl)
/-- letter k of a name of L letters that spells w -/
def sLet (w L k : Nat) : Int32 := nI (96 + w / 27 ^ (L - 1 - k) % 27)
set_option maxHeartbeats 4000000 in
set_option maxRecDepth 20000 in
theorem c_X4_letterOf {E : Ev} {g : Sh} {i : Ni} {j : Nj} {K : Kp} {w L k : Nat} (hw : w < 2 ^ 31) (hL : L ≤ 4) (hk : k < L) (hK : K (.inl (some (.int (sLet w L k)))) g i j) : zCon E mX4_letterOf [.int (nI w), .int (nI L), .int (nI k)] g i j K := by
  refine zcon_of (by decide +kernel) rfl rfl (lo := [.int (nI w), .int (nI L), .int (nI k), zJ, zJ]) rfl (fun X => ?_)
  have K7 : ∀ q : Nat, ∀ v : Nat, q ≤ L - 1 - k → v = w / 27 ^ (L - 1 - k - q) → v < 2 ^ 31 → zR E mX4_letterOf (zZ E mX4_letterOf K) X 7 [.int (nI w), .int (nI L), .int (nI k), .int (nI v), .int (nI (k + q))] [] g i j 0 0 := by
    intro q
    induction q with
    | zero =>
      intro v hq hv hv2
      refine r_iload qX4_letterOf_7 rfl ?_
      refine r_iload_n qX4_letterOf_9 rfl ?_
      refine r_icmp_le (t := 24) qX4_letterOf_10 (by decide) (fun hc10 => ?_) (fun hc10 => absurd hc10 (fun h => h (nI_le (by omega) (by omega))))
      refine r_bipush (v := nI 97) qX4_letterOf_24 (by decide) ?_
      refine r_iload_n qX4_letterOf_26 rfl ?_
      refine r_bipush (v := nI 27) qX4_letterOf_27 (by decide) ?_
      refine r_irem qX4_letterOf_29 (by decide) ?_
      rw [nI_rem hv2 (by decide) (by decide)]
      first | with_reducible refine r_iaddN qX4_letterOf_30 ?_ | refine r_iadd qX4_letterOf_30 ?_
      refine r_iconst (v := nI 1) qX4_letterOf_31 (by decide) ?_
      refine r_isub qX4_letterOf_32 ?_
      rw [nI_sub (by omega), show 97 + v % 27 - 1 = 96 + v % 27 by omega, hv]
      refine r_iret qX4_letterOf_33 rfl rfl rfl rfl ?_
      exact hK
    | succ q ih =>
      intro v hq hv hv2
      refine r_iload qX4_letterOf_7 rfl ?_
      refine r_iload_n qX4_letterOf_9 rfl ?_
      refine r_icmp_le (t := 24) qX4_letterOf_10 (by decide) (fun hc10 => absurd hc10 (nI_ge (by omega) (by omega))) (fun hc10 => ?_)
      refine r_iload_n qX4_letterOf_13 rfl ?_
      refine r_bipush (v := nI 27) qX4_letterOf_14 (by decide) ?_
      refine r_idiv qX4_letterOf_16 (by decide) ?_
      rw [nI_div hv2 (by decide) (by decide)]
      refine r_is_5_3 qX4_letterOf_17 rfl rfl ?_
      refine r_ii_5_4 qX4_letterOf_18 rfl rfl (nI_dec (k + q)) ?_
      refine r_goto (t := 7) qX4_letterOf_21 (by decide) ?_
      exact ih (v / 27) (by omega) (by rw [hv, Nat.div_div_eq_div_mul, ← Nat.pow_succ, show (L - 1 - k - (q + 1)).succ = L - 1 - k - q by omega]) (Nat.lt_of_le_of_lt (Nat.div_le_self _ _) hv2)
  refine r_iload_n qX4_letterOf_0 rfl ?_
  refine r_is_5_3 qX4_letterOf_1 rfl rfl ?_
  refine r_iload_n qX4_letterOf_2 rfl ?_
  refine r_iconst (v := nI 1) qX4_letterOf_3 (by decide) ?_
  refine r_isub qX4_letterOf_4 ?_
  rw [nI_sub (by omega), show L - 1 = k + (L - 1 - k) by omega]
  refine r_is_5_4 qX4_letterOf_5 rfl rfl ?_
  exact K7 (L - 1 - k) w (by omega) (by rw [Nat.sub_self, Nat.pow_zero, Nat.div_one]) hw

