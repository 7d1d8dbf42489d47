/-! ===== THE MODEL'S BUFFER AND ITS PRINTED TEXT ===== -/
theorem zW.bb {g : Sh} {x n d b p s o : Nat} (h : zW g x n d b p s o) : b ≠ x ∧ gT g b = 12 ∧ gL g b = 600 := by
  obtain ⟨w1, -, -, -, -, -, -, -, -, ⟨w8, w9⟩, -⟩ := h
  refine ⟨?_, w8, w9⟩
  rintro rfl
  omega
theorem zW.oo {g : Sh} {x n d b p s o : Nat} (h : zW g x n d b p s o) : o ≠ x ∧ n ≠ o ∧ gR g x 34 = o ∧ gT g o = 11 ∧ gL g o = 100 := by
  obtain ⟨w1, -, -, -, -, -, w7, -, -, -, -, -, ⟨w8, w9⟩, -, -, -, w10, -⟩ := h
  refine ⟨?_, w10, w7, w8, w9⟩
  rintro rfl
  omega
set_option maxHeartbeats 4000000 in
set_option maxRecDepth 20000 in
theorem c_X4_errorCode {E : Ev} {g : Sh} {i : Ni} {j : Nj} {K : Kp} {x n d b p s o : Nat} (hW : zW g x n d b p s o) (hK : K (.inl (some (.int (i x 32)))) g (wA i x (upd (i x) 0 (nI 0))) j) : zCon E mX4_errorCode [.ref x] g i j K := by
  refine zcon_of (by decide +kernel) rfl rfl (lo := [.ref x]) rfl (fun X => ?_)
  have w1 := hW.1
  refine r_aload_n qX4_errorCode_0 rfl ?_
  refine r_iconst (v := nI 0) qX4_errorCode_1 (by decide) ?_
  refine r_puti qX4_errorCode_2 fX4_3 (Or.inl rfl) rfl rfl rfl (by assumption) ?_
  refine r_aload_n qX4_errorCode_5 rfl ?_
  refine r_geti qX4_errorCode_6 fX4_381 rfl (by assumption) ?_
  rw [wA_s, pk_un (by omega)]
  refine r_iret qX4_errorCode_9 rfl rfl rfl rfl ?_
  exact hK
set_option maxHeartbeats 4000000 in
set_option maxRecDepth 20000 in
theorem c_X4_errorOffset {E : Ev} {g : Sh} {i : Ni} {j : Nj} {K : Kp} {x n d b p s o : Nat} (hW : zW g x n d b p s o) (hK : K (.inl (some (.int (i x 33)))) g (wA i x (upd (i x) 0 (nI 0))) j) : zCon E mX4_errorOffset [.ref x] g i j K := by
  refine zcon_of (by decide +kernel) rfl rfl (lo := [.ref x]) rfl (fun X => ?_)
  have w1 := hW.1
  refine r_aload_n qX4_errorOffset_0 rfl ?_
  refine r_iconst (v := nI 0) qX4_errorOffset_1 (by decide) ?_
  refine r_puti qX4_errorOffset_2 fX4_3 (Or.inl rfl) rfl rfl rfl (by assumption) ?_
  refine r_aload_n qX4_errorOffset_5 rfl ?_
  refine r_geti qX4_errorOffset_6 fX4_112 rfl (by assumption) ?_
  rw [wA_s, pk_un (by omega)]
  refine r_iret qX4_errorOffset_9 rfl rfl rfl rfl ?_
  exact hK
/-- the byte of v above w bits, as it is stored -/
def sByt (v : Int32) (w : Nat) : Int32 := ((v >>> (nI w &&& 31)).toInt8.toInt32).toInt8.toInt32
def sStore (P : Nat → Int32) (f : Nat) (v : Int32) : Nat → Int32 := upd (upd (upd (upd P f (sByt v 24)) (f + 1) (sByt v 16)) (f + 2) (sByt v 8)) (f + 3) (sByt v 0)
theorem st_dec (q : Nat) : nI (8 * (q + 1)) - nI 8 + Int32.ofInt (-8) = nI (8 * q) - nI 8 := by
  have h : nI (8 * (q + 1)) = nI (8 * q) + nI 8 := by rw [nI_add, Nat.mul_succ]
  rw [h, Int32.add_sub_cancel, Int32.sub_eq_add_neg, show Int32.ofInt (-8) = - nI 8 by decide]
theorem st_sh (q : Nat) : nI (8 * (q + 1)) - nI 8 = nI (8 * q) := by
  rw [nI_sub (by omega), show 8 * (q + 1) - 8 = 8 * q by omega]
-- BEGIN
theorem st_d2 (q : Nat) : nI (8 * q) + Int32.ofInt (-8) = nI (8 * q) - nI 8 := by
  rw [Int32.sub_eq_add_neg, show Int32.ofInt (-8) = - nI 8 by decide]
def sSt (P : Nat → Int32) (e : Nat) (v : Int32) : Nat → Nat → Int32
  | 0 => P
  | q + 1 => sSt (upd P e (sByt v (8 * q))) (e + 1) v q
set_option maxHeartbeats 4000000 in
set_option maxRecDepth 20000 in
theorem c_X4_store {E : Ev} {g : Sh} {i : Ni} {j : Nj} {K : Kp} {x n d b p s o f : Nat} {v : Int32} (hW : zW g x n d b p s o) (hf : i x 5 = nI f) (hf4 : f + 4 ≤ 600) (hK : ∀ i' : Ni, i' x = upd (i x) 5 (nI (f + 4)) → i' b = sStore (i b) f v → (∀ r, r ≠ x → r ≠ b → i' r = i r) → K (.inl none) g i' j) : zCon E mX4_store [.ref x, .int v] g i j K := by
  refine zcon_of (by decide +kernel) rfl rfl (lo := [.ref x, .int v, zJ]) rfl (fun X => ?_)
  have w1 := hW.1
  have w4 := hW.2.2.2.1
  obtain ⟨bx, w8, w9⟩ := hW.bb
  have xb := Ne.symm bx
  have KL : ∀ q : Nat, ∀ (i0 : Ni) (e : Nat), q ≤ 4 → e + q ≤ 600 → i0 x 5 = nI e → (∀ i' : Ni, i' x = upd (i0 x) 5 (nI (e + q)) → i' b = sSt (i0 b) e v q → (∀ r, r ≠ x → r ≠ b → i' r = i0 r) → K (.inl none) g i' j) → zR E mX4_store (zZ E mX4_store K) X 3 [.ref x, .int v, .int (nI (8 * q) - nI 8)] [] g i0 j 0 0 := by
    clear hK hf
    intro q
    induction q with
    | zero =>
      intro i0 e hq he h5 hK
      refine r_iload_n qX4_store_3 rfl ?_
      refine r_if_lt (t := 36) qX4_store_4 (by decide) (fun hc4 => ?_) (fun hc4 => absurd hc4 (by decide))
      refine r_vret qX4_store_36 rfl rfl rfl ?_
      exact hK i0 (yup_same h5).symm rfl (fun r _ _ => rfl)
    | succ q ih =>
      intro i0 e hq he h5 hK
      rw [st_sh]
      refine r_iload_n qX4_store_3 rfl ?_
      refine r_if_lt (t := 36) qX4_store_4 (by decide) (fun hc4 => absurd hc4 (nI_pos (by omega))) (fun hc4 => ?_)
      refine r_aload_n qX4_store_7 rfl ?_
      refine r_getr qX4_store_8 fX4_27 rfl (by assumption) (by first | assumption | rfl) ?_
      refine r_aload_n qX4_store_11 rfl ?_
      refine r_geti qX4_store_12 fX4_214 rfl (by assumption) ?_
      rw [h5]
      refine r_iload_n qX4_store_15 rfl ?_
      refine r_iload_n qX4_store_16 rfl ?_
      refine r_ishr qX4_store_17 ?_
      refine r_i2b qX4_store_18 ?_
      refine r_bastN qX4_store_19 (by assumption) (by assumption) (by omega) rfl ?_
      refine r_aload_n qX4_store_20 rfl ?_
      refine r_dup qX4_store_21 rfl ?_
      refine r_geti qX4_store_22 fX4_214 rfl (by assumption) ?_
      rw [wA_n xb, h5]
      refine r_iconst (v := nI 1) qX4_store_25 (by decide) ?_
      first | with_reducible refine r_iaddN qX4_store_26 ?_ | refine r_iadd qX4_store_26 ?_
      refine r_puti qX4_store_27 fX4_214 (Or.inl rfl) rfl rfl rfl (by assumption) ?_
      refine r_ii_3_2 qX4_store_30 rfl rfl (st_d2 q) ?_
      refine r_goto (t := 3) qX4_store_33 (by decide) ?_
      refine ih _ (e + 1) (by omega) (by omega) (by rw [wA_s, pk_us]) (fun i' a1 a2 a3 => hK i' ?_ ?_ ?_)
      · rw [a1, wA_s, wA_n xb, yup_twice, show e + 1 + q = e + (q + 1) by omega]
      · rw [a2, wA_n bx, wA_s]; rfl
      · exact fun r h1 h2 => by rw [a3 r h1 h2, wA_n h1, wA_n h2]
  refine r_bipush (v := nI 24) qX4_store_0 (by decide) ?_
  refine r_is_3_2 qX4_store_2 rfl rfl ?_
  exact KL 4 i f (by omega) (by omega) hf hK
def sApp (P : Nat → Int32) (f : Nat) (a0 a1 a2 a3 a4 : Int32) : Nat → Int32 := sStore (sStore (sStore (sStore (sStore P f a0) (f + 4) a1) (f + 8) a2) (f + 12) a3) (f + 16) a4
set_option maxHeartbeats 4000000 in
set_option maxRecDepth 20000 in
theorem c_X4_append {E : Ev} {g : Sh} {i : Ni} {j : Nj} {K : Kp} {x n d b p s o f : Nat} {a0 a1 a2 a3 a4 : Int32} (hW : zW g x n d b p s o) (hf : i x 5 = nI f) (hf6 : f ≤ 600) (hK0 : ¬ f + 20 ≤ 600 → ∀ i' : Ni, i' x = upd (i x) 0 (c3 (f + 20 ≤ 600) True True) → (∀ r, r ≠ x → i' r = i r) → K (.inl (some (.int (nI 0)))) g i' j) (hK1 : f + 20 ≤ 600 → ∀ i' : Ni, i' x = upd (upd (i x) 0 (nI 0)) 5 (nI (f + 20)) → i' b = sApp (i b) f a0 a1 a2 a3 a4 → (∀ r, r ≠ x → r ≠ b → i' r = i r) → K (.inl (some (.int (nI (f + 20))))) g i' j) : zCon E mX4_append [.ref x, .int a0, .int a1, .int a2, .int a3, .int a4] g i j K := by
  refine zcon_of (by decide +kernel) rfl rfl (lo := [.ref x, .int a0, .int a1, .int a2, .int a3, .int a4]) rfl (fun X => ?_)
  have w1 := hW.1
  obtain ⟨bx, -, -⟩ := hW.bb
  have KP : zR E mX4_append (zZ E mX4_append K) X 19 [.ref x, .int a0, .int a1, .int a2, .int a3, .int a4] [.int (zb (f + 20 ≤ 600)), .ref x] g i j 0 0 := by
    refine r_cv1 (cu2 := 0) (su2 := 0) qX4_append_19 kX4_371 rfl (by decide +kernel) (c := 4) (by assumption) (by decide) rfl rfl rfl rfl rfl rfl ?_
    refine c_X4_passes1 (by first | assumption | omega | rfl | decide) ?_
    show zR E _ _ X 22 _ _ _ _ _ _ _
    generalize hi : wA i x (upd (i x) 0 (c3 (f + 20 ≤ 600) True True)) = i'
    have ex : i' x = upd (i x) 0 (c3 (f + 20 ≤ 600) True True) := by rw [← hi, wA_s]
    have eo : ∀ r, r ≠ x → i' r = i r := fun r hr => by rw [← hi]; exact wA_n hr
    clear hi
    refine r_if_ne (t := 27) qX4_append_22 (by decide) (fun hc22 => ?_) (fun hc22 => ?_)
    · have hv := zb_ne.mp hc22; replace hK1 := hK1 hv; rw [c3_0 hv trivial trivial] at ex
      refine r_aload_n qX4_append_27 rfl ?_
      refine r_iload_n qX4_append_28 rfl ?_
      refine r_cv1 (cu2 := 0) (su2 := 0) qX4_append_29 kX4_375 rfl (by decide +kernel) (c := 4) (by assumption) (by decide) rfl rfl rfl rfl rfl rfl ?_
      refine c_X4_store hW (f := f) (by rw [ex, pk_un (by omega)]; exact hf) (by omega) (fun i1 b1 b2 b3 => ?_)
      show zR E _ _ X 32 _ _ _ _ _ _ _
      refine r_aload_n qX4_append_32 rfl ?_
      refine r_iload_n qX4_append_33 rfl ?_
      refine r_cv1 (cu2 := 0) (su2 := 0) qX4_append_34 kX4_375 rfl (by decide +kernel) (c := 4) (by assumption) (by decide) rfl rfl rfl rfl rfl rfl ?_
      refine c_X4_store hW (f := f + 4) (by rw [b1, pk_us]) (by omega) (fun i2 c1 c2 c4 => ?_)
      show zR E _ _ X 37 _ _ _ _ _ _ _
      refine r_aload_n qX4_append_37 rfl ?_
      refine r_iload_n qX4_append_38 rfl ?_
      refine r_cv1 (cu2 := 0) (su2 := 0) qX4_append_39 kX4_375 rfl (by decide +kernel) (c := 4) (by assumption) (by decide) rfl rfl rfl rfl rfl rfl ?_
      refine c_X4_store hW (f := f + 4 + 4) (by rw [c1, pk_us]) (by omega) (fun i3 d1 d2 d3 => ?_)
      show zR E _ _ X 42 _ _ _ _ _ _ _
      refine r_aload_n qX4_append_42 rfl ?_
      refine r_iload qX4_append_43 rfl ?_
      refine r_cv1 (cu2 := 0) (su2 := 0) qX4_append_45 kX4_375 rfl (by decide +kernel) (c := 4) (by assumption) (by decide) rfl rfl rfl rfl rfl rfl ?_
      refine c_X4_store hW (f := f + 4 + 4 + 4) (by rw [d1, pk_us]) (by omega) (fun i4 f1 f2 f3 => ?_)
      show zR E _ _ X 48 _ _ _ _ _ _ _
      refine r_aload_n qX4_append_48 rfl ?_
      refine r_iload qX4_append_49 rfl ?_
      refine r_cv1 (cu2 := 0) (su2 := 0) qX4_append_51 kX4_375 rfl (by decide +kernel) (c := 4) (by assumption) (by decide) rfl rfl rfl rfl rfl rfl ?_
      refine c_X4_store hW (f := f + 4 + 4 + 4 + 4) (by rw [f1, pk_us]) (by omega) (fun i5 e1 e2 e3 => ?_)
      show zR E _ _ X 54 _ _ _ _ _ _ _
      refine r_aload_n qX4_append_54 rfl ?_
      refine r_geti qX4_append_55 fX4_214 rfl (by assumption) ?_
      rw [e1, pk_us]
      refine r_iret qX4_append_58 rfl rfl rfl rfl ?_
      exact hK1 _ (by rw [e1, f1, d1, c1, b1, ex, yup_twice, yup_twice, yup_twice, yup_twice]) (by rw [e2, f2, d2, c2, b2, eo b bx]; rfl) (fun r h1 h2 => by rw [e3 r h1 h2, f3 r h1 h2, d3 r h1 h2, c4 r h1 h2, b3 r h1 h2]; exact eo r h1)
    · have hv := zb_0.mp hc22; replace hK0 := hK0 hv
      refine r_iconst (v := nI 0) qX4_append_25 (by decide) ?_
      refine r_iret qX4_append_26 rfl rfl rfl rfl ?_
      exact hK0 _ ex eo
  refine r_aload_n qX4_append_0 rfl ?_
  refine r_aload_n qX4_append_1 rfl ?_
  refine r_geti qX4_append_2 fX4_214 rfl (by assumption) ?_
  rw [hf]
  refine r_bipush (v := nI 20) qX4_append_5 (by decide) ?_
  first | with_reducible refine r_iaddN qX4_append_7 ?_ | refine r_iadd qX4_append_7 ?_
  refine r_sipush (v := nI 600) qX4_append_8 (by decide) ?_
  refine r_icmp_gt (t := 18) qX4_append_11 (by decide) (fun hc11 => ?_) (fun hc11 => ?_)
  · refine r_iconst (v := nI 0) qX4_append_18 (by decide) ?_
    first | (rw [zb_f (p := f + 20 ≤ 600) (fun h => nI_nlt h (by omega) hc11)] at KP; exact KP) | (rw [zb_t (p := f + 20 ≤ 600) (by rcases Nat.lt_or_ge 600 (f + 20) with h | h; exact absurd (nI_lt h (by omega)) hc11; exact h)] at KP; exact KP)
  · refine r_iconst (v := nI 1) qX4_append_14 (by decide) ?_
    refine r_goto (t := 19) qX4_append_15 (by decide) ?_
    first | (rw [zb_f (p := f + 20 ≤ 600) (fun h => nI_nlt h (by omega) hc11)] at KP; exact KP) | (rw [zb_t (p := f + 20 ≤ 600) (by rcases Nat.lt_or_ge 600 (f + 20) with h | h; exact absurd (nI_lt h (by omega)) hc11; exact h)] at KP; exact KP)
set_option maxHeartbeats 4000000 in
set_option maxRecDepth 20000 in
theorem c_X4_truncate {E : Ev} {g : Sh} {i : Ni} {j : Nj} {K : Kp} {x n d b p s o f : Nat} {v : Int32} (hW : zW g x n d b p s o) (hf : i x 5 = nI f) (hf6 : f ≤ 600) (hK0 : ¬ (0 ≤ v.toInt ∧ v.toInt ≤ (f : Int)) → ∀ i' : Ni, i' x = upd (i x) 0 (c3 (0 ≤ v.toInt ∧ v.toInt ≤ (f : Int)) True True) → (∀ r, r ≠ x → i' r = i r) → K (.inl (some (.int (nI 0)))) g i' j) (hK1 : (0 ≤ v.toInt ∧ v.toInt ≤ (f : Int)) → ∀ i' : Ni, i' x = upd (upd (i x) 0 (nI 0)) 5 v → (∀ r, r ≠ x → i' r = i r) → K (.inl (some (.int v))) g i' j) : zCon E mX4_truncate [.ref x, .int v] g i j K := by
  refine zcon_of (by decide +kernel) rfl rfl (lo := [.ref x, .int v]) rfl (fun X => ?_)
  have w1 := hW.1
  refine r_aload_n qX4_truncate_0 rfl ?_
  refine r_iload_n qX4_truncate_1 rfl ?_
  refine r_i2l qX4_truncate_2 ?_
  refine r_lconst (v := 0) qX4_truncate_3 (by decide) ?_
  refine r_aload_n qX4_truncate_4 rfl ?_
  refine r_geti qX4_truncate_5 fX4_214 rfl (by assumption) ?_
  rw [hf]
  refine r_i2l qX4_truncate_8 ?_
  refine r_cs3 (cu2 := 0) (su2 := 0) qX4_truncate_9 kX4_276 rfl (by decide +kernel) rfl rfl rfl rfl rfl ?_
  refine c_X4_in ?_
  show zR E _ _ X 12 _ _ _ _ _ _ _
  rw [zb_c (show ((0 : Int64).toInt ≤ v.toInt64.toInt ∧ v.toInt64.toInt ≤ (nI f).toInt64.toInt) ↔ (0 ≤ v.toInt ∧ v.toInt ≤ (f : Int)) by rw [Int32.toInt_toInt64, Int32.toInt_toInt64, nI_toInt (by omega)]; exact Iff.rfl)]
  refine r_cv1 (cu2 := 0) (su2 := 0) qX4_truncate_12 kX4_371 rfl (by decide +kernel) (c := 4) (by assumption) (by decide) rfl rfl rfl rfl rfl rfl ?_
  refine c_X4_passes1 (by first | assumption | omega | rfl | decide) ?_
  show zR E _ _ X 15 _ _ _ _ _ _ _
  generalize hi : wA i x (upd (i x) 0 (c3 (0 ≤ v.toInt ∧ v.toInt ≤ (f : Int)) True True)) = i'
  have ex : i' x = upd (i x) 0 (c3 (0 ≤ v.toInt ∧ v.toInt ≤ (f : Int)) True True) := by rw [← hi, wA_s]
  have eo : ∀ r, r ≠ x → i' r = i r := fun r hr => by rw [← hi]; exact wA_n hr
  clear hi
  refine r_if_ne (t := 20) qX4_truncate_15 (by decide) (fun hc15 => ?_) (fun hc15 => ?_)
  · have hv := zb_ne.mp hc15; replace hK1 := hK1 hv; rw [c3_0 hv trivial trivial] at ex
    refine r_aload_n qX4_truncate_20 rfl ?_
    refine r_iload_n qX4_truncate_21 rfl ?_
    refine r_puti qX4_truncate_22 fX4_214 (Or.inl rfl) rfl rfl rfl (by assumption) ?_
    refine r_iload_n qX4_truncate_25 rfl ?_
    refine r_iret qX4_truncate_26 rfl rfl rfl rfl ?_
    exact hK1 _ (by rw [wA_s, ex]) (fun r hr => by rw [wA_n hr]; exact eo r hr)
  · have hv := zb_0.mp hc15; replace hK0 := hK0 hv
    refine r_iconst (v := nI 0) qX4_truncate_18 (by decide) ?_
    refine r_iret qX4_truncate_19 rfl rfl rfl rfl ?_
    exact hK0 _ ex eo
set_option maxHeartbeats 4000000 in
set_option maxRecDepth 20000 in
theorem c_X4_outputByte {E : Ev} {g : Sh} {i : Ni} {j : Nj} {K : Kp} {x n d b p s o m : Nat} {v : Int32} (hW : zW g x n d b p s o) (hm : i x 35 = nI m) (hm1 : m ≤ 100) (hK : K (.inl (some (.int (if tv (nI m) v then i o (zn v) else nI 0)))) g (wA i x (upd (i x) 0 (c3 (tv (nI m) v) True True))) j) : zCon E mX4_outputByte [.ref x, .int v] g i j K := by
  refine zcon_of (by decide +kernel) rfl rfl (lo := [.ref x, .int v]) rfl (fun X => ?_)
  have w1 := hW.1
  obtain ⟨ox, -, w7, w8, w9⟩ := hW.oo
  refine r_aload_n qX4_outputByte_0 rfl ?_
  refine r_iload_n qX4_outputByte_1 rfl ?_
  refine r_i2l qX4_outputByte_2 ?_
  refine r_lconst (v := 0) qX4_outputByte_3 (by decide) ?_
  refine r_aload_n qX4_outputByte_4 rfl ?_
  refine r_geti qX4_outputByte_5 fX4_463 rfl (by assumption) ?_
  rw [hm]
  refine r_iconst (v := nI 1) qX4_outputByte_8 (by decide) ?_
  refine r_isub qX4_outputByte_9 ?_
  refine r_i2l qX4_outputByte_10 ?_
  refine r_cs3 (cu2 := 0) (su2 := 0) qX4_outputByte_11 kX4_276 rfl (by decide +kernel) rfl rfl rfl rfl rfl ?_
  refine c_X4_in ?_
  show zR E _ _ X 14 _ _ _ _ _ _ _
  rw [zb_c (tv_in (n := nI m) rfl (by omega))]
  refine r_cv1 (cu2 := 0) (su2 := 0) qX4_outputByte_14 kX4_371 rfl (by decide +kernel) (c := 4) (by assumption) (by decide) rfl rfl rfl rfl rfl rfl ?_
  refine c_X4_passes1 (by first | assumption | omega | rfl | decide) ?_
  show zR E _ _ X 17 _ _ _ _ _ _ _
  generalize hi : wA i x (upd (i x) 0 (c3 (tv (nI m) v) True True)) = i' at hK ⊢
  have hn : i' o = i o := by rw [← hi]; exact wA_n ox
  clear hi
  refine r_if_eq (t := 29) qX4_outputByte_17 (by decide) (fun hc17 => ?_) (fun hc17 => ?_)
  · rw [if_neg (zb_0.mp hc17)] at hK
    refine r_iconst (v := nI 0) qX4_outputByte_29 (by decide) ?_
    refine r_iret qX4_outputByte_30 rfl rfl rfl rfl ?_
    exact hK
  · have hv := zb_ne.mp hc17; rw [if_pos hv] at hK; obtain ⟨e, hk⟩ := tv_nat hv; rw [zn_nI (by omega)] at hk; rw [e]
    refine r_aload_n qX4_outputByte_20 rfl ?_
    refine r_getr qX4_outputByte_21 fX4_115 rfl (by assumption) (by first | assumption | rfl) ?_
    refine r_iload_n qX4_outputByte_24 rfl ?_
    refine r_ialdN qX4_outputByte_25 (by assumption) (by assumption) (by omega) rfl ?_
    rw [hn]
    refine r_goto (t := 30) qX4_outputByte_26 (by decide) ?_
    refine r_iret qX4_outputByte_30 rfl rfl rfl rfl ?_
    exact hK
/-- the text printed: out's first numbers are l -/
def zL (f h : Nat → Int32) (l : List Int32) : Prop := f 35 = nI l.length ∧ l.length ≤ 100 ∧ ∀ k, k < l.length → h k = l.getD k 0
theorem zL.put {f h : Nat → Int32} {l : List Int32} {c : Int32} (hl : zL f h l) (h1 : l.length < 100) : zL (upd f 35 (nI (l.length + 1))) (upd h l.length c) (l ++ [c]) := by
  obtain ⟨a, b, e⟩ := hl
  refine ⟨by rw [pk_us, List.length_append]; rfl, by rw [List.length_append]; exact h1, fun k hk => ?_⟩
  rw [List.length_append] at hk
  by_cases h2 : k = l.length
  · subst h2
    rw [pk_us]
    simp
  · have h3 : k < l.length := by
      have : ([c] : List Int32).length = 1 := rfl
      omega
    rw [pk_un h2, e k h3]
    simp [List.getD, List.getElem?_append_left h3]
set_option maxHeartbeats 4000000 in
set_option maxRecDepth 20000 in
theorem c_X4_put {E : Ev} {g : Sh} {i : Ni} {j : Nj} {K : Kp} {x n d b p s o : Nat} {l : List Int32} {c : Int32} (hW : zW g x n d b p s o) (hl : zL (i x) (i o) l) (hl1 : l.length < 100) (hK : ∀ i' : Ni, i' x = upd (i x) 35 (nI (l.length + 1)) → zL (i' x) (i' o) (l ++ [c]) → (∀ r, r ≠ x → r ≠ o → i' r = i r) → K (.inl none) g i' j) : zCon E mX4_put [.ref x, .int c] g i j K := by
  refine zcon_of (by decide +kernel) rfl rfl (lo := [.ref x, .int c]) rfl (fun X => ?_)
  have w1 := hW.1
  obtain ⟨ox, -, w7, w8, w9⟩ := hW.oo
  have xo := Ne.symm ox
  have hm := hl.1
  refine r_aload_n qX4_put_0 rfl ?_
  refine r_getr qX4_put_1 fX4_115 rfl (by assumption) (by first | assumption | rfl) ?_
  refine r_aload_n qX4_put_4 rfl ?_
  refine r_geti qX4_put_5 fX4_463 rfl (by assumption) ?_
  rw [hm]
  refine r_iload_n qX4_put_8 rfl ?_
  refine r_iastN qX4_put_9 (by assumption) (by assumption) (by omega) rfl ?_
  refine r_aload_n qX4_put_10 rfl ?_
  refine r_dup qX4_put_11 rfl ?_
  refine r_geti qX4_put_12 fX4_463 rfl (by assumption) ?_
  rw [wA_n xo, hm]
  refine r_iconst (v := nI 1) qX4_put_15 (by decide) ?_
  first | with_reducible refine r_iaddN qX4_put_16 ?_ | refine r_iadd qX4_put_16 ?_
  refine r_puti qX4_put_17 fX4_463 (Or.inl rfl) rfl rfl rfl (by assumption) ?_
  refine r_vret qX4_put_20 rfl rfl rfl ?_
  exact hK _ (by rw [wA_s, wA_n xo]) (by rw [wA_s, wA_n ox, wA_s, wA_n xo]; exact hl.put hl1) (fun r h1 h2 => by rw [wA_n h1, wA_n h2])

