set_option maxHeartbeats 4000000 in
set_option maxRecDepth 20000 in
theorem c_X4_isScaled {E : Ev} {g : Sh} {i : Ni} {j : Nj} {K : Kp} {x r k : Nat} (hM : zM g x r) (hO : zOk (i r)) (hk : k < zn (i r 5)) (hK : K (.inl (some (.int (zb (2 ≤ sMany (i r) k))))) g i j) : zCon E mX4_isScaled [.ref x, .int (nI k)] g i j K := by
  refine zcon_of (by decide +kernel) rfl rfl (lo := [.ref x, .int (nI k)]) rfl (fun X => ?_)
  have hM' := hM
  obtain ⟨h1, h2, h3, h4⟩ := hM
  have h8 := hO.k8 hk
  obtain ⟨hm, hm6⟩ := hO.many hk
  refine r_aload_n qX4_isScaled_0 rfl ?_
  refine r_iload_n qX4_isScaled_1 rfl ?_
  refine r_bipush (v := nI 8) qX4_isScaled_2 (by decide) ?_
  refine r_cv2 (cu2 := 0) (su2 := 0) qX4_isScaled_4 kX4_148 rfl (by decide +kernel) (c := 4) (by assumption) (by decide) rfl rfl rfl rfl rfl rfl ?_
  refine c_X4_of (by first | assumption | omega | rfl | decide) (by first | assumption | omega | rfl | decide) ?_
  show zR E _ _ X 7 _ _ _ _ _ _ _
  rw [hm]
  refine r_iconst (v := nI 1) qX4_isScaled_7 (by decide) ?_
  refine r_icmp_le (t := 15) qX4_isScaled_8 (by decide) (fun hc8 => ?_) (fun hc8 => ?_)
  · refine r_iconst (v := nI 0) qX4_isScaled_15 (by decide) ?_
    refine r_iret qX4_isScaled_16 rfl (by first | decide | exact zb_nar _ | assumption) rfl rfl ?_
    first | (rw [zb_f (fun h => nI_ge (a := 1) (by omega) (by omega) hc8)] at hK; exact hK) | (rw [zb_t (by rcases Nat.lt_or_ge 1 (sMany (i r) k) with h | h; exact h; exact absurd (nI_le h (by omega)) hc8)] at hK; exact hK)
  · refine r_iconst (v := nI 1) qX4_isScaled_11 (by decide) ?_
    refine r_goto (t := 16) qX4_isScaled_12 (by decide) ?_
    refine r_iret qX4_isScaled_16 rfl (by first | decide | exact zb_nar _ | assumption) rfl rfl ?_
    first | (rw [zb_f (fun h => nI_ge (a := 1) (by omega) (by omega) hc8)] at hK; exact hK) | (rw [zb_t (by rcases Nat.lt_or_ge 1 (sMany (i r) k) with h | h; exact h; exact absurd (nI_le h (by omega)) hc8)] at hK; exact hK)
set_option maxHeartbeats 4000000 in
set_option maxRecDepth 20000 in
theorem c_X4_pointBy {E : Ev} {g : Sh} {i : Ni} {j : Nj} {K : Kp} {x r k : Nat} {s : Int32} (hM : zM g x r) (hO : zOk (i r)) (hk : k < zn (i r 5)) (hK : K (.inl (some (.int (nI (sBy (sDeg (i r) k) s (sMany (i r) k)))))) g i j) : zCon E mX4_pointBy [.ref x, .int (nI k), .int s] g i j K := by
  refine zcon_of (by decide +kernel) rfl rfl (lo := [.ref x, .int (nI k), .int s, zJ, zJ]) rfl (fun X => ?_)
  have hM' := hM
  obtain ⟨h1, h2, h3, h4⟩ := hM
  have h8 := hO.k8 hk
  obtain ⟨hm, hm6⟩ := hO.many hk
  generalize hmm : sMany (i r) k = m at *
  have K5 : ∀ n p : Nat, n = m - p → 1 ≤ p → (p ≤ m ∨ p = 1) → zR E mX4_pointBy (zZ E mX4_pointBy K) X 5 [.ref x, .int (nI k), .int s, .int (nI (sBy (sDeg (i r) k) s p)), .int (nI p)] [] g i j 0 0 := by
    intro n
    induction n with
    | zero =>
      intro p hp hp1 hpm
      have e : sBy (sDeg (i r) k) s p = sBy (sDeg (i r) k) s m := by
        rcases Nat.lt_or_ge m p with h | h
        · obtain rfl : p = 1 := by omega
          obtain rfl : m = 0 := by omega
          rfl
        · rw [show p = m by omega]
      rw [e]
      refine r_iload qX4_pointBy_5 rfl ?_
      refine r_aload_n qX4_pointBy_7 rfl ?_
      refine r_iload_n qX4_pointBy_8 rfl ?_
      refine r_bipush (v := nI 8) qX4_pointBy_9 (by decide) ?_
      refine r_cv2 (cu2 := 0) (su2 := 0) qX4_pointBy_11 kX4_148 rfl (by decide +kernel) (c := 4) (by assumption) (by decide) rfl rfl rfl rfl rfl rfl ?_
      refine c_X4_of (by first | assumption | omega | rfl | decide) (by first | assumption | omega | rfl | decide) ?_
      show zR E _ _ X 14 _ _ _ _ _ _ _
      rw [hm]
      refine r_icmp_ge (t := 50) qX4_pointBy_14 (by decide) (fun hc14 => ?_) (fun hc14 => absurd hc14 (fun h => h (nI_le (by omega) (by omega))))
      refine r_iload_n qX4_pointBy_50 rfl ?_
      refine r_iret qX4_pointBy_51 rfl rfl rfl rfl ?_
      exact hK
    | succ n ih =>
      intro p hp hp1 hpm
      have hpl : p < m := by omega
      have hbl := sBy_lt (sDeg (i r) k) s hp1
      have e : sBy (sDeg (i r) k) s (p + 1) = if s * sDeg (i r) k p < s * sDeg (i r) k (sBy (sDeg (i r) k) s p) then p else sBy (sDeg (i r) k) s p := by
        rw [sBy, if_neg (by omega)]
      refine r_iload qX4_pointBy_5 rfl ?_
      refine r_aload_n qX4_pointBy_7 rfl ?_
      refine r_iload_n qX4_pointBy_8 rfl ?_
      refine r_bipush (v := nI 8) qX4_pointBy_9 (by decide) ?_
      refine r_cv2 (cu2 := 0) (su2 := 0) qX4_pointBy_11 kX4_148 rfl (by decide +kernel) (c := 4) (by assumption) (by decide) rfl rfl rfl rfl rfl rfl ?_
      refine c_X4_of (by first | assumption | omega | rfl | decide) (by first | assumption | omega | rfl | decide) ?_
      show zR E _ _ X 14 _ _ _ _ _ _ _
      rw [hm]
      refine r_icmp_ge (t := 50) qX4_pointBy_14 (by decide) (fun hc14 => absurd hc14 (nI_ge hpl (by omega))) (fun hc14 => ?_)
      refine r_iload_n qX4_pointBy_17 rfl ?_
      refine r_aload_n qX4_pointBy_18 rfl ?_
      refine r_iload_n qX4_pointBy_19 rfl ?_
      refine r_iload qX4_pointBy_20 rfl ?_
      refine r_cv2 (cu2 := 0) (su2 := 0) qX4_pointBy_22 kX4_172 rfl (by decide +kernel) (c := 4) (by assumption) (by decide) rfl rfl rfl rfl rfl rfl ?_
      refine c_X4_degreesOf (by first | assumption | omega | rfl | decide) (by first | assumption | omega | rfl | decide) (by first | assumption | omega | rfl | decide) ?_
      show zR E _ _ X 25 _ _ _ _ _ _ _
      first | with_reducible refine r_imulN qX4_pointBy_25 ?_ | refine r_imul qX4_pointBy_25 ?_
      refine r_iload_n qX4_pointBy_26 rfl ?_
      refine r_aload_n qX4_pointBy_27 rfl ?_
      refine r_iload_n qX4_pointBy_28 rfl ?_
      refine r_iload_n qX4_pointBy_29 rfl ?_
      refine r_cv2 (cu2 := 0) (su2 := 0) qX4_pointBy_30 kX4_172 rfl (by decide +kernel) (c := 4) (by assumption) (by decide) rfl rfl rfl rfl rfl rfl ?_
      refine c_X4_degreesOf (by first | assumption | omega | rfl | decide) (by first | assumption | omega | rfl | decide) (by first | assumption | omega | rfl | decide) ?_
      show zR E _ _ X 33 _ _ _ _ _ _ _
      first | with_reducible refine r_imulN qX4_pointBy_33 ?_ | refine r_imul qX4_pointBy_33 ?_
      refine r_icmp_ge (t := 42) qX4_pointBy_34 (by decide) (fun hc34 => ?_) (fun hc34 => ?_)
      · refine r_iload_n qX4_pointBy_42 rfl ?_
        refine r_is_5_3 qX4_pointBy_43 rfl rfl ?_
        refine r_ii_5_4 qX4_pointBy_44 rfl rfl (nI_inc p) ?_
        refine r_goto (t := 5) qX4_pointBy_47 (by decide) ?_
        have z := ih (p + 1) (by omega) (by omega) (by omega); first | (rw [e, if_neg (by exact Int32.not_lt.mpr hc34)] at z; exact z) | (rw [e, if_pos (by exact Int32.not_le.mp hc34)] at z; exact z)
      · refine r_iload qX4_pointBy_37 rfl ?_
        refine r_goto (t := 43) qX4_pointBy_39 (by decide) ?_
        refine r_is_5_3 qX4_pointBy_43 rfl rfl ?_
        refine r_ii_5_4 qX4_pointBy_44 rfl rfl (nI_inc p) ?_
        refine r_goto (t := 5) qX4_pointBy_47 (by decide) ?_
        have z := ih (p + 1) (by omega) (by omega) (by omega); first | (rw [e, if_neg (by exact Int32.not_lt.mpr hc34)] at z; exact z) | (rw [e, if_pos (by exact Int32.not_le.mp hc34)] at z; exact z)
  refine r_iconst (v := nI 0) qX4_pointBy_0 (by decide) ?_
  refine r_is_5_3 qX4_pointBy_1 rfl rfl ?_
  refine r_iconst (v := nI 1) qX4_pointBy_2 (by decide) ?_
  refine r_is_5_4 qX4_pointBy_3 rfl rfl ?_
  exact K5 (m - 1) 1 (by omega) (by omega) (by omega)
set_option maxHeartbeats 4000000 in
set_option maxRecDepth 20000 in
theorem c_X4_tells {E : Ev} {g : Sh} {i : Ni} {j : Nj} {K : Kp} {x r k : Nat} {h : Int32} (hM : zM g x r) (hO : zOk (i r)) (hk : k < zn (i r 5)) (h2m : 2 ≤ sMany (i r) k) (hK : K (.inl (some (.int (sTells (i r) k h)))) g i j) : zCon E mX4_tells [.ref x, .int (nI k), .int h] g i j K := by
  refine zcon_of (by decide +kernel) rfl rfl (lo := [.ref x, .int (nI k), .int h, zJ, zJ, zJ]) rfl (fun X => ?_)
  have hM' := hM
  obtain ⟨h1, h2, h3, h4⟩ := hM
  have h8 := hO.k8 hk
  obtain ⟨hm, hm6⟩ := hO.many hk
  have hl := sBy_lt (sDeg (i r) k) (nI 1) (m := sMany (i r) k) (by omega)
  have ht := sBy_lt (sDeg (i r) k) (-1) (m := sMany (i r) k) (by omega)
  have hz := zOk.span hO hk h2m
  rw [sTells] at hK
  refine r_aload_n qX4_tells_0 rfl ?_
  refine r_iload_n qX4_tells_1 rfl ?_
  refine r_iconst (v := nI 1) qX4_tells_2 (by decide) ?_
  refine r_cv2 (cu2 := 0) (su2 := 0) qX4_tells_3 kX4_192 rfl (by decide +kernel) (c := 4) (by assumption) (by decide) rfl rfl rfl rfl rfl rfl ?_
  refine c_X4_pointBy (by first | assumption | omega | rfl | decide) (by first | assumption | omega | rfl | decide) (by first | assumption | omega | rfl | decide) ?_
  show zR E _ _ X 6 _ _ _ _ _ _ _
  refine r_is_6_3 qX4_tells_6 rfl rfl ?_
  refine r_aload_n qX4_tells_7 rfl ?_
  refine r_iload_n qX4_tells_8 rfl ?_
  refine r_iconst (v := (-1)) qX4_tells_9 (by decide) ?_
  refine r_cv2 (cu2 := 0) (su2 := 0) qX4_tells_10 kX4_192 rfl (by decide +kernel) (c := 4) (by assumption) (by decide) rfl rfl rfl rfl rfl rfl ?_
  refine c_X4_pointBy (by first | assumption | omega | rfl | decide) (by first | assumption | omega | rfl | decide) (by first | assumption | omega | rfl | decide) ?_
  show zR E _ _ X 13 _ _ _ _ _ _ _
  refine r_is_6_4 qX4_tells_13 rfl rfl ?_
  refine r_bipush (v := nI 10) qX4_tells_15 (by decide) ?_
  refine r_aload_n qX4_tells_17 rfl ?_
  refine r_iload_n qX4_tells_18 rfl ?_
  refine r_iload qX4_tells_19 rfl ?_
  refine r_cv2 (cu2 := 0) (su2 := 0) qX4_tells_21 kX4_172 rfl (by decide +kernel) (c := 4) (by assumption) (by decide) rfl rfl rfl rfl rfl rfl ?_
  refine c_X4_degreesOf (by first | assumption | omega | rfl | decide) (by first | assumption | omega | rfl | decide) (by first | assumption | omega | rfl | decide) ?_
  show zR E _ _ X 24 _ _ _ _ _ _ _
  refine r_aload_n qX4_tells_24 rfl ?_
  refine r_iload_n qX4_tells_25 rfl ?_
  refine r_iload_n qX4_tells_26 rfl ?_
  refine r_cv2 (cu2 := 0) (su2 := 0) qX4_tells_27 kX4_172 rfl (by decide +kernel) (c := 4) (by assumption) (by decide) rfl rfl rfl rfl rfl rfl ?_
  refine c_X4_degreesOf (by first | assumption | omega | rfl | decide) (by first | assumption | omega | rfl | decide) (by first | assumption | omega | rfl | decide) ?_
  show zR E _ _ X 30 _ _ _ _ _ _ _
  refine r_isub qX4_tells_30 ?_
  first | with_reducible refine r_imulN qX4_tells_31 ?_ | refine r_imul qX4_tells_31 ?_
  refine r_iload_n qX4_tells_32 rfl ?_
  refine r_aload_n qX4_tells_33 rfl ?_
  refine r_iload_n qX4_tells_34 rfl ?_
  refine r_iload_n qX4_tells_35 rfl ?_
  refine r_cv2 (cu2 := 0) (su2 := 0) qX4_tells_36 kX4_175 rfl (by decide +kernel) (c := 4) (by assumption) (by decide) rfl rfl rfl rfl rfl rfl ?_
  refine c_X4_heightOf (by first | assumption | omega | rfl | decide) (by first | assumption | omega | rfl | decide) (by first | assumption | omega | rfl | decide) ?_
  show zR E _ _ X 39 _ _ _ _ _ _ _
  refine r_isub qX4_tells_39 ?_
  first | with_reducible refine r_imulN qX4_tells_40 ?_ | refine r_imul qX4_tells_40 ?_
  refine r_is_6_5 qX4_tells_41 rfl rfl ?_
  refine r_bipush (v := nI 10) qX4_tells_43 (by decide) ?_
  refine r_aload_n qX4_tells_45 rfl ?_
  refine r_iload_n qX4_tells_46 rfl ?_
  refine r_iload_n qX4_tells_47 rfl ?_
  refine r_cv2 (cu2 := 0) (su2 := 0) qX4_tells_48 kX4_172 rfl (by decide +kernel) (c := 4) (by assumption) (by decide) rfl rfl rfl rfl rfl rfl ?_
  refine c_X4_degreesOf (by first | assumption | omega | rfl | decide) (by first | assumption | omega | rfl | decide) (by first | assumption | omega | rfl | decide) ?_
  show zR E _ _ X 51 _ _ _ _ _ _ _
  first | with_reducible refine r_imulN qX4_tells_51 ?_ | refine r_imul qX4_tells_51 ?_
  refine r_iload qX4_tells_52 rfl ?_
  refine r_aload_n qX4_tells_54 rfl ?_
  refine r_iload_n qX4_tells_55 rfl ?_
  refine r_iload qX4_tells_56 rfl ?_
  refine r_cv2 (cu2 := 0) (su2 := 0) qX4_tells_58 kX4_175 rfl (by decide +kernel) (c := 4) (by assumption) (by decide) rfl rfl rfl rfl rfl rfl ?_
  refine c_X4_heightOf (by first | assumption | omega | rfl | decide) (by first | assumption | omega | rfl | decide) (by first | assumption | omega | rfl | decide) ?_
  show zR E _ _ X 61 _ _ _ _ _ _ _
  refine r_aload_n qX4_tells_61 rfl ?_
  refine r_iload_n qX4_tells_62 rfl ?_
  refine r_iload_n qX4_tells_63 rfl ?_
  refine r_cv2 (cu2 := 0) (su2 := 0) qX4_tells_64 kX4_175 rfl (by decide +kernel) (c := 4) (by assumption) (by decide) rfl rfl rfl rfl rfl rfl ?_
  refine c_X4_heightOf (by first | assumption | omega | rfl | decide) (by first | assumption | omega | rfl | decide) (by first | assumption | omega | rfl | decide) ?_
  show zR E _ _ X 67 _ _ _ _ _ _ _
  refine r_isub qX4_tells_67 ?_
  refine r_idiv qX4_tells_68 (by assumption) ?_
  first | with_reducible refine r_iaddN qX4_tells_69 ?_ | refine r_iadd qX4_tells_69 ?_
  refine r_iret qX4_tells_70 rfl rfl rfl rfl ?_
  exact hK
set_option maxHeartbeats 4000000 in
set_option maxRecDepth 20000 in
theorem c_X4_readNow {E : Ev} {g : Sh} {i : Ni} {j : Nj} {K : Kp} {x r k : Nat} (hM : zM g x r) (hO : zOk (i r)) (hk : k < zn (i r 5)) (h2m : 2 ≤ sMany (i r) k) (hK : K (.inl (some (.int (sRead (i r) k)))) g i j) : zCon E mX4_readNow [.ref x, .int (nI k)] g i j K := by
  refine zcon_of (by decide +kernel) rfl rfl (lo := [.ref x, .int (nI k)]) rfl (fun X => ?_)
  have hM' := hM
  obtain ⟨h1, h2, h3, h4⟩ := hM
  have h8 := hO.k8 hk
  have hf := hO.f hk
  refine r_aload_n qX4_readNow_0 rfl ?_
  refine r_iload_n qX4_readNow_1 rfl ?_
  refine r_aload_n qX4_readNow_2 rfl ?_
  refine r_iload_n qX4_readNow_3 rfl ?_
  refine r_cv1 (cu2 := 0) (su2 := 0) qX4_readNow_4 kX4_186 rfl (by decide +kernel) (c := 4) (by assumption) (by decide) rfl rfl rfl rfl rfl rfl ?_
  refine c_X4_heightNow (by first | assumption | omega | rfl | decide) (by first | assumption | omega | rfl | decide) ?_
  show zR E _ _ X 7 _ _ _ _ _ _ _
  refine r_cv2 (cu2 := 0) (su2 := 0) qX4_readNow_7 kX4_195 rfl (by decide +kernel) (c := 4) (by assumption) (by decide) rfl rfl rfl rfl rfl rfl ?_
  refine c_X4_tells (by first | assumption | omega | rfl | decide) (by first | assumption | omega | rfl | decide) (by first | assumption | omega | rfl | decide) (by first | assumption | omega | rfl | decide) ?_
  show zR E _ _ X 10 _ _ _ _ _ _ _
  refine r_iret qX4_readNow_10 rfl rfl rfl rfl ?_
  exact hK
set_option maxHeartbeats 4000000 in
set_option maxRecDepth 20000 in
theorem c_X4_fitOf {E : Ev} {g : Sh} {i : Ni} {j : Nj} {K : Kp} {x r k : Nat} (hM : zM g x r) (hO : zOk (i r)) (hk : k < zn (i r 5)) (h2m : 2 ≤ sMany (i r) k) (hK : K (.inl (some (.int (sFit (i r) k (sMany (i r) k))))) g i j) : zCon E mX4_fitOf [.ref x, .int (nI k)] g i j K := by
  refine zcon_of (by decide +kernel) rfl rfl (lo := [.ref x, .int (nI k), zJ, zJ]) rfl (fun X => ?_)
  have hM' := hM
  obtain ⟨h1, h2, h3, h4⟩ := hM
  have h8 := hO.k8 hk
  obtain ⟨hm, hm6⟩ := hO.many hk
  generalize hmm : sMany (i r) k = m at *
  have K4 : ∀ n p : Nat, n = m - p → p ≤ m → zR E mX4_fitOf (zZ E mX4_fitOf K) X 4 [.ref x, .int (nI k), .int (sFit (i r) k p), .int (nI p)] [] g i j 0 0 := by
    intro n
    induction n with
    | zero =>
      intro p hp hpm
      obtain rfl : p = m := by omega
      refine r_iload_n qX4_fitOf_4 rfl ?_
      refine r_aload_n qX4_fitOf_5 rfl ?_
      refine r_iload_n qX4_fitOf_6 rfl ?_
      refine r_bipush (v := nI 8) qX4_fitOf_7 (by decide) ?_
      refine r_cv2 (cu2 := 0) (su2 := 0) qX4_fitOf_9 kX4_148 rfl (by decide +kernel) (c := 4) (by assumption) (by decide) rfl rfl rfl rfl rfl rfl ?_
      refine c_X4_of (by first | assumption | omega | rfl | decide) (by first | assumption | omega | rfl | decide) ?_
      show zR E _ _ X 12 _ _ _ _ _ _ _
      rw [hm]
      refine r_icmp_ge (t := 50) qX4_fitOf_12 (by decide) (fun hc12 => ?_) (fun hc12 => absurd hc12 (fun h => h (nI_le (by omega) (by omega))))
      refine r_iload_n qX4_fitOf_50 rfl ?_
      refine r_iret qX4_fitOf_51 rfl rfl rfl rfl ?_
      exact hK
    | succ n ih =>
      intro p hp hpm
      have hpl : p < m := by omega
      refine r_iload_n qX4_fitOf_4 rfl ?_
      refine r_aload_n qX4_fitOf_5 rfl ?_
      refine r_iload_n qX4_fitOf_6 rfl ?_
      refine r_bipush (v := nI 8) qX4_fitOf_7 (by decide) ?_
      refine r_cv2 (cu2 := 0) (su2 := 0) qX4_fitOf_9 kX4_148 rfl (by decide +kernel) (c := 4) (by assumption) (by decide) rfl rfl rfl rfl rfl rfl ?_
      refine c_X4_of (by first | assumption | omega | rfl | decide) (by first | assumption | omega | rfl | decide) ?_
      show zR E _ _ X 12 _ _ _ _ _ _ _
      rw [hm]
      refine r_icmp_ge (t := 50) qX4_fitOf_12 (by decide) (fun hc12 => absurd hc12 (nI_ge hpl (by omega))) (fun hc12 => ?_)
      refine r_iload_n qX4_fitOf_15 rfl ?_
      refine r_bipush (v := nI 10) qX4_fitOf_16 (by decide) ?_
      refine r_aload_n qX4_fitOf_18 rfl ?_
      refine r_iload_n qX4_fitOf_19 rfl ?_
      refine r_iload_n qX4_fitOf_20 rfl ?_
      refine r_cv2 (cu2 := 0) (su2 := 0) qX4_fitOf_21 kX4_172 rfl (by decide +kernel) (c := 4) (by assumption) (by decide) rfl rfl rfl rfl rfl rfl ?_
      refine c_X4_degreesOf (by first | assumption | omega | rfl | decide) (by first | assumption | omega | rfl | decide) (by first | assumption | omega | rfl | decide) ?_
      show zR E _ _ X 24 _ _ _ _ _ _ _
      first | with_reducible refine r_imulN qX4_fitOf_24 ?_ | refine r_imul qX4_fitOf_24 ?_
      refine r_aload_n qX4_fitOf_25 rfl ?_
      refine r_iload_n qX4_fitOf_26 rfl ?_
      refine r_aload_n qX4_fitOf_27 rfl ?_
      refine r_iload_n qX4_fitOf_28 rfl ?_
      refine r_iload_n qX4_fitOf_29 rfl ?_
      refine r_cv2 (cu2 := 0) (su2 := 0) qX4_fitOf_30 kX4_175 rfl (by decide +kernel) (c := 4) (by assumption) (by decide) rfl rfl rfl rfl rfl rfl ?_
      refine c_X4_heightOf (by first | assumption | omega | rfl | decide) (by first | assumption | omega | rfl | decide) (by first | assumption | omega | rfl | decide) ?_
      show zR E _ _ X 33 _ _ _ _ _ _ _
      refine r_cv2 (cu2 := 0) (su2 := 0) qX4_fitOf_33 kX4_195 rfl (by decide +kernel) (c := 4) (by assumption) (by decide) rfl rfl rfl rfl rfl rfl ?_
      refine c_X4_tells hM' hO hk (by omega) ?_
      show zR E _ _ X 36 _ _ _ _ _ _ _
      refine r_isub qX4_fitOf_36 ?_
      refine r_mabs qX4_fitOf_37 kX4_198 rfl rfl rfl rfl ?_
      refine r_mmax qX4_fitOf_40 kX4_201 rfl rfl rfl rfl ?_
      refine r_is_4_2 qX4_fitOf_43 rfl rfl ?_
      refine r_ii_4_3 qX4_fitOf_44 rfl rfl (nI_inc p) ?_
      refine r_goto (t := 4) qX4_fitOf_47 (by decide) ?_
      exact ih (p + 1) (by omega) (by omega)
  refine r_iconst (v := nI 0) qX4_fitOf_0 (by decide) ?_
  refine r_is_4_2 qX4_fitOf_1 rfl rfl ?_
  refine r_iconst (v := nI 0) qX4_fitOf_2 (by decide) ?_
  refine r_is_4_3 qX4_fitOf_3 rfl rfl ?_
  exact K4 m 0 (by omega) (by omega)
set_option maxHeartbeats 4000000 in
set_option maxRecDepth 20000 in
theorem c_X4_lose {E : Ev} {g : Sh} {i : Ni} {j : Nj} {K : Kp} {x r k : Nat} {b : Int32} (hM : zM g x r) (hk : zTf (i r) k) (hK : K (.inl none) g (wA i r (sLose (i r) k b)) j) : zCon E mX4_lose [.ref x, .int (nI k), .int b] g i j K := by
  refine zcon_of (by decide +kernel) rfl rfl (lo := [.ref x, .int (nI k), .int b, zJ]) rfl (fun X => ?_)
  have hM' := hM
  obtain ⟨h1, h2, h3, h4⟩ := hM
  obtain ⟨h8, ⟨s, hs, hs5⟩, hb⟩ := hk
  rw [sLose, hs, zn_nI (by omega)] at hK
  refine r_aload_n qX4_lose_0 rfl ?_
  refine r_iload_n qX4_lose_1 rfl ?_
  refine r_iconst (v := nI 0) qX4_lose_2 (by decide) ?_
  refine r_cv2 (cu2 := 0) (su2 := 0) qX4_lose_3 kX4_148 rfl (by decide +kernel) (c := 4) (by assumption) (by decide) rfl rfl rfl rfl rfl rfl ?_
  refine c_X4_of (by first | assumption | omega | rfl | decide) (by first | assumption | omega | rfl | decide) ?_
  show zR E _ _ X 6 _ _ _ _ _ _ _
  rw [hs]
  refine r_is_4_3 qX4_lose_6 rfl rfl ?_
  refine r_aload_n qX4_lose_7 rfl ?_
  refine r_iload_n qX4_lose_8 rfl ?_
  refine r_iconst (v := nI 4) qX4_lose_9 (by decide) ?_
  refine r_aload_n qX4_lose_10 rfl ?_
  refine r_iload_n qX4_lose_11 rfl ?_
  refine r_iconst (v := nI 4) qX4_lose_12 (by decide) ?_
  refine r_cv2 (cu2 := 0) (su2 := 0) qX4_lose_13 kX4_148 rfl (by decide +kernel) (c := 4) (by assumption) (by decide) rfl rfl rfl rfl rfl rfl ?_
  refine c_X4_of (by first | assumption | omega | rfl | decide) (by first | assumption | omega | rfl | decide) ?_
  show zR E _ _ X 16 _ _ _ _ _ _ _
  refine r_iload_n qX4_lose_16 rfl ?_
  refine r_isub qX4_lose_17 ?_
  refine r_cv3 (cu2 := 0) (su2 := 0) qX4_lose_18 kX4_137 rfl (by decide +kernel) (c := 4) (by assumption) (by decide) rfl rfl rfl rfl rfl rfl ?_
  refine c_X4_set0 (by first | assumption | omega | rfl | decide) (by first | assumption | omega | rfl | decide) ?_
  show zR E _ _ X 21 _ _ _ _ _ _ _
  refine r_aload_n qX4_lose_21 rfl ?_
  refine r_getr qX4_lose_22 fX4_24 rfl (by assumption) (by first | assumption | rfl) ?_
  refine r_bipush (v := nI 10) qX4_lose_25 (by decide) ?_
  refine r_iconst (v := nI 4) qX4_lose_27 (by decide) ?_
  refine r_iload_n qX4_lose_28 rfl ?_
  first | with_reducible refine r_imulN qX4_lose_29 ?_ | refine r_imul qX4_lose_29 ?_
  first | with_reducible refine r_iaddN qX4_lose_30 ?_ | refine r_iadd qX4_lose_30 ?_
  refine r_iconst (v := nI 3) qX4_lose_31 (by decide) ?_
  first | with_reducible refine r_iaddN qX4_lose_32 ?_ | refine r_iadd qX4_lose_32 ?_
  refine r_dup2 qX4_lose_33 rfl rfl ?_
  refine r_ialdN qX4_lose_34 (by assumption) (by assumption) (by omega) rfl ?_
  simp only [wA_s, wA_wA]; rw [pk_un (by omega)]
  refine r_iload_n qX4_lose_35 rfl ?_
  first | with_reducible refine r_iaddN qX4_lose_36 ?_ | refine r_iadd qX4_lose_36 ?_
  refine r_iastN qX4_lose_37 (by assumption) (by assumption) (by omega) rfl ?_
  simp only [wA_s, wA_wA]
  refine r_vret qX4_lose_38 rfl rfl rfl ?_
  exact hK
set_option maxHeartbeats 4000000 in
set_option maxRecDepth 20000 in
theorem c_X4_lostAll {E : Ev} {g : Sh} {i : Ni} {j : Nj} {K : Kp} {x r : Nat} (hM : zM g x r) (hS : i r 3 = nI (zn (i r 3))) (hS5 : zn (i r 3) ≤ 5) (hK : K (.inl (some (.int (sLost (i r) (zn (i r 3)))))) g i j) : zCon E mX4_lostAll [.ref x] g i j K := by
  refine zcon_of (by decide +kernel) rfl rfl (lo := [.ref x, zJ, zJ]) rfl (fun X => ?_)
  have hM' := hM
  obtain ⟨h1, h2, h3, h4⟩ := hM
  generalize hmm : zn (i r 3) = m at *
  have K4 : ∀ n p : Nat, n = m - p → p ≤ m → zR E mX4_lostAll (zZ E mX4_lostAll K) X 4 [.ref x, .int (sLost (i r) p), .int (nI p)] [] g i j 0 0 := by
    intro n
    induction n with
    | zero =>
      intro p hp hpm
      obtain rfl : p = m := by omega
      refine r_iload_n qX4_lostAll_4 rfl ?_
      refine r_aload_n qX4_lostAll_5 rfl ?_
      refine r_getr qX4_lostAll_6 fX4_24 rfl (by assumption) (by first | assumption | rfl) ?_
      refine r_iconst (v := nI 3) qX4_lostAll_9 (by decide) ?_
      refine r_ialdN qX4_lostAll_10 (by assumption) (by assumption) (by omega) rfl ?_
      rw [hS]
      refine r_icmp_ge (t := 29) qX4_lostAll_11 (by decide) (fun hc11 => ?_) (fun hc11 => absurd hc11 (fun h => h (nI_le (by omega) (by omega))))
      refine r_iload_n qX4_lostAll_29 rfl ?_
      refine r_iret qX4_lostAll_30 rfl rfl rfl rfl ?_
      exact hK
    | succ n ih =>
      intro p hp hpm
      have hpl : p < m := by omega
      refine r_iload_n qX4_lostAll_4 rfl ?_
      refine r_aload_n qX4_lostAll_5 rfl ?_
      refine r_getr qX4_lostAll_6 fX4_24 rfl (by assumption) (by first | assumption | rfl) ?_
      refine r_iconst (v := nI 3) qX4_lostAll_9 (by decide) ?_
      refine r_ialdN qX4_lostAll_10 (by assumption) (by assumption) (by omega) rfl ?_
      rw [hS]
      refine r_icmp_ge (t := 29) qX4_lostAll_11 (by decide) (fun hc11 => absurd hc11 (nI_ge hpl (by omega))) (fun hc11 => ?_)
      refine r_iload_n qX4_lostAll_14 rfl ?_
      refine r_aload_n qX4_lostAll_15 rfl ?_
      refine r_iload_n qX4_lostAll_16 rfl ?_
      refine r_iconst (v := nI 3) qX4_lostAll_17 (by decide) ?_
      refine r_cv2 (cu2 := 0) (su2 := 0) qX4_lostAll_18 kX4_152 rfl (by decide +kernel) (c := 4) (by assumption) (by decide) rfl rfl rfl rfl rfl rfl ?_
      refine c_X4_ofSpirit (by first | assumption | omega | rfl | decide) (by first | assumption | omega | rfl | decide) ?_
      show zR E _ _ X 21 _ _ _ _ _ _ _
      first | with_reducible refine r_iaddN qX4_lostAll_21 ?_ | refine r_iadd qX4_lostAll_21 ?_
      refine r_is_3_1 qX4_lostAll_22 rfl rfl ?_
      refine r_ii_3_2 qX4_lostAll_23 rfl rfl (nI_inc p) ?_
      refine r_goto (t := 4) qX4_lostAll_26 (by decide) ?_
      exact ih (p + 1) (by omega) (by omega)
  refine r_iconst (v := nI 0) qX4_lostAll_0 (by decide) ?_
  refine r_is_3_1 qX4_lostAll_1 rfl rfl ?_
  refine r_iconst (v := nI 0) qX4_lostAll_2 (by decide) ?_
  refine r_is_3_2 qX4_lostAll_3 rfl rfl ?_
  exact K4 m 0 (by omega) (by omega)

