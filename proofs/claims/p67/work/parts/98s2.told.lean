/-! ===== P67: WHAT THE LAW ASKS OF A TUBE ===== -/
theorem lo_n {f : Nat → Int32} {p : Nat} (h : f (sBy f (nI 1) p) ≤ f p) : sBy f (nI 1) p = sBy f (nI 1) (p + 1) := by
  simp only [sBy, p1_mul]
  by_cases h0 : p = 0
  · subst h0; rfl
  · rw [if_neg h0, if_neg (Int32.not_lt.mpr h)]
theorem lo_y {f : Nat → Int32} {p : Nat} (h : ¬ f (sBy f (nI 1) p) ≤ f p) : p = sBy f (nI 1) (p + 1) := by
  simp only [sBy, p1_mul]
  by_cases h0 : p = 0
  · subst h0; rfl
  · rw [if_neg h0, if_pos (Int32.not_le.mp h)]
theorem hi_n {f : Nat → Int32} {p m : Nat} (hr : ∀ q, q < m → zIn (f q) (-20) 150) (hp : p < m) (h : f p ≤ f (sBy f (-1) p)) : sBy f (-1) p = sBy f (-1) (p + 1) := by
  simp only [sBy]
  by_cases h0 : p = 0
  · subst h0; rfl
  · have hb := sBy_lt f (-1) (m := p) (by omega)
    rw [if_neg h0, if_neg (mt (m1_lt (hr p hp) (hr _ (by omega))).mp (Int32.not_lt.mpr h))]
theorem hi_y {f : Nat → Int32} {p m : Nat} (hr : ∀ q, q < m → zIn (f q) (-20) 150) (hp : p < m) (h : ¬ f p ≤ f (sBy f (-1) p)) : p = sBy f (-1) (p + 1) := by
  simp only [sBy]
  by_cases h0 : p = 0
  · subst h0; rfl
  · have hb := sBy_lt f (-1) (m := p) (by omega)
    rw [if_neg h0, if_pos ((m1_lt (hr p hp) (hr _ (by omega))).mpr (Int32.not_le.mp h))]
theorem sBy_le (f : Nat → Int32) (s : Int32) {p m : Nat} (hp : p < m) : sBy f s p < m := by
  rcases Nat.eq_zero_or_pos p with h | h
  · subst h; exact Nat.lt_of_le_of_lt (Nat.le_refl 0) hp
  · exact Nat.lt_trans (sBy_lt f s h) hp
set_option maxHeartbeats 4000000 in
set_option maxRecDepth 20000 in
theorem c_L_told {E : Ev} {g : Sh} {i : Ni} {j : Nj} {K : Kp} {c k : Nat} {a : Nat → Nat} {N : Nat → Int32} {v : Int32} (hX : zX3 g c a) (hH : zH i a N) (hk : k < zn (N 5)) (h2 : 2 ≤ sMany N k) (hK : K (.inl (some (.int (sTells N k v)))) g i j) : zCon E mL_told [.ref c, .int (nI k), .int v] g i j K := by
  refine zcon_of (by decide +kernel) rfl rfl (lo := [.ref c, .int (nI k), .int v, zJ, zJ, zJ, zJ]) rfl (fun X => ?_)
  have hm6 := (hH.1.many hk).2
  have x1 := hX.1
  have hr : ∀ q, q < sMany N k → zIn (sDeg N k q) (-20) 150 := fun q hq => ((hH.1.pts hk).1 q hq).1
  have KL : ∀ r p : Nat, p + r = sMany N k → ∀ CU SU : Nat, CU + 9 * r ≤ 54 → SU + 54 * r ≤ 324 → zR E mL_told (zZ E mL_told K) X 8 [.ref c, .int (nI k), .int v, .int (nI (sBy (sDeg N k) (nI 1) p)), .int (nI (sBy (sDeg N k) (-1) p)), .int (nI p), zJ] [] g i j CU SU := by
    intro r
    induction r with
    | zero =>
      intro p hp CU SU hCU hSU
      obtain rfl : p = sMany N k := by omega
      have l1 := sBy_lt (sDeg N k) (nI 1) (m := sMany N k) (by omega)
      have l2 := sBy_lt (sDeg N k) (-1) (m := sMany N k) (by omega)
      refine r_iload qL_told_8 rfl ?_
      refine r_aload_n qL_told_10 rfl ?_
      refine r_iload_n qL_told_11 rfl ?_
      refine r_cv1 (cu2 := CU + 1) (su2 := SU + 6) qL_told_12 kL_175 rfl (by decide +kernel) (c := 3) (by assumption) (by decide) rfl rfl rfl rfl (lbx (m := 64) rfl (by omega)) (lbx (m := 384) rfl (by omega)) ?_
      refine q_pointCount hX hH hk ?_
      show zR E _ _ X 15 _ _ _ _ _ _ _
      refine r_icmp_ge (t := 64) qL_told_15 (by decide) (fun hc15 => ?_) (fun hc15 => absurd hc15 (fun h => h (Int32.le_refl _)))
      refine r_aload_n qL_told_64 rfl ?_
      refine r_iload_n qL_told_65 rfl ?_
      refine r_iload_n qL_told_66 rfl ?_
      refine r_cv2 (cu2 := CU + 3) (su2 := SU + 18) qL_told_67 kL_192 rfl (by decide +kernel) (c := 3) (by assumption) (by decide) rfl rfl rfl rfl (lbx (m := 64) rfl (by omega)) (lbx (m := 384) rfl (by omega)) ?_
      refine q_pointDegrees hX hH hk l1 ?_
      show zR E _ _ X 70 _ _ _ _ _ _ _
      refine r_is_7_5 qL_told_70 rfl rfl ?_
      refine r_aload_n qL_told_72 rfl ?_
      refine r_iload_n qL_told_73 rfl ?_
      refine r_iload_n qL_told_74 rfl ?_
      refine r_cv2 (cu2 := CU + 5) (su2 := SU + 30) qL_told_75 kL_195 rfl (by decide +kernel) (c := 3) (by assumption) (by decide) rfl rfl rfl rfl (lbx (m := 64) rfl (by omega)) (lbx (m := 384) rfl (by omega)) ?_
      refine q_pointHeight hX hH hk l1 ?_
      show zR E _ _ X 78 _ _ _ _ _ _ _
      refine r_is_7_6 qL_told_78 rfl rfl ?_
      refine r_bipush (v := nI 10) qL_told_80 (by decide) ?_
      refine r_iload qL_told_82 rfl ?_
      first | with_reducible refine r_imulN qL_told_84 ?_ | refine r_imul qL_told_84 ?_
      refine r_bipush (v := nI 10) qL_told_85 (by decide) ?_
      refine r_aload_n qL_told_87 rfl ?_
      refine r_iload_n qL_told_88 rfl ?_
      refine r_iload qL_told_89 rfl ?_
      refine r_cv2 (cu2 := CU + 7) (su2 := SU + 42) qL_told_91 kL_192 rfl (by decide +kernel) (c := 3) (by assumption) (by decide) rfl rfl rfl rfl (lbx (m := 64) rfl (by omega)) (lbx (m := 384) rfl (by omega)) ?_
      refine q_pointDegrees hX hH hk l2 ?_
      show zR E _ _ X 94 _ _ _ _ _ _ _
      refine r_iload qL_told_94 rfl ?_
      refine r_isub qL_told_96 ?_
      first | with_reducible refine r_imulN qL_told_97 ?_ | refine r_imul qL_told_97 ?_
      refine r_iload_n qL_told_98 rfl ?_
      refine r_iload qL_told_99 rfl ?_
      refine r_isub qL_told_101 ?_
      first | with_reducible refine r_imulN qL_told_102 ?_ | refine r_imul qL_told_102 ?_
      refine r_aload_n qL_told_103 rfl ?_
      refine r_iload_n qL_told_104 rfl ?_
      refine r_iload qL_told_105 rfl ?_
      refine r_cv2 (cu2 := CU + 9) (su2 := SU + 54) qL_told_107 kL_195 rfl (by decide +kernel) (c := 3) (by assumption) (by decide) rfl rfl rfl rfl (lbx (m := 64) rfl (by omega)) (lbx (m := 384) rfl (by omega)) ?_
      refine q_pointHeight hX hH hk l2 ?_
      show zR E _ _ X 110 _ _ _ _ _ _ _
      refine r_iload qL_told_110 rfl ?_
      refine r_isub qL_told_112 ?_
      refine r_idiv qL_told_113 (hH.1.span hk h2) ?_
      first | with_reducible refine r_iaddN qL_told_114 ?_ | refine r_iadd qL_told_114 ?_
      refine r_iret qL_told_115 rfl rfl (lbx (m := 64) rfl (by omega)) (lbx (m := 384) rfl (by omega)) ?_
      exact hK
    | succ r ih =>
      intro p hp CU SU hCU hSU
      have hpm : p < sMany N k := by omega
      have l1 := sBy_le (sDeg N k) (nI 1) hpm
      have l2 := sBy_le (sDeg N k) (-1) hpm
      have K58 : ∀ lo tp : Nat, lo = sBy (sDeg N k) (nI 1) (p + 1) → tp = sBy (sDeg N k) (-1) (p + 1) → zR E mL_told (zZ E mL_told K) X 58 [.ref c, .int (nI k), .int v, .int (nI lo), .int (nI tp), .int (nI p), zJ] [] g i j (CU + 9) (SU + 54) := by
        intro lo tp e1 e2
        subst e1 e2
        refine r_ii_7_5 qL_told_58 rfl rfl (nI_inc p) ?_
        refine r_goto (t := 8) qL_told_61 (by decide) ?_
        exact ih (p + 1) (by omega) _ _ (by omega) (by omega)
      refine r_iload qL_told_8 rfl ?_
      refine r_aload_n qL_told_10 rfl ?_
      refine r_iload_n qL_told_11 rfl ?_
      refine r_cv1 (cu2 := CU + 1) (su2 := SU + 6) qL_told_12 kL_175 rfl (by decide +kernel) (c := 3) (by assumption) (by decide) rfl rfl rfl rfl (lbx (m := 64) rfl (by omega)) (lbx (m := 384) rfl (by omega)) ?_
      refine q_pointCount hX hH hk ?_
      show zR E _ _ X 15 _ _ _ _ _ _ _
      refine r_icmp_ge (t := 64) qL_told_15 (by decide) (fun hc15 => absurd hc15 (nI_ge hpm (by omega))) (fun hc15 => ?_)
      refine r_aload_n qL_told_18 rfl ?_
      refine r_iload_n qL_told_19 rfl ?_
      refine r_iload qL_told_20 rfl ?_
      refine r_cv2 (cu2 := CU + 3) (su2 := SU + 18) qL_told_22 kL_192 rfl (by decide +kernel) (c := 3) (by assumption) (by decide) rfl rfl rfl rfl (lbx (m := 64) rfl (by omega)) (lbx (m := 384) rfl (by omega)) ?_
      refine q_pointDegrees hX hH hk hpm ?_
      show zR E _ _ X 25 _ _ _ _ _ _ _
      refine r_aload_n qL_told_25 rfl ?_
      refine r_iload_n qL_told_26 rfl ?_
      refine r_iload_n qL_told_27 rfl ?_
      refine r_cv2 (cu2 := CU + 5) (su2 := SU + 30) qL_told_28 kL_192 rfl (by decide +kernel) (c := 3) (by assumption) (by decide) rfl rfl rfl rfl (lbx (m := 64) rfl (by omega)) (lbx (m := 384) rfl (by omega)) ?_
      refine q_pointDegrees hX hH hk l1 ?_
      show zR E _ _ X 31 _ _ _ _ _ _ _
      refine r_icmp_ge (t := 37) qL_told_31 (by decide) (fun hc31 => ?_) (fun hc31 => ?_)
      · refine r_aload_n qL_told_37 rfl ?_
        refine r_iload_n qL_told_38 rfl ?_
        refine r_iload qL_told_39 rfl ?_
        refine r_cv2 (cu2 := CU + 7) (su2 := SU + 42) qL_told_41 kL_192 rfl (by decide +kernel) (c := 3) (by assumption) (by decide) rfl rfl rfl rfl (lbx (m := 64) rfl (by omega)) (lbx (m := 384) rfl (by omega)) ?_
        refine q_pointDegrees hX hH hk hpm ?_
        show zR E _ _ X 44 _ _ _ _ _ _ _
        refine r_aload_n qL_told_44 rfl ?_
        refine r_iload_n qL_told_45 rfl ?_
        refine r_iload qL_told_46 rfl ?_
        refine r_cv2 (cu2 := CU + 9) (su2 := SU + 54) qL_told_48 kL_192 rfl (by decide +kernel) (c := 3) (by assumption) (by decide) rfl rfl rfl rfl (lbx (m := 64) rfl (by omega)) (lbx (m := 384) rfl (by omega)) ?_
        refine q_pointDegrees hX hH hk l2 ?_
        show zR E _ _ X 51 _ _ _ _ _ _ _
        refine r_icmp_le (t := 58) qL_told_51 (by decide) (fun hc51 => ?_) (fun hc51 => ?_)
        · refine K58 _ _ ?_ ?_
          · first | exact lo_n hc31 | exact lo_y hc31
          · first | exact hi_n hr hpm hc51 | exact hi_y hr hpm hc51
        · refine r_iload qL_told_54 rfl ?_
          refine r_is_7_4 qL_told_56 rfl rfl ?_
          refine K58 _ _ ?_ ?_
          · first | exact lo_n hc31 | exact lo_y hc31
          · first | exact hi_n hr hpm hc51 | exact hi_y hr hpm hc51
      · refine r_iload qL_told_34 rfl ?_
        refine r_is_7_3 qL_told_36 rfl rfl ?_
        refine r_aload_n qL_told_37 rfl ?_
        refine r_iload_n qL_told_38 rfl ?_
        refine r_iload qL_told_39 rfl ?_
        refine r_cv2 (cu2 := CU + 7) (su2 := SU + 42) qL_told_41 kL_192 rfl (by decide +kernel) (c := 3) (by assumption) (by decide) rfl rfl rfl rfl (lbx (m := 64) rfl (by omega)) (lbx (m := 384) rfl (by omega)) ?_
        refine q_pointDegrees hX hH hk hpm ?_
        show zR E _ _ X 44 _ _ _ _ _ _ _
        refine r_aload_n qL_told_44 rfl ?_
        refine r_iload_n qL_told_45 rfl ?_
        refine r_iload qL_told_46 rfl ?_
        refine r_cv2 (cu2 := CU + 9) (su2 := SU + 54) qL_told_48 kL_192 rfl (by decide +kernel) (c := 3) (by assumption) (by decide) rfl rfl rfl rfl (lbx (m := 64) rfl (by omega)) (lbx (m := 384) rfl (by omega)) ?_
        refine q_pointDegrees hX hH hk l2 ?_
        show zR E _ _ X 51 _ _ _ _ _ _ _
        refine r_icmp_le (t := 58) qL_told_51 (by decide) (fun hc51 => ?_) (fun hc51 => ?_)
        · refine K58 _ _ ?_ ?_
          · first | exact lo_n hc31 | exact lo_y hc31
          · first | exact hi_n hr hpm hc51 | exact hi_y hr hpm hc51
        · refine r_iload qL_told_54 rfl ?_
          refine r_is_7_4 qL_told_56 rfl rfl ?_
          refine K58 _ _ ?_ ?_
          · first | exact lo_n hc31 | exact lo_y hc31
          · first | exact hi_n hr hpm hc51 | exact hi_y hr hpm hc51
  refine r_iconst (v := nI 0) qL_told_0 (by decide) ?_
  refine r_is_7_3 qL_told_1 rfl rfl ?_
  refine r_iconst (v := nI 0) qL_told_2 (by decide) ?_
  refine r_is_7_4 qL_told_3 rfl rfl ?_
  refine r_iconst (v := nI 0) qL_told_5 (by decide) ?_
  refine r_is_7_5 qL_told_6 rfl rfl ?_
  exact KL (sMany N k) 0 (by omega) 0 0 (by omega) (by omega)
set_option maxHeartbeats 4000000 in
set_option maxRecDepth 20000 in
theorem c_L_fit {E : Ev} {g : Sh} {i : Ni} {j : Nj} {K : Kp} {c k : Nat} {a : Nat → Nat} {N : Nat → Int32} (hX : zX3 g c a) (hH : zH i a N) (hk : k < zn (N 5)) (h2 : 2 ≤ sMany N k) (hK : K (.inl (some (.int (sFit N k (sMany N k))))) g i j) : zCon E mL_fit [.ref c, .int (nI k)] g i j K := by
  refine zcon_of (by decide +kernel) rfl rfl (lo := [.ref c, .int (nI k), zJ, zJ]) rfl (fun X => ?_)
  have hm6 := (hH.1.many hk).2
  have x1 := hX.1
  have KL : ∀ r p : Nat, p + r = sMany N k → ∀ CU SU : Nat, CU + 69 * r ≤ 414 → SU + 414 * r ≤ 2484 → zR E mL_fit (zZ E mL_fit K) X 4 [.ref c, .int (nI k), .int (sFit N k p), .int (nI p)] [] g i j CU SU := by
    intro r
    induction r with
    | zero =>
      intro p hp CU SU hCU hSU
      obtain rfl : p = sMany N k := by omega
      refine r_iload_n qL_fit_4 rfl ?_
      refine r_aload_n qL_fit_5 rfl ?_
      refine r_iload_n qL_fit_6 rfl ?_
      refine r_cv1 (cu2 := CU + 1) (su2 := SU + 6) qL_fit_7 kL_175 rfl (by decide +kernel) (c := 3) (by assumption) (by decide) rfl rfl rfl rfl (lbx (m := 420) rfl (by omega)) (lbx (m := 2520) rfl (by omega)) ?_
      refine q_pointCount hX hH hk ?_
      show zR E _ _ X 10 _ _ _ _ _ _ _
      refine r_icmp_ge (t := 48) qL_fit_10 (by decide) (fun hc10 => ?_) (fun hc10 => absurd hc10 (fun h => h (Int32.le_refl _)))
      refine r_iload_n qL_fit_48 rfl ?_
      refine r_iret qL_fit_49 rfl rfl (lbx (m := 420) rfl (by omega)) (lbx (m := 2520) rfl (by omega)) ?_
      exact hK
    | succ r ih =>
      intro p hp CU SU hCU hSU
      have hpm : p < sMany N k := by omega
      refine r_iload_n qL_fit_4 rfl ?_
      refine r_aload_n qL_fit_5 rfl ?_
      refine r_iload_n qL_fit_6 rfl ?_
      refine r_cv1 (cu2 := CU + 1) (su2 := SU + 6) qL_fit_7 kL_175 rfl (by decide +kernel) (c := 3) (by assumption) (by decide) rfl rfl rfl rfl (lbx (m := 420) rfl (by omega)) (lbx (m := 2520) rfl (by omega)) ?_
      refine q_pointCount hX hH hk ?_
      show zR E _ _ X 10 _ _ _ _ _ _ _
      refine r_icmp_ge (t := 48) qL_fit_10 (by decide) (fun hc10 => absurd hc10 (nI_ge hpm (by omega))) (fun hc10 => ?_)
      refine r_iload_n qL_fit_13 rfl ?_
      refine r_bipush (v := nI 10) qL_fit_14 (by decide) ?_
      refine r_aload_n qL_fit_16 rfl ?_
      refine r_iload_n qL_fit_17 rfl ?_
      refine r_iload_n qL_fit_18 rfl ?_
      refine r_cv2 (cu2 := CU + 3) (su2 := SU + 18) qL_fit_19 kL_192 rfl (by decide +kernel) (c := 3) (by assumption) (by decide) rfl rfl rfl rfl (lbx (m := 420) rfl (by omega)) (lbx (m := 2520) rfl (by omega)) ?_
      refine q_pointDegrees hX hH hk hpm ?_
      show zR E _ _ X 22 _ _ _ _ _ _ _
      first | with_reducible refine r_imulN qL_fit_22 ?_ | refine r_imul qL_fit_22 ?_
      refine r_aload_n qL_fit_23 rfl ?_
      refine r_iload_n qL_fit_24 rfl ?_
      refine r_aload_n qL_fit_25 rfl ?_
      refine r_iload_n qL_fit_26 rfl ?_
      refine r_iload_n qL_fit_27 rfl ?_
      refine r_cv2 (cu2 := CU + 5) (su2 := SU + 30) qL_fit_28 kL_195 rfl (by decide +kernel) (c := 3) (by assumption) (by decide) rfl rfl rfl rfl (lbx (m := 420) rfl (by omega)) (lbx (m := 2520) rfl (by omega)) ?_
      refine q_pointHeight hX hH hk hpm ?_
      show zR E _ _ X 31 _ _ _ _ _ _ _
      refine r_cs3 (cu2 := CU + 69) (su2 := SU + 414) qL_fit_31 kL_284 rfl (by decide +kernel) rfl rfl rfl (lbx (m := 420) rfl (by omega)) (lbx (m := 2520) rfl (by omega)) ?_
      refine c_L_told hX hH hk h2 ?_
      show zR E _ _ X 34 _ _ _ _ _ _ _
      refine r_isub qL_fit_34 ?_
      refine r_mabs qL_fit_35 kL_63 rfl rfl (lbx (m := 420) rfl (by omega)) (lbx (m := 2520) rfl (by omega)) ?_
      refine r_mmax qL_fit_38 kL_299 rfl rfl (lbx (m := 420) rfl (by omega)) (lbx (m := 2520) rfl (by omega)) ?_
      refine r_is_4_2 qL_fit_41 rfl rfl ?_
      refine r_ii_4_3 qL_fit_42 rfl rfl (nI_inc p) ?_
      refine r_goto (t := 4) qL_fit_45 (by decide) ?_
      exact ih (p + 1) (by omega) _ _ (by omega) (by omega)
  refine r_iconst (v := nI 0) qL_fit_0 (by decide) ?_
  refine r_is_4_2 qL_fit_1 rfl rfl ?_
  refine r_iconst (v := nI 0) qL_fit_2 (by decide) ?_
  refine r_is_4_3 qL_fit_3 rfl rfl ?_
  exact KL (sMany N k) 0 (by omega) 0 0 (by omega) (by omega)

