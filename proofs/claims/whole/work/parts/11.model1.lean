set_option maxHeartbeats 4000000 in
set_option maxRecDepth 20000 in
theorem c_X4_thrown {E : Ev} {g : Sh} {i : Ni} {j : Nj} {K : Kp} {x : Nat} (h1 : gT g x = 5) (hK : K (.inl (some (.int (i x 0)))) g i j) : zCon E mX4_thrown [.ref x] g i j K := by
  refine zcon_of (by decide +kernel) rfl rfl (lo := [.ref x]) rfl (fun X => ?_)
  refine r_aload_n qX4_thrown_0 rfl ?_
  refine r_geti qX4_thrown_1 fX4_3 rfl (by assumption) ?_
  refine r_iret qX4_thrown_4 rfl rfl rfl rfl ?_
  exact hK
set_option maxHeartbeats 4000000 in
set_option maxRecDepth 20000 in
theorem c_X4_in {E : Ev} {g : Sh} {i : Ni} {j : Nj} {K : Kp} {a b c : Int64} (hK : K (.inl (some (.int (zb (b.toInt ≤ a.toInt ∧ a.toInt ≤ c.toInt))))) g i j) : zCon E mX4_in [.long a, .long b, .long c] g i j K := by
  refine zcon_of (by decide +kernel) rfl rfl (lo := [.long a, zJ, .long b, zJ, .long c, zJ]) rfl (fun X => ?_)
  refine r_lload_n qX4_in_0 rfl ?_
  refine r_lload_n qX4_in_1 rfl ?_
  refine r_lcmp qX4_in_2 ?_
  refine r_if_lt (t := 17) qX4_in_3 (by decide) (fun hc3 => ?_) (fun hc3 => ?_)
  · refine r_iconst (v := nI 0) qX4_in_17 (by decide) ?_
    refine r_iret qX4_in_18 rfl (by first | decide | exact zb_nar _ | assumption) rfl rfl ?_
    first | (rw [zb_f (by simp only [lg_cmp_lt, lg_cmp_gt, Int64.lt_iff_toInt_lt] at *; omega)] at hK; exact hK) | (rw [zb_t (by simp only [lg_cmp_lt, lg_cmp_gt, Int64.lt_iff_toInt_lt] at *; omega)] at hK; exact hK)
  · refine r_lload_n qX4_in_6 rfl ?_
    refine r_lload qX4_in_7 rfl ?_
    refine r_lcmp qX4_in_9 ?_
    refine r_if_gt (t := 17) qX4_in_10 (by decide) (fun hc10 => ?_) (fun hc10 => ?_)
    · refine r_iconst (v := nI 0) qX4_in_17 (by decide) ?_
      refine r_iret qX4_in_18 rfl (by first | decide | exact zb_nar _ | assumption) rfl rfl ?_
      first | (rw [zb_f (by simp only [lg_cmp_lt, lg_cmp_gt, Int64.lt_iff_toInt_lt] at *; omega)] at hK; exact hK) | (rw [zb_t (by simp only [lg_cmp_lt, lg_cmp_gt, Int64.lt_iff_toInt_lt] at *; omega)] at hK; exact hK)
    · refine r_iconst (v := nI 1) qX4_in_13 (by decide) ?_
      refine r_goto (t := 18) qX4_in_14 (by decide) ?_
      refine r_iret qX4_in_18 rfl (by first | decide | exact zb_nar _ | assumption) rfl rfl ?_
      first | (rw [zb_f (by simp only [lg_cmp_lt, lg_cmp_gt, Int64.lt_iff_toInt_lt] at *; omega)] at hK; exact hK) | (rw [zb_t (by simp only [lg_cmp_lt, lg_cmp_gt, Int64.lt_iff_toInt_lt] at *; omega)] at hK; exact hK)
set_option maxHeartbeats 4000000 in
set_option maxRecDepth 20000 in
theorem c_X4_of {E : Ev} {g : Sh} {i : Ni} {j : Nj} {K : Kp} {x r k w : Nat} (hM : zM g x r) (h : 42 + 21 * k + w < 210) (hK : K (.inl (some (.int (i r (42 + 21 * k + w))))) g i j) : zCon E mX4_of [.ref x, .int (nI k), .int (nI w)] g i j K := by
  refine zcon_of (by decide +kernel) rfl rfl (lo := [.ref x, .int (nI k), .int (nI w)]) rfl (fun X => ?_)
  obtain ⟨h1, h2, h3, h4⟩ := hM
  refine r_aload_n qX4_of_0 rfl ?_
  refine r_getr qX4_of_1 fX4_24 rfl (by assumption) (by first | assumption | rfl) ?_
  refine r_bipush (v := nI 42) qX4_of_4 (by decide) ?_
  refine r_bipush (v := nI 21) qX4_of_6 (by decide) ?_
  refine r_iload_n qX4_of_8 rfl ?_
  first | with_reducible refine r_imulN qX4_of_9 ?_ | refine r_imul qX4_of_9 ?_
  first | with_reducible refine r_iaddN qX4_of_10 ?_ | refine r_iadd qX4_of_10 ?_
  refine r_iload_n qX4_of_11 rfl ?_
  first | with_reducible refine r_iaddN qX4_of_12 ?_ | refine r_iadd qX4_of_12 ?_
  refine r_ialdN qX4_of_13 (by assumption) (by assumption) (by omega) rfl ?_
  refine r_iret qX4_of_14 rfl rfl rfl rfl ?_
  exact hK
set_option maxHeartbeats 4000000 in
set_option maxRecDepth 20000 in
theorem c_X4_set0 {E : Ev} {g : Sh} {i : Ni} {j : Nj} {K : Kp} {x r k w : Nat} {v : Int32} (hM : zM g x r) (h : 42 + 21 * k + w < 210) (hK : K (.inl none) g (wA i r (upd (i r) (42 + 21 * k + w) v)) j) : zCon E mX4_set0 [.ref x, .int (nI k), .int (nI w), .int v] g i j K := by
  refine zcon_of (by decide +kernel) rfl rfl (lo := [.ref x, .int (nI k), .int (nI w), .int v]) rfl (fun X => ?_)
  obtain ⟨h1, h2, h3, h4⟩ := hM
  refine r_aload_n qX4_set0_0 rfl ?_
  refine r_getr qX4_set0_1 fX4_24 rfl (by assumption) (by first | assumption | rfl) ?_
  refine r_bipush (v := nI 42) qX4_set0_4 (by decide) ?_
  refine r_bipush (v := nI 21) qX4_set0_6 (by decide) ?_
  refine r_iload_n qX4_set0_8 rfl ?_
  first | with_reducible refine r_imulN qX4_set0_9 ?_ | refine r_imul qX4_set0_9 ?_
  first | with_reducible refine r_iaddN qX4_set0_10 ?_ | refine r_iadd qX4_set0_10 ?_
  refine r_iload_n qX4_set0_11 rfl ?_
  first | with_reducible refine r_iaddN qX4_set0_12 ?_ | refine r_iadd qX4_set0_12 ?_
  refine r_iload_n qX4_set0_13 rfl ?_
  refine r_iastN qX4_set0_14 (by assumption) (by assumption) (by omega) rfl ?_
  refine r_vret qX4_set0_15 rfl rfl rfl ?_
  exact hK
set_option maxHeartbeats 4000000 in
set_option maxRecDepth 20000 in
theorem c_X4_ofSpirit {E : Ev} {g : Sh} {i : Ni} {j : Nj} {K : Kp} {x r k w : Nat} (hM : zM g x r) (h : 10 + 4 * k + w < 210) (hK : K (.inl (some (.int (i r (10 + 4 * k + w))))) g i j) : zCon E mX4_ofSpirit [.ref x, .int (nI k), .int (nI w)] g i j K := by
  refine zcon_of (by decide +kernel) rfl rfl (lo := [.ref x, .int (nI k), .int (nI w)]) rfl (fun X => ?_)
  obtain ⟨h1, h2, h3, h4⟩ := hM
  refine r_aload_n qX4_ofSpirit_0 rfl ?_
  refine r_getr qX4_ofSpirit_1 fX4_24 rfl (by assumption) (by first | assumption | rfl) ?_
  refine r_bipush (v := nI 10) qX4_ofSpirit_4 (by decide) ?_
  refine r_iconst (v := nI 4) qX4_ofSpirit_6 (by decide) ?_
  refine r_iload_n qX4_ofSpirit_7 rfl ?_
  first | with_reducible refine r_imulN qX4_ofSpirit_8 ?_ | refine r_imul qX4_ofSpirit_8 ?_
  first | with_reducible refine r_iaddN qX4_ofSpirit_9 ?_ | refine r_iadd qX4_ofSpirit_9 ?_
  refine r_iload_n qX4_ofSpirit_10 rfl ?_
  first | with_reducible refine r_iaddN qX4_ofSpirit_11 ?_ | refine r_iadd qX4_ofSpirit_11 ?_
  refine r_ialdN qX4_ofSpirit_12 (by assumption) (by assumption) (by omega) rfl ?_
  refine r_iret qX4_ofSpirit_13 rfl rfl rfl rfl ?_
  exact hK
set_option maxHeartbeats 4000000 in
set_option maxRecDepth 20000 in
theorem c_X4_ofBath {E : Ev} {g : Sh} {i : Ni} {j : Nj} {K : Kp} {x r k w : Nat} (hM : zM g x r) (h : 30 + 3 * k + w < 210) (hK : K (.inl (some (.int (i r (30 + 3 * k + w))))) g i j) : zCon E mX4_ofBath [.ref x, .int (nI k), .int (nI w)] g i j K := by
  refine zcon_of (by decide +kernel) rfl rfl (lo := [.ref x, .int (nI k), .int (nI w)]) rfl (fun X => ?_)
  obtain ⟨h1, h2, h3, h4⟩ := hM
  refine r_aload_n qX4_ofBath_0 rfl ?_
  refine r_getr qX4_ofBath_1 fX4_24 rfl (by assumption) (by first | assumption | rfl) ?_
  refine r_bipush (v := nI 30) qX4_ofBath_4 (by decide) ?_
  refine r_iconst (v := nI 3) qX4_ofBath_6 (by decide) ?_
  refine r_iload_n qX4_ofBath_7 rfl ?_
  first | with_reducible refine r_imulN qX4_ofBath_8 ?_ | refine r_imul qX4_ofBath_8 ?_
  first | with_reducible refine r_iaddN qX4_ofBath_9 ?_ | refine r_iadd qX4_ofBath_9 ?_
  refine r_iload_n qX4_ofBath_10 rfl ?_
  first | with_reducible refine r_iaddN qX4_ofBath_11 ?_ | refine r_iadd qX4_ofBath_11 ?_
  refine r_ialdN qX4_ofBath_12 (by assumption) (by assumption) (by omega) rfl ?_
  refine r_iret qX4_ofBath_13 rfl rfl rfl rfl ?_
  exact hK
set_option maxHeartbeats 4000000 in
set_option maxRecDepth 20000 in
theorem c_X4_freeAt {E : Ev} {g : Sh} {i : Ni} {j : Nj} {K : Kp} {x r k : Nat} {t : Int32} (hM : zM g x r) (hk : zTf (i r) k) (hK : K (.inl (some (.int (sFree (i r) k t)))) g i j) : zCon E mX4_freeAt [.ref x, .int (nI k), .int t] g i j K := by
  refine zcon_of (by decide +kernel) rfl rfl (lo := [.ref x, .int (nI k), .int t, zJ]) rfl (fun X => ?_)
  have hM' := hM
  obtain ⟨h1, h2, h3, h4⟩ := hM
  obtain ⟨h8, ⟨s, hs, hs5⟩, hb⟩ := hk
  rw [sFree, hs, zn_nI (by omega)] at hK
  refine r_aload_n qX4_freeAt_0 rfl ?_
  refine r_iload_n qX4_freeAt_1 rfl ?_
  refine r_iconst (v := nI 1) qX4_freeAt_2 (by decide) ?_
  refine r_cv2 (cu2 := 0) (su2 := 0) qX4_freeAt_3 kX4_148 rfl (by decide +kernel) (c := 4) (by assumption) (by decide) rfl rfl rfl rfl rfl rfl ?_
  refine c_X4_of (by first | assumption | omega | rfl | decide) (by first | assumption | omega | rfl | decide) ?_
  show zR E _ _ X 6 _ _ _ _ _ _ _
  refine r_aload_n qX4_freeAt_6 rfl ?_
  refine r_aload_n qX4_freeAt_7 rfl ?_
  refine r_iload_n qX4_freeAt_8 rfl ?_
  refine r_iconst (v := nI 0) qX4_freeAt_9 (by decide) ?_
  refine r_cv2 (cu2 := 0) (su2 := 0) qX4_freeAt_10 kX4_148 rfl (by decide +kernel) (c := 4) (by assumption) (by decide) rfl rfl rfl rfl rfl rfl ?_
  refine c_X4_of (by first | assumption | omega | rfl | decide) (by first | assumption | omega | rfl | decide) ?_
  show zR E _ _ X 13 _ _ _ _ _ _ _
  rw [hs]
  refine r_iconst (v := nI 2) qX4_freeAt_13 (by decide) ?_
  refine r_cv2 (cu2 := 0) (su2 := 0) qX4_freeAt_14 kX4_152 rfl (by decide +kernel) (c := 4) (by assumption) (by decide) rfl rfl rfl rfl rfl rfl ?_
  refine c_X4_ofSpirit (by first | assumption | omega | rfl | decide) (by first | assumption | omega | rfl | decide) ?_
  show zR E _ _ X 17 _ _ _ _ _ _ _
  first | with_reducible refine r_imulN qX4_freeAt_17 ?_ | refine r_imul qX4_freeAt_17 ?_
  refine r_iload_n qX4_freeAt_18 rfl ?_
  refine r_sipush (v := nI 300) qX4_freeAt_19 (by decide) ?_
  first | with_reducible refine r_iaddN qX4_freeAt_22 ?_ | refine r_iadd qX4_freeAt_22 ?_
  first | with_reducible refine r_imulN qX4_freeAt_23 ?_ | refine r_imul qX4_freeAt_23 ?_
  refine r_is_4_3 qX4_freeAt_24 rfl rfl ?_
  refine r_aload_n qX4_freeAt_25 rfl ?_
  refine r_iload_n qX4_freeAt_26 rfl ?_
  refine r_iconst (v := nI 4) qX4_freeAt_27 (by decide) ?_
  refine r_cv2 (cu2 := 0) (su2 := 0) qX4_freeAt_28 kX4_148 rfl (by decide +kernel) (c := 4) (by assumption) (by decide) rfl rfl rfl rfl rfl rfl ?_
  refine c_X4_of (by first | assumption | omega | rfl | decide) (by first | assumption | omega | rfl | decide) ?_
  show zR E _ _ X 31 _ _ _ _ _ _ _
  refine r_iload_n qX4_freeAt_31 rfl ?_
  refine r_sipush (v := nI 1000) qX4_freeAt_32 (by decide) ?_
  refine r_aload_n qX4_freeAt_35 rfl ?_
  refine r_iload_n qX4_freeAt_36 rfl ?_
  refine r_iconst (v := nI 2) qX4_freeAt_37 (by decide) ?_
  refine r_cv2 (cu2 := 0) (su2 := 0) qX4_freeAt_38 kX4_148 rfl (by decide +kernel) (c := 4) (by assumption) (by decide) rfl rfl rfl rfl rfl rfl ?_
  refine c_X4_of (by first | assumption | omega | rfl | decide) (by first | assumption | omega | rfl | decide) ?_
  show zR E _ _ X 41 _ _ _ _ _ _ _
  first | with_reducible refine r_imulN qX4_freeAt_41 ?_ | refine r_imul qX4_freeAt_41 ?_
  refine r_idiv qX4_freeAt_42 (by assumption) ?_
  first | with_reducible refine r_iaddN qX4_freeAt_43 ?_ | refine r_iadd qX4_freeAt_43 ?_
  refine r_iret qX4_freeAt_44 rfl rfl rfl rfl ?_
  exact hK
set_option maxHeartbeats 4000000 in
set_option maxRecDepth 20000 in
theorem c_X4_freeNow {E : Ev} {g : Sh} {i : Ni} {j : Nj} {K : Kp} {x r k : Nat} (hM : zM g x r) (hk : zTf (i r) k) (hK : K (.inl (some (.int (sFree (i r) k (i r (42 + 21 * k + 5)))))) g i j) : zCon E mX4_freeNow [.ref x, .int (nI k)] g i j K := by
  refine zcon_of (by decide +kernel) rfl rfl (lo := [.ref x, .int (nI k)]) rfl (fun X => ?_)
  have hM' := hM
  obtain ⟨h1, h2, h3, h4⟩ := hM
  have h8 := hk.1
  refine r_aload_n qX4_freeNow_0 rfl ?_
  refine r_iload_n qX4_freeNow_1 rfl ?_
  refine r_aload_n qX4_freeNow_2 rfl ?_
  refine r_iload_n qX4_freeNow_3 rfl ?_
  refine r_iconst (v := nI 5) qX4_freeNow_4 (by decide) ?_
  refine r_cv2 (cu2 := 0) (su2 := 0) qX4_freeNow_5 kX4_148 rfl (by decide +kernel) (c := 4) (by assumption) (by decide) rfl rfl rfl rfl rfl rfl ?_
  refine c_X4_of (by first | assumption | omega | rfl | decide) (by first | assumption | omega | rfl | decide) ?_
  show zR E _ _ X 8 _ _ _ _ _ _ _
  refine r_cv2 (cu2 := 0) (su2 := 0) qX4_freeNow_8 kX4_155 rfl (by decide +kernel) (c := 4) (by assumption) (by decide) rfl rfl rfl rfl rfl rfl ?_
  refine c_X4_freeAt (by first | assumption | omega | rfl | decide) (by first | assumption | omega | rfl | decide) ?_
  show zR E _ _ X 11 _ _ _ _ _ _ _
  refine r_iret qX4_freeNow_11 rfl rfl rfl rfl ?_
  exact hK
set_option maxHeartbeats 4000000 in
set_option maxRecDepth 20000 in
theorem c_X4_heightNow {E : Ev} {g : Sh} {i : Ni} {j : Nj} {K : Kp} {x r k : Nat} (hM : zM g x r) (hk : zTf (i r) k) (hK : K (.inl (some (.int (sHigh (i r) k)))) g i j) : zCon E mX4_heightNow [.ref x, .int (nI k)] g i j K := by
  refine zcon_of (by decide +kernel) rfl rfl (lo := [.ref x, .int (nI k)]) rfl (fun X => ?_)
  have hM' := hM
  obtain ⟨h1, h2, h3, h4⟩ := hM
  have h8 := hk.1
  refine r_aload_n qX4_heightNow_0 rfl ?_
  refine r_iload_n qX4_heightNow_1 rfl ?_
  refine r_iconst (v := nI 3) qX4_heightNow_2 (by decide) ?_
  refine r_cv2 (cu2 := 0) (su2 := 0) qX4_heightNow_3 kX4_148 rfl (by decide +kernel) (c := 4) (by assumption) (by decide) rfl rfl rfl rfl rfl rfl ?_
  refine c_X4_of (by first | assumption | omega | rfl | decide) (by first | assumption | omega | rfl | decide) ?_
  show zR E _ _ X 6 _ _ _ _ _ _ _
  refine r_aload_n qX4_heightNow_6 rfl ?_
  refine r_iload_n qX4_heightNow_7 rfl ?_
  refine r_cv1 (cu2 := 0) (su2 := 0) qX4_heightNow_8 kX4_158 rfl (by decide +kernel) (c := 4) (by assumption) (by decide) rfl rfl rfl rfl rfl rfl ?_
  refine c_X4_freeNow (by first | assumption | omega | rfl | decide) (by first | assumption | omega | rfl | decide) ?_
  show zR E _ _ X 11 _ _ _ _ _ _ _
  refine r_mmin qX4_heightNow_11 kX4_161 rfl rfl rfl rfl ?_
  refine r_iret qX4_heightNow_14 rfl rfl rfl rfl ?_
  exact hK

