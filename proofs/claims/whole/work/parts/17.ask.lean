/-! ===== THE MODEL'S ASKING METHODS ===== -/
def zB (g : Sh) (i : Ni) (x n d b p s o : Nat) : Prop := zW g x n d b p s o ∧ gR g x 3 = n ∧ zOk (i n)
abbrev rd (N : Nat → Int32) (t : Int32) : Prop := tv (N 5) t ∧ 2 ≤ sMany N (zn t)
abbrev pv (N : Nat → Int32) (t q : Int32) : Prop := tv (N 5) t ∧ tv (N (42 + 21 * zn t + 8)) q
set_option maxHeartbeats 4000000 in
set_option maxRecDepth 20000 in
theorem c_X4_areTenths {E : Ev} {g : Sh} {i : Ni} {j : Nj} {K : Kp} {v : Int32} (hK : K (.inl (some (.int (zb (-200 ≤ v.toInt ∧ v.toInt ≤ 1500))))) g i j) : zCon E mX4_areTenths [.int v] g i j K := by
  refine zcon_of (by decide +kernel) rfl rfl (lo := [.int v]) rfl (fun X => ?_)
  refine r_iload_n qX4_areTenths_0 rfl ?_
  refine r_i2l qX4_areTenths_1 ?_
  refine r_ldc2 qX4_areTenths_2 lX4_402 ?_
  refine r_ldc2 qX4_areTenths_5 lX4_404 ?_
  refine r_cs3 (cu2 := 0) (su2 := 0) qX4_areTenths_8 kX4_276 rfl (by decide +kernel) rfl rfl rfl rfl rfl ?_
  refine c_X4_in ?_
  show zR E _ _ X 11 _ _ _ _ _ _ _
  rw [zb_c (show _ ↔ (-200 ≤ v.toInt ∧ v.toInt ≤ 1500) by rw [Int32.toInt_toInt64]; exact Iff.rfl)]
  refine r_iret qX4_areTenths_11 rfl (by first | decide | exact zb_nar _ | assumption) rfl rfl ?_
  exact hK
set_option maxHeartbeats 4000000 in
set_option maxRecDepth 20000 in
theorem c_X4_isHeight {E : Ev} {g : Sh} {i : Ni} {j : Nj} {K : Kp} {v : Int32} (hK : K (.inl (some (.int (zb (0 ≤ v.toInt ∧ v.toInt ≤ 999))))) g i j) : zCon E mX4_isHeight [.int v] g i j K := by
  refine zcon_of (by decide +kernel) rfl rfl (lo := [.int v]) rfl (fun X => ?_)
  refine r_iload_n qX4_isHeight_0 rfl ?_
  refine r_i2l qX4_isHeight_1 ?_
  refine r_lconst (v := 0) qX4_isHeight_2 (by decide) ?_
  refine r_ldc2 qX4_isHeight_3 lX4_425 ?_
  refine r_cs3 (cu2 := 0) (su2 := 0) qX4_isHeight_6 kX4_276 rfl (by decide +kernel) rfl rfl rfl rfl rfl ?_
  refine c_X4_in ?_
  show zR E _ _ X 9 _ _ _ _ _ _ _
  rw [zb_c (show _ ↔ (0 ≤ v.toInt ∧ v.toInt ≤ 999) by rw [Int32.toInt_toInt64]; exact Iff.rfl)]
  refine r_iret qX4_isHeight_9 rfl (by first | decide | exact zb_nar _ | assumption) rfl rfl ?_
  exact hK
set_option maxHeartbeats 4000000 in
set_option maxRecDepth 20000 in
theorem c_X4_isAhead {E : Ev} {g : Sh} {i : Ni} {j : Nj} {K : Kp} {v : Int32} (hK : K (.inl (some (.int (zb (0 ≤ v.toInt ∧ v.toInt ≤ 300))))) g i j) : zCon E mX4_isAhead [.int v] g i j K := by
  refine zcon_of (by decide +kernel) rfl rfl (lo := [.int v]) rfl (fun X => ?_)
  refine r_iload_n qX4_isAhead_0 rfl ?_
  refine r_i2l qX4_isAhead_1 ?_
  refine r_lconst (v := 0) qX4_isAhead_2 (by decide) ?_
  refine r_ldc2 qX4_isAhead_3 lX4_440 ?_
  refine r_cs3 (cu2 := 0) (su2 := 0) qX4_isAhead_6 kX4_276 rfl (by decide +kernel) rfl rfl rfl rfl rfl ?_
  refine c_X4_in ?_
  show zR E _ _ X 9 _ _ _ _ _ _ _
  rw [zb_c (show _ ↔ (0 ≤ v.toInt ∧ v.toInt ≤ 300) by rw [Int32.toInt_toInt64]; exact Iff.rfl)]
  refine r_iret qX4_isAhead_9 rfl (by first | decide | exact zb_nar _ | assumption) rfl rfl ?_
  exact hK
set_option maxHeartbeats 4000000 in
set_option maxRecDepth 20000 in
theorem c_X4_isRead {E : Ev} {g : Sh} {i : Ni} {j : Nj} {K : Kp} {x n d b p s o : Nat} {t : Int32} (hB : zB g i x n d b p s o) (hK : K (.inl (some (.int (zb (rd (i n) t))))) g i j) : zCon E mX4_isRead [.ref x, .int t] g i j K := by
  refine zcon_of (by decide +kernel) rfl rfl (lo := [.ref x, .int t]) rfl (fun X => ?_)
  have hB' := hB
  obtain ⟨hW, hR3, hO⟩ := hB
  have w1 := hW.1
  have hM' := hW.m hR3
  obtain ⟨hT, hT8⟩ := hO.T8
  refine r_aload_n qX4_isRead_0 rfl ?_
  refine r_iload_n qX4_isRead_1 rfl ?_
  refine r_cv1 (cu2 := 0) (su2 := 0) qX4_isRead_2 kX4_396 rfl (by decide +kernel) (c := 4) (by assumption) (by decide) rfl rfl rfl rfl rfl rfl ?_
  refine c_X4_hasTube (by first | assumption | omega | rfl | decide) (by first | assumption | omega | rfl | decide) (by first | assumption | omega | rfl | decide) ?_
  show zR E _ _ X 5 _ _ _ _ _ _ _
  refine r_if_eq (t := 20) qX4_isRead_5 (by decide) (fun hc5 => ?_) (fun hc5 => ?_)
  · have hv := zb_0.mp hc5; rw [zb_f (fun h => hv h.1)] at hK
    refine r_iconst (v := nI 0) qX4_isRead_20 (by decide) ?_
    refine r_iret qX4_isRead_21 rfl (by first | decide | exact zb_nar _ | assumption) rfl rfl ?_
    first | exact hK | (rw [zb_f (zb_0.mp hc13)] at hK; exact hK) | (rw [zb_t (zb_ne.mp hc13)] at hK; exact hK)
  · have hv := zb_ne.mp hc5; rw [zb_c (show rd (i n) t ↔ 2 ≤ sMany (i n) (zn t) from ⟨fun h => h.2, fun h => ⟨hv, h⟩⟩)] at hK
    obtain ⟨e, hk⟩ := tv_nat hv; generalize zn t = k at *; subst e
    refine r_aload_n qX4_isRead_8 rfl ?_
    refine r_iload_n qX4_isRead_9 rfl ?_
    refine r_cv1 (cu2 := 0) (su2 := 0) qX4_isRead_10 kX4_416 rfl (by decide +kernel) (c := 4) (by assumption) (by decide) rfl rfl rfl rfl rfl rfl ?_
    refine c_X4_isScaled (by first | assumption | omega | rfl | decide) (by first | assumption | omega | rfl | decide) (by first | assumption | omega | rfl | decide) ?_
    show zR E _ _ X 13 _ _ _ _ _ _ _
    refine r_if_eq (t := 20) qX4_isRead_13 (by decide) (fun hc13 => ?_) (fun hc13 => ?_)
    · refine r_iconst (v := nI 0) qX4_isRead_20 (by decide) ?_
      refine r_iret qX4_isRead_21 rfl (by first | decide | exact zb_nar _ | assumption) rfl rfl ?_
      first | exact hK | (rw [zb_f (zb_0.mp hc13)] at hK; exact hK) | (rw [zb_t (zb_ne.mp hc13)] at hK; exact hK)
    · refine r_iconst (v := nI 1) qX4_isRead_16 (by decide) ?_
      refine r_goto (t := 21) qX4_isRead_17 (by decide) ?_
      refine r_iret qX4_isRead_21 rfl (by first | decide | exact zb_nar _ | assumption) rfl rfl ?_
      first | exact hK | (rw [zb_f (zb_0.mp hc13)] at hK; exact hK) | (rw [zb_t (zb_ne.mp hc13)] at hK; exact hK)
set_option maxHeartbeats 4000000 in
set_option maxRecDepth 20000 in
theorem c_X4_hasPoint {E : Ev} {g : Sh} {i : Ni} {j : Nj} {K : Kp} {x n d b p s o : Nat} {t q : Int32} (hB : zB g i x n d b p s o) (hK : K (.inl (some (.int (zb (pv (i n) t q))))) g i j) : zCon E mX4_hasPoint [.ref x, .int t, .int q] g i j K := by
  refine zcon_of (by decide +kernel) rfl rfl (lo := [.ref x, .int t, .int q]) rfl (fun X => ?_)
  have hB' := hB
  obtain ⟨hW, hR3, hO⟩ := hB
  have w1 := hW.1
  have hM' := hW.m hR3
  obtain ⟨hT, hT8⟩ := hO.T8
  refine r_aload_n qX4_hasPoint_0 rfl ?_
  refine r_iload_n qX4_hasPoint_1 rfl ?_
  refine r_cv1 (cu2 := 0) (su2 := 0) qX4_hasPoint_2 kX4_396 rfl (by decide +kernel) (c := 4) (by assumption) (by decide) rfl rfl rfl rfl rfl rfl ?_
  refine c_X4_hasTube (by first | assumption | omega | rfl | decide) (by first | assumption | omega | rfl | decide) (by first | assumption | omega | rfl | decide) ?_
  show zR E _ _ X 5 _ _ _ _ _ _ _
  refine r_if_eq (t := 31) qX4_hasPoint_5 (by decide) (fun hc5 => ?_) (fun hc5 => ?_)
  · have hv := zb_0.mp hc5; rw [zb_f (fun h => hv h.1)] at hK
    refine r_iconst (v := nI 0) qX4_hasPoint_31 (by decide) ?_
    refine r_iret qX4_hasPoint_32 rfl (by first | decide | exact zb_nar _ | assumption) rfl rfl ?_
    first | exact hK | (rw [zb_f (zb_0.mp hc24)] at hK; exact hK) | (rw [zb_t (zb_ne.mp hc24)] at hK; exact hK)
  · have hv := zb_ne.mp hc5; rw [zb_c (show pv (i n) t q ↔ tv (i n (42 + 21 * zn t + 8)) q from ⟨fun h => h.2, fun h => ⟨hv, h⟩⟩)] at hK
    obtain ⟨e, hk⟩ := tv_nat hv; generalize zn t = k at *; subst e; have h8 := hO.k8 hk; obtain ⟨hm, hm6⟩ := hO.many hk
    refine r_iload_n qX4_hasPoint_8 rfl ?_
    refine r_i2l qX4_hasPoint_9 ?_
    refine r_lconst (v := 0) qX4_hasPoint_10 (by decide) ?_
    refine r_aload_n qX4_hasPoint_11 rfl ?_
    refine r_iload_n qX4_hasPoint_12 rfl ?_
    refine r_bipush (v := nI 8) qX4_hasPoint_13 (by decide) ?_
    refine r_cv2 (cu2 := 0) (su2 := 0) qX4_hasPoint_15 kX4_148 rfl (by decide +kernel) (c := 4) (by assumption) (by decide) rfl rfl rfl rfl rfl rfl ?_
    refine c_X4_of (by first | assumption | omega | rfl | decide) (by first | assumption | omega | rfl | decide) ?_
    show zR E _ _ X 18 _ _ _ _ _ _ _
    refine r_iconst (v := nI 1) qX4_hasPoint_18 (by decide) ?_
    refine r_isub qX4_hasPoint_19 ?_
    refine r_i2l qX4_hasPoint_20 ?_
    refine r_cs3 (cu2 := 0) (su2 := 0) qX4_hasPoint_21 kX4_276 rfl (by decide +kernel) rfl rfl rfl rfl rfl ?_
    refine c_X4_in ?_
    show zR E _ _ X 24 _ _ _ _ _ _ _
    rw [zb_c (tv_in hm (by omega))]
    refine r_if_eq (t := 31) qX4_hasPoint_24 (by decide) (fun hc24 => ?_) (fun hc24 => ?_)
    · refine r_iconst (v := nI 0) qX4_hasPoint_31 (by decide) ?_
      refine r_iret qX4_hasPoint_32 rfl (by first | decide | exact zb_nar _ | assumption) rfl rfl ?_
      first | exact hK | (rw [zb_f (zb_0.mp hc24)] at hK; exact hK) | (rw [zb_t (zb_ne.mp hc24)] at hK; exact hK)
    · refine r_iconst (v := nI 1) qX4_hasPoint_27 (by decide) ?_
      refine r_goto (t := 32) qX4_hasPoint_28 (by decide) ?_
      refine r_iret qX4_hasPoint_32 rfl (by first | decide | exact zb_nar _ | assumption) rfl rfl ?_
      first | exact hK | (rw [zb_f (zb_0.mp hc24)] at hK; exact hK) | (rw [zb_t (zb_ne.mp hc24)] at hK; exact hK)
set_option maxHeartbeats 4000000 in
set_option maxRecDepth 20000 in
theorem c_X4_tellTube {E : Ev} {g : Sh} {i : Ni} {j : Nj} {K : Kp} {x n d b p s o w : Nat} {t : Int32} (hB : zB g i x n d b p s o) (hw : w < 21) (hK : K (.inl (some (.int (if tv (i n 5) t then i n (42 + 21 * zn t + w) else nI 0)))) g (wA i x (upd (i x) 0 (c3 (tv (i n 5) t) True True))) j) : zCon E mX4_tellTube [.ref x, .int t, .int (nI w)] g i j K := by
  refine zcon_of (by decide +kernel) rfl rfl (lo := [.ref x, .int t, .int (nI w)]) rfl (fun X => ?_)
  have hB' := hB
  obtain ⟨hW, hR3, hO⟩ := hB
  have w1 := hW.1
  have nx := hW.nx
  have hM' := hW.m hR3
  obtain ⟨hT, hT8⟩ := hO.T8
  obtain ⟨hS, hS5⟩ := hO.S5
  obtain ⟨hBt, hB4⟩ := hO.B4
  refine r_aload_n qX4_tellTube_0 rfl ?_
  refine r_aload_n qX4_tellTube_1 rfl ?_
  refine r_iload_n qX4_tellTube_2 rfl ?_
  refine r_cv1 (cu2 := 0) (su2 := 0) qX4_tellTube_3 kX4_396 rfl (by decide +kernel) (c := 4) (by assumption) (by decide) rfl rfl rfl rfl rfl rfl ?_
  refine c_X4_hasTube (by first | assumption | omega | rfl | decide) (by first | assumption | omega | rfl | decide) (by first | assumption | omega | rfl | decide) ?_
  show zR E _ _ X 6 _ _ _ _ _ _ _
  refine r_cv1 (cu2 := 0) (su2 := 0) qX4_tellTube_6 kX4_371 rfl (by decide +kernel) (c := 4) (by assumption) (by decide) rfl rfl rfl rfl rfl rfl ?_
  refine c_X4_passes1 (by first | assumption | omega | rfl | decide) ?_
  show zR E _ _ X 9 _ _ _ _ _ _ _
  generalize hi : wA i x (upd (i x) 0 (c3 (tv (i n 5) t) (True) (True))) = i' at hK ⊢
  have hn : i' n = i n := by rw [← hi]; exact wA_n nx
  clear hi
  have hO' : zOk (i' n) := by rw [hn]; exact hO
  obtain ⟨hT', hT8'⟩ := hO'.T8
  refine r_if_eq (t := 21) qX4_tellTube_9 (by decide) (fun hc9 => ?_) (fun hc9 => ?_)
  · rw [if_neg (zb_0.mp hc9)] at hK
    refine r_iconst (v := nI 0) qX4_tellTube_21 (by decide) ?_
    refine r_iret qX4_tellTube_22 rfl rfl rfl rfl ?_
    first | exact hK | (simp only [hn]; exact hK) | (simp only [hn] at *; exact hK)
  · have hv := zb_ne.mp hc9; clear hc9; rw [if_pos hv] at hK
    obtain ⟨e, hk⟩ := tv_nat hv; generalize zn t = kt at *; subst e; have hk' : kt < zn (i' n 5) := by (rw [hn]; exact hk)
    have hf' := hO'.f hk'; have h8 := hO'.k8 hk'; obtain ⟨hm, hm6⟩ := hO'.many hk'; have zkt : zn (nI kt) = kt := zn_nI (by omega)
    refine r_aload_n qX4_tellTube_12 rfl ?_
    refine r_iload_n qX4_tellTube_13 rfl ?_
    refine r_iload_n qX4_tellTube_14 rfl ?_
    refine r_cv2 (cu2 := 0) (su2 := 0) qX4_tellTube_15 kX4_148 rfl (by decide +kernel) (c := 4) (by assumption) (by decide) rfl rfl rfl rfl rfl rfl ?_
    refine c_X4_of (by first | assumption | omega | rfl | decide) (by first | assumption | omega | rfl | decide) ?_
    show zR E _ _ X 18 _ _ _ _ _ _ _
    refine r_goto (t := 22) qX4_tellTube_18 (by decide) ?_
    refine r_iret qX4_tellTube_22 rfl rfl rfl rfl ?_
    first | exact hK | (simp only [hn]; exact hK) | (simp only [hn] at *; exact hK)
set_option maxHeartbeats 4000000 in
set_option maxRecDepth 20000 in
theorem c_X4_spiritOf {E : Ev} {g : Sh} {i : Ni} {j : Nj} {K : Kp} {x n d b p s o : Nat} {t : Int32} (hB : zB g i x n d b p s o) (hK : K (.inl (some (.int (if tv (i n 5) t then i n (42 + 21 * zn t + 0) else nI 0)))) g (wA i x (upd (i x) 0 (c3 (tv (i n 5) t) True True))) j) : zCon E mX4_spiritOf [.ref x, .int t] g i j K := by
  refine zcon_of (by decide +kernel) rfl rfl (lo := [.ref x, .int t]) rfl (fun X => ?_)
  have w1 := hB.1.1
  refine r_aload_n qX4_spiritOf_0 rfl ?_
  refine r_iload_n qX4_spiritOf_1 rfl ?_
  refine r_iconst (v := nI 0) qX4_spiritOf_2 (by decide) ?_
  refine r_cv2 (cu2 := 0) (su2 := 0) qX4_spiritOf_3 kX4_399 rfl (by decide +kernel) (c := 4) (by assumption) (by decide) rfl rfl rfl rfl rfl rfl ?_
  refine c_X4_tellTube (by first | assumption | omega | rfl | decide) (by first | assumption | omega | rfl | decide) ?_
  show zR E _ _ X 6 _ _ _ _ _ _ _
  refine r_iret qX4_spiritOf_6 rfl rfl rfl rfl ?_
  exact hK
set_option maxHeartbeats 4000000 in
set_option maxRecDepth 20000 in
theorem c_X4_fillOf {E : Ev} {g : Sh} {i : Ni} {j : Nj} {K : Kp} {x n d b p s o : Nat} {t : Int32} (hB : zB g i x n d b p s o) (hK : K (.inl (some (.int (if tv (i n 5) t then i n (42 + 21 * zn t + 4) else nI 0)))) g (wA i x (upd (i x) 0 (c3 (tv (i n 5) t) True True))) j) : zCon E mX4_fillOf [.ref x, .int t] g i j K := by
  refine zcon_of (by decide +kernel) rfl rfl (lo := [.ref x, .int t]) rfl (fun X => ?_)
  have w1 := hB.1.1
  refine r_aload_n qX4_fillOf_0 rfl ?_
  refine r_iload_n qX4_fillOf_1 rfl ?_
  refine r_iconst (v := nI 4) qX4_fillOf_2 (by decide) ?_
  refine r_cv2 (cu2 := 0) (su2 := 0) qX4_fillOf_3 kX4_399 rfl (by decide +kernel) (c := 4) (by assumption) (by decide) rfl rfl rfl rfl rfl rfl ?_
  refine c_X4_tellTube (by first | assumption | omega | rfl | decide) (by first | assumption | omega | rfl | decide) ?_
  show zR E _ _ X 6 _ _ _ _ _ _ _
  refine r_iret qX4_fillOf_6 rfl rfl rfl rfl ?_
  exact hK
set_option maxHeartbeats 4000000 in
set_option maxRecDepth 20000 in
theorem c_X4_temperatureOf {E : Ev} {g : Sh} {i : Ni} {j : Nj} {K : Kp} {x n d b p s o : Nat} {t : Int32} (hB : zB g i x n d b p s o) (hK : K (.inl (some (.int (if tv (i n 5) t then i n (42 + 21 * zn t + 5) else nI 0)))) g (wA i x (upd (i x) 0 (c3 (tv (i n 5) t) True True))) j) : zCon E mX4_temperatureOf [.ref x, .int t] g i j K := by
  refine zcon_of (by decide +kernel) rfl rfl (lo := [.ref x, .int t]) rfl (fun X => ?_)
  have w1 := hB.1.1
  refine r_aload_n qX4_temperatureOf_0 rfl ?_
  refine r_iload_n qX4_temperatureOf_1 rfl ?_
  refine r_iconst (v := nI 5) qX4_temperatureOf_2 (by decide) ?_
  refine r_cv2 (cu2 := 0) (su2 := 0) qX4_temperatureOf_3 kX4_399 rfl (by decide +kernel) (c := 4) (by assumption) (by decide) rfl rfl rfl rfl rfl rfl ?_
  refine c_X4_tellTube (by first | assumption | omega | rfl | decide) (by first | assumption | omega | rfl | decide) ?_
  show zR E _ _ X 6 _ _ _ _ _ _ _
  refine r_iret qX4_temperatureOf_6 rfl rfl rfl rfl ?_
  exact hK
set_option maxHeartbeats 4000000 in
set_option maxRecDepth 20000 in
theorem c_X4_bathOf {E : Ev} {g : Sh} {i : Ni} {j : Nj} {K : Kp} {x n d b p s o : Nat} {t : Int32} (hB : zB g i x n d b p s o) (hK : K (.inl (some (.int (if tv (i n 5) t then i n (42 + 21 * zn t + 7) else nI 0)))) g (wA i x (upd (i x) 0 (c3 (tv (i n 5) t) True True))) j) : zCon E mX4_bathOf [.ref x, .int t] g i j K := by
  refine zcon_of (by decide +kernel) rfl rfl (lo := [.ref x, .int t]) rfl (fun X => ?_)
  have w1 := hB.1.1
  refine r_aload_n qX4_bathOf_0 rfl ?_
  refine r_iload_n qX4_bathOf_1 rfl ?_
  refine r_bipush (v := nI 7) qX4_bathOf_2 (by decide) ?_
  refine r_cv2 (cu2 := 0) (su2 := 0) qX4_bathOf_4 kX4_399 rfl (by decide +kernel) (c := 4) (by assumption) (by decide) rfl rfl rfl rfl rfl rfl ?_
  refine c_X4_tellTube (by first | assumption | omega | rfl | decide) (by first | assumption | omega | rfl | decide) ?_
  show zR E _ _ X 7 _ _ _ _ _ _ _
  refine r_iret qX4_bathOf_7 rfl rfl rfl rfl ?_
  exact hK
set_option maxHeartbeats 4000000 in
set_option maxRecDepth 20000 in
theorem c_X4_pointCount {E : Ev} {g : Sh} {i : Ni} {j : Nj} {K : Kp} {x n d b p s o : Nat} {t : Int32} (hB : zB g i x n d b p s o) (hK : K (.inl (some (.int (if tv (i n 5) t then i n (42 + 21 * zn t + 8) else nI 0)))) g (wA i x (upd (i x) 0 (c3 (tv (i n 5) t) True True))) j) : zCon E mX4_pointCount [.ref x, .int t] g i j K := by
  refine zcon_of (by decide +kernel) rfl rfl (lo := [.ref x, .int t]) rfl (fun X => ?_)
  have w1 := hB.1.1
  refine r_aload_n qX4_pointCount_0 rfl ?_
  refine r_iload_n qX4_pointCount_1 rfl ?_
  refine r_bipush (v := nI 8) qX4_pointCount_2 (by decide) ?_
  refine r_cv2 (cu2 := 0) (su2 := 0) qX4_pointCount_4 kX4_399 rfl (by decide +kernel) (c := 4) (by assumption) (by decide) rfl rfl rfl rfl rfl rfl ?_
  refine c_X4_tellTube (by first | assumption | omega | rfl | decide) (by first | assumption | omega | rfl | decide) ?_
  show zR E _ _ X 7 _ _ _ _ _ _ _
  refine r_iret qX4_pointCount_7 rfl rfl rfl rfl ?_
  exact hK
set_option maxHeartbeats 4000000 in
set_option maxRecDepth 20000 in
theorem c_X4_bathDegrees {E : Ev} {g : Sh} {i : Ni} {j : Nj} {K : Kp} {x n d b p s o : Nat} {t : Int32} (hB : zB g i x n d b p s o) (hK : K (.inl (some (.int (if tv (i n 4) t then i n (30 + 3 * zn t + 2) else nI 0)))) g (wA i x (upd (i x) 0 (c3 (tv (i n 4) t) (True) (True)))) j) : zCon E mX4_bathDegrees [.ref x, .int t] g i j K := by
  refine zcon_of (by decide +kernel) rfl rfl (lo := [.ref x, .int t]) rfl (fun X => ?_)
  have hB' := hB
  obtain ⟨hW, hR3, hO⟩ := hB
  have w1 := hW.1
  have nx := hW.nx
  have hM' := hW.m hR3
  obtain ⟨hT, hT8⟩ := hO.T8
  obtain ⟨hS, hS5⟩ := hO.S5
  obtain ⟨hBt, hB4⟩ := hO.B4
  refine r_aload_n qX4_bathDegrees_0 rfl ?_
  refine r_aload_n qX4_bathDegrees_1 rfl ?_
  refine r_iload_n qX4_bathDegrees_2 rfl ?_
  refine r_cv1 (cu2 := 0) (su2 := 0) qX4_bathDegrees_3 kX4_390 rfl (by decide +kernel) (c := 4) (by assumption) (by decide) rfl rfl rfl rfl rfl rfl ?_
  refine c_X4_hasBath (by first | assumption | omega | rfl | decide) (by first | assumption | omega | rfl | decide) (by first | assumption | omega | rfl | decide) ?_
  show zR E _ _ X 6 _ _ _ _ _ _ _
  refine r_cv1 (cu2 := 0) (su2 := 0) qX4_bathDegrees_6 kX4_371 rfl (by decide +kernel) (c := 4) (by assumption) (by decide) rfl rfl rfl rfl rfl rfl ?_
  refine c_X4_passes1 (by first | assumption | omega | rfl | decide) ?_
  show zR E _ _ X 9 _ _ _ _ _ _ _
  generalize hi : wA i x (upd (i x) 0 (c3 (tv (i n 4) t) (True) (True))) = i' at hK ⊢
  have hn : i' n = i n := by rw [← hi]; exact wA_n nx
  clear hi
  have hO' : zOk (i' n) := by rw [hn]; exact hO
  obtain ⟨hT', hT8'⟩ := hO'.T8
  refine r_if_eq (t := 21) qX4_bathDegrees_9 (by decide) (fun hc9 => ?_) (fun hc9 => ?_)
  · rw [if_neg (zb_0.mp hc9)] at hK
    refine r_iconst (v := nI 0) qX4_bathDegrees_21 (by decide) ?_
    refine r_iret qX4_bathDegrees_22 rfl rfl rfl rfl ?_
    first | exact hK | (simp only [hn]; exact hK) | (simp only [hn] at *; exact hK)
  · have hv := zb_ne.mp hc9; clear hc9; rw [if_pos hv] at hK
    obtain ⟨e, hk⟩ := tv_nat hv; generalize zn t = kt at *; subst e; have hk' : kt < zn (i' n 4) := by (rw [hn]; exact hk)
    refine r_aload_n qX4_bathDegrees_12 rfl ?_
    refine r_iload_n qX4_bathDegrees_13 rfl ?_
    refine r_iconst (v := nI 2) qX4_bathDegrees_14 (by decide) ?_
    refine r_cv2 (cu2 := 0) (su2 := 0) qX4_bathDegrees_15 kX4_166 rfl (by decide +kernel) (c := 4) (by assumption) (by decide) rfl rfl rfl rfl rfl rfl ?_
    refine c_X4_ofBath (by first | assumption | omega | rfl | decide) (by first | assumption | omega | rfl | decide) ?_
    show zR E _ _ X 18 _ _ _ _ _ _ _
    refine r_goto (t := 22) qX4_bathDegrees_18 (by decide) ?_
    refine r_iret qX4_bathDegrees_22 rfl rfl rfl rfl ?_
    first | exact hK | (simp only [hn]; exact hK) | (simp only [hn] at *; exact hK)
set_option maxHeartbeats 4000000 in
set_option maxRecDepth 20000 in
theorem c_X4_spiritLost {E : Ev} {g : Sh} {i : Ni} {j : Nj} {K : Kp} {x n d b p s o : Nat} {t : Int32} (hB : zB g i x n d b p s o) (hK : K (.inl (some (.int (if tv (i n 3) t then i n (10 + 4 * zn t + 3) else nI 0)))) g (wA i x (upd (i x) 0 (c3 (tv (i n 3) t) (True) (True)))) j) : zCon E mX4_spiritLost [.ref x, .int t] g i j K := by
  refine zcon_of (by decide +kernel) rfl rfl (lo := [.ref x, .int t]) rfl (fun X => ?_)
  have hB' := hB
  obtain ⟨hW, hR3, hO⟩ := hB
  have w1 := hW.1
  have nx := hW.nx
  have hM' := hW.m hR3
  obtain ⟨hT, hT8⟩ := hO.T8
  obtain ⟨hS, hS5⟩ := hO.S5
  obtain ⟨hBt, hB4⟩ := hO.B4
  refine r_aload_n qX4_spiritLost_0 rfl ?_
  refine r_aload_n qX4_spiritLost_1 rfl ?_
  refine r_iload_n qX4_spiritLost_2 rfl ?_
  refine r_cv1 (cu2 := 0) (su2 := 0) qX4_spiritLost_3 kX4_393 rfl (by decide +kernel) (c := 4) (by assumption) (by decide) rfl rfl rfl rfl rfl rfl ?_
  refine c_X4_hasSpirit (by first | assumption | omega | rfl | decide) (by first | assumption | omega | rfl | decide) (by first | assumption | omega | rfl | decide) ?_
  show zR E _ _ X 6 _ _ _ _ _ _ _
  refine r_cv1 (cu2 := 0) (su2 := 0) qX4_spiritLost_6 kX4_371 rfl (by decide +kernel) (c := 4) (by assumption) (by decide) rfl rfl rfl rfl rfl rfl ?_
  refine c_X4_passes1 (by first | assumption | omega | rfl | decide) ?_
  show zR E _ _ X 9 _ _ _ _ _ _ _
  generalize hi : wA i x (upd (i x) 0 (c3 (tv (i n 3) t) (True) (True))) = i' at hK ⊢
  have hn : i' n = i n := by rw [← hi]; exact wA_n nx
  clear hi
  have hO' : zOk (i' n) := by rw [hn]; exact hO
  obtain ⟨hT', hT8'⟩ := hO'.T8
  refine r_if_eq (t := 21) qX4_spiritLost_9 (by decide) (fun hc9 => ?_) (fun hc9 => ?_)
  · rw [if_neg (zb_0.mp hc9)] at hK
    refine r_iconst (v := nI 0) qX4_spiritLost_21 (by decide) ?_
    refine r_iret qX4_spiritLost_22 rfl rfl rfl rfl ?_
    first | exact hK | (simp only [hn]; exact hK) | (simp only [hn] at *; exact hK)
  · have hv := zb_ne.mp hc9; clear hc9; rw [if_pos hv] at hK
    obtain ⟨e, hk⟩ := tv_nat hv; generalize zn t = kt at *; subst e; have hk' : kt < zn (i' n 3) := by (rw [hn]; exact hk)
    refine r_aload_n qX4_spiritLost_12 rfl ?_
    refine r_iload_n qX4_spiritLost_13 rfl ?_
    refine r_iconst (v := nI 3) qX4_spiritLost_14 (by decide) ?_
    refine r_cv2 (cu2 := 0) (su2 := 0) qX4_spiritLost_15 kX4_152 rfl (by decide +kernel) (c := 4) (by assumption) (by decide) rfl rfl rfl rfl rfl rfl ?_
    refine c_X4_ofSpirit (by first | assumption | omega | rfl | decide) (by first | assumption | omega | rfl | decide) ?_
    show zR E _ _ X 18 _ _ _ _ _ _ _
    refine r_goto (t := 22) qX4_spiritLost_18 (by decide) ?_
    refine r_iret qX4_spiritLost_22 rfl rfl rfl rfl ?_
    first | exact hK | (simp only [hn]; exact hK) | (simp only [hn] at *; exact hK)
set_option maxHeartbeats 4000000 in
set_option maxRecDepth 20000 in
theorem c_X4_surroundingsOf {E : Ev} {g : Sh} {i : Ni} {j : Nj} {K : Kp} {x n d b p s o : Nat} {t : Int32} (hB : zB g i x n d b p s o) (hK : K (.inl (some (.int (if tv (i n 5) t then sAround (i n) (zn t) else nI 0)))) g (wA i x (upd (i x) 0 (c3 (tv (i n 5) t) (True) (True)))) j) : zCon E mX4_surroundingsOf [.ref x, .int t] g i j K := by
  refine zcon_of (by decide +kernel) rfl rfl (lo := [.ref x, .int t]) rfl (fun X => ?_)
  have hB' := hB
  obtain ⟨hW, hR3, hO⟩ := hB
  have w1 := hW.1
  have nx := hW.nx
  have hM' := hW.m hR3
  obtain ⟨hT, hT8⟩ := hO.T8
  obtain ⟨hS, hS5⟩ := hO.S5
  obtain ⟨hBt, hB4⟩ := hO.B4
  refine r_aload_n qX4_surroundingsOf_0 rfl ?_
  refine r_aload_n qX4_surroundingsOf_1 rfl ?_
  refine r_iload_n qX4_surroundingsOf_2 rfl ?_
  refine r_cv1 (cu2 := 0) (su2 := 0) qX4_surroundingsOf_3 kX4_396 rfl (by decide +kernel) (c := 4) (by assumption) (by decide) rfl rfl rfl rfl rfl rfl ?_
  refine c_X4_hasTube (by first | assumption | omega | rfl | decide) (by first | assumption | omega | rfl | decide) (by first | assumption | omega | rfl | decide) ?_
  show zR E _ _ X 6 _ _ _ _ _ _ _
  refine r_cv1 (cu2 := 0) (su2 := 0) qX4_surroundingsOf_6 kX4_371 rfl (by decide +kernel) (c := 4) (by assumption) (by decide) rfl rfl rfl rfl rfl rfl ?_
  refine c_X4_passes1 (by first | assumption | omega | rfl | decide) ?_
  show zR E _ _ X 9 _ _ _ _ _ _ _
  generalize hi : wA i x (upd (i x) 0 (c3 (tv (i n 5) t) (True) (True))) = i' at hK ⊢
  have hn : i' n = i n := by rw [← hi]; exact wA_n nx
  clear hi
  have hO' : zOk (i' n) := by rw [hn]; exact hO
  obtain ⟨hT', hT8'⟩ := hO'.T8
  refine r_if_eq (t := 20) qX4_surroundingsOf_9 (by decide) (fun hc9 => ?_) (fun hc9 => ?_)
  · rw [if_neg (zb_0.mp hc9)] at hK
    refine r_iconst (v := nI 0) qX4_surroundingsOf_20 (by decide) ?_
    refine r_iret qX4_surroundingsOf_21 rfl rfl rfl rfl ?_
    first | exact hK | (simp only [hn]; exact hK) | (simp only [hn] at *; exact hK)
  · have hv := zb_ne.mp hc9; clear hc9; rw [if_pos hv] at hK
    obtain ⟨e, hk⟩ := tv_nat hv; generalize zn t = kt at *; subst e; have hk' : kt < zn (i' n 5) := by (rw [hn]; exact hk)
    have hf' := hO'.f hk'; have h8 := hO'.k8 hk'; obtain ⟨hm, hm6⟩ := hO'.many hk'; have zkt : zn (nI kt) = kt := zn_nI (by omega)
    refine r_aload_n qX4_surroundingsOf_12 rfl ?_
    refine r_iload_n qX4_surroundingsOf_13 rfl ?_
    refine r_cv1 (cu2 := 0) (su2 := 0) qX4_surroundingsOf_14 kX4_169 rfl (by decide +kernel) (c := 4) (by assumption) (by decide) rfl rfl rfl rfl rfl rfl ?_
    refine c_X4_around (by first | assumption | omega | rfl | decide) (by first | assumption | omega | rfl | decide) (by first | assumption | omega | rfl | decide) ?_
    show zR E _ _ X 17 _ _ _ _ _ _ _
    refine r_goto (t := 21) qX4_surroundingsOf_17 (by decide) ?_
    refine r_iret qX4_surroundingsOf_21 rfl rfl rfl rfl ?_
    first | exact hK | (simp only [hn]; exact hK) | (simp only [hn] at *; exact hK)
set_option maxHeartbeats 4000000 in
set_option maxRecDepth 20000 in
theorem c_X4_isSettled {E : Ev} {g : Sh} {i : Ni} {j : Nj} {K : Kp} {x n d b p s o : Nat} {t : Int32} (hB : zB g i x n d b p s o) (hK : K (.inl (some (.int (if tv (i n 5) t then zb (i n (42 + 21 * zn t + 5) = sAround (i n) (zn t)) else nI 0)))) g (wA i x (upd (i x) 0 (c3 (tv (i n 5) t) (True) (True)))) j) : zCon E mX4_isSettled [.ref x, .int t] g i j K := by
  refine zcon_of (by decide +kernel) rfl rfl (lo := [.ref x, .int t]) rfl (fun X => ?_)
  have hB' := hB
  obtain ⟨hW, hR3, hO⟩ := hB
  have w1 := hW.1
  have nx := hW.nx
  have hM' := hW.m hR3
  obtain ⟨hT, hT8⟩ := hO.T8
  obtain ⟨hS, hS5⟩ := hO.S5
  obtain ⟨hBt, hB4⟩ := hO.B4
  refine r_aload_n qX4_isSettled_0 rfl ?_
  refine r_aload_n qX4_isSettled_1 rfl ?_
  refine r_iload_n qX4_isSettled_2 rfl ?_
  refine r_cv1 (cu2 := 0) (su2 := 0) qX4_isSettled_3 kX4_396 rfl (by decide +kernel) (c := 4) (by assumption) (by decide) rfl rfl rfl rfl rfl rfl ?_
  refine c_X4_hasTube (by first | assumption | omega | rfl | decide) (by first | assumption | omega | rfl | decide) (by first | assumption | omega | rfl | decide) ?_
  show zR E _ _ X 6 _ _ _ _ _ _ _
  refine r_cv1 (cu2 := 0) (su2 := 0) qX4_isSettled_6 kX4_371 rfl (by decide +kernel) (c := 4) (by assumption) (by decide) rfl rfl rfl rfl rfl rfl ?_
  refine c_X4_passes1 (by first | assumption | omega | rfl | decide) ?_
  show zR E _ _ X 9 _ _ _ _ _ _ _
  generalize hi : wA i x (upd (i x) 0 (c3 (tv (i n 5) t) (True) (True))) = i' at hK ⊢
  have hn : i' n = i n := by rw [← hi]; exact wA_n nx
  clear hi
  have hO' : zOk (i' n) := by rw [hn]; exact hO
  obtain ⟨hT', hT8'⟩ := hO'.T8
  refine r_if_eq (t := 24) qX4_isSettled_9 (by decide) (fun hc9 => ?_) (fun hc9 => ?_)
  · rw [if_neg (zb_0.mp hc9)] at hK
    refine r_iconst (v := nI 0) qX4_isSettled_24 (by decide) ?_
    refine r_iret qX4_isSettled_25 rfl (by first | decide | exact zb_nar _ | assumption) rfl rfl ?_
    first | exact hK | (rw [zb_f (by rw [hn] at *; exact zb_0.mp hc17)] at hK; exact hK) | (rw [zb_t (by rw [hn] at *; exact zb_ne.mp hc17)] at hK; exact hK)
  · have hv := zb_ne.mp hc9; clear hc9; rw [if_pos hv] at hK
    obtain ⟨e, hk⟩ := tv_nat hv; generalize zn t = kt at *; subst e; have hk' : kt < zn (i' n 5) := by (rw [hn]; exact hk)
    have hf' := hO'.f hk'; have h8 := hO'.k8 hk'; obtain ⟨hm, hm6⟩ := hO'.many hk'; have zkt : zn (nI kt) = kt := zn_nI (by omega)
    refine r_aload_n qX4_isSettled_12 rfl ?_
    refine r_iload_n qX4_isSettled_13 rfl ?_
    refine r_cv1 (cu2 := 0) (su2 := 0) qX4_isSettled_14 kX4_178 rfl (by decide +kernel) (c := 4) (by assumption) (by decide) rfl rfl rfl rfl rfl rfl ?_
    refine c_X4_isStill (by first | assumption | omega | rfl | decide) (by first | assumption | omega | rfl | decide) (by first | assumption | omega | rfl | decide) ?_
    show zR E _ _ X 17 _ _ _ _ _ _ _
    refine r_if_eq (t := 24) qX4_isSettled_17 (by decide) (fun hc17 => ?_) (fun hc17 => ?_)
    · refine r_iconst (v := nI 0) qX4_isSettled_24 (by decide) ?_
      refine r_iret qX4_isSettled_25 rfl (by first | decide | exact zb_nar _ | assumption) rfl rfl ?_
      first | exact hK | (rw [zb_f (by rw [hn] at *; exact zb_0.mp hc17)] at hK; exact hK) | (rw [zb_t (by rw [hn] at *; exact zb_ne.mp hc17)] at hK; exact hK)
    · refine r_iconst (v := nI 1) qX4_isSettled_20 (by decide) ?_
      refine r_goto (t := 25) qX4_isSettled_21 (by decide) ?_
      refine r_iret qX4_isSettled_25 rfl (by first | decide | exact zb_nar _ | assumption) rfl rfl ?_
      first | exact hK | (rw [zb_f (by rw [hn] at *; exact zb_0.mp hc17)] at hK; exact hK) | (rw [zb_t (by rw [hn] at *; exact zb_ne.mp hc17)] at hK; exact hK)
set_option maxHeartbeats 4000000 in
set_option maxRecDepth 20000 in
theorem c_X4_height {E : Ev} {g : Sh} {i : Ni} {j : Nj} {K : Kp} {x n d b p s o : Nat} {t : Int32} (hB : zB g i x n d b p s o) (hK : K (.inl (some (.int (if tv (i n 5) t then sHigh (i n) (zn t) else nI 0)))) g (wA i x (upd (i x) 0 (c3 (tv (i n 5) t) (True) (True)))) j) : zCon E mX4_height [.ref x, .int t] g i j K := by
  refine zcon_of (by decide +kernel) rfl rfl (lo := [.ref x, .int t]) rfl (fun X => ?_)
  have hB' := hB
  obtain ⟨hW, hR3, hO⟩ := hB
  have w1 := hW.1
  have nx := hW.nx
  have hM' := hW.m hR3
  obtain ⟨hT, hT8⟩ := hO.T8
  obtain ⟨hS, hS5⟩ := hO.S5
  obtain ⟨hBt, hB4⟩ := hO.B4
  refine r_aload_n qX4_height_0 rfl ?_
  refine r_aload_n qX4_height_1 rfl ?_
  refine r_iload_n qX4_height_2 rfl ?_
  refine r_cv1 (cu2 := 0) (su2 := 0) qX4_height_3 kX4_396 rfl (by decide +kernel) (c := 4) (by assumption) (by decide) rfl rfl rfl rfl rfl rfl ?_
  refine c_X4_hasTube (by first | assumption | omega | rfl | decide) (by first | assumption | omega | rfl | decide) (by first | assumption | omega | rfl | decide) ?_
  show zR E _ _ X 6 _ _ _ _ _ _ _
  refine r_cv1 (cu2 := 0) (su2 := 0) qX4_height_6 kX4_371 rfl (by decide +kernel) (c := 4) (by assumption) (by decide) rfl rfl rfl rfl rfl rfl ?_
  refine c_X4_passes1 (by first | assumption | omega | rfl | decide) ?_
  show zR E _ _ X 9 _ _ _ _ _ _ _
  generalize hi : wA i x (upd (i x) 0 (c3 (tv (i n 5) t) (True) (True))) = i' at hK ⊢
  have hn : i' n = i n := by rw [← hi]; exact wA_n nx
  clear hi
  have hO' : zOk (i' n) := by rw [hn]; exact hO
  obtain ⟨hT', hT8'⟩ := hO'.T8
  refine r_if_eq (t := 20) qX4_height_9 (by decide) (fun hc9 => ?_) (fun hc9 => ?_)
  · rw [if_neg (zb_0.mp hc9)] at hK
    refine r_iconst (v := nI 0) qX4_height_20 (by decide) ?_
    refine r_iret qX4_height_21 rfl rfl rfl rfl ?_
    first | exact hK | (simp only [hn]; exact hK) | (simp only [hn] at *; exact hK)
  · have hv := zb_ne.mp hc9; clear hc9; rw [if_pos hv] at hK
    obtain ⟨e, hk⟩ := tv_nat hv; generalize zn t = kt at *; subst e; have hk' : kt < zn (i' n 5) := by (rw [hn]; exact hk)
    have hf' := hO'.f hk'; have h8 := hO'.k8 hk'; obtain ⟨hm, hm6⟩ := hO'.many hk'; have zkt : zn (nI kt) = kt := zn_nI (by omega)
    refine r_aload_n qX4_height_12 rfl ?_
    refine r_iload_n qX4_height_13 rfl ?_
    refine r_cv1 (cu2 := 0) (su2 := 0) qX4_height_14 kX4_186 rfl (by decide +kernel) (c := 4) (by assumption) (by decide) rfl rfl rfl rfl rfl rfl ?_
    refine c_X4_heightNow (by first | assumption | omega | rfl | decide) (by first | assumption | omega | rfl | decide) ?_
    show zR E _ _ X 17 _ _ _ _ _ _ _
    refine r_goto (t := 21) qX4_height_17 (by decide) ?_
    refine r_iret qX4_height_21 rfl rfl rfl rfl ?_
    first | exact hK | (simp only [hn]; exact hK) | (simp only [hn] at *; exact hK)
set_option maxHeartbeats 4000000 in
set_option maxRecDepth 20000 in
theorem c_X4_hasScale {E : Ev} {g : Sh} {i : Ni} {j : Nj} {K : Kp} {x n d b p s o : Nat} {t : Int32} (hB : zB g i x n d b p s o) (hK : K (.inl (some (.int (if tv (i n 5) t then zb (2 ≤ sMany (i n) (zn t)) else nI 0)))) g (wA i x (upd (i x) 0 (c3 (tv (i n 5) t) (True) (True)))) j) : zCon E mX4_hasScale [.ref x, .int t] g i j K := by
  refine zcon_of (by decide +kernel) rfl rfl (lo := [.ref x, .int t]) rfl (fun X => ?_)
  have hB' := hB
  obtain ⟨hW, hR3, hO⟩ := hB
  have w1 := hW.1
  have nx := hW.nx
  have hM' := hW.m hR3
  obtain ⟨hT, hT8⟩ := hO.T8
  obtain ⟨hS, hS5⟩ := hO.S5
  obtain ⟨hBt, hB4⟩ := hO.B4
  refine r_aload_n qX4_hasScale_0 rfl ?_
  refine r_aload_n qX4_hasScale_1 rfl ?_
  refine r_iload_n qX4_hasScale_2 rfl ?_
  refine r_cv1 (cu2 := 0) (su2 := 0) qX4_hasScale_3 kX4_396 rfl (by decide +kernel) (c := 4) (by assumption) (by decide) rfl rfl rfl rfl rfl rfl ?_
  refine c_X4_hasTube (by first | assumption | omega | rfl | decide) (by first | assumption | omega | rfl | decide) (by first | assumption | omega | rfl | decide) ?_
  show zR E _ _ X 6 _ _ _ _ _ _ _
  refine r_cv1 (cu2 := 0) (su2 := 0) qX4_hasScale_6 kX4_371 rfl (by decide +kernel) (c := 4) (by assumption) (by decide) rfl rfl rfl rfl rfl rfl ?_
  refine c_X4_passes1 (by first | assumption | omega | rfl | decide) ?_
  show zR E _ _ X 9 _ _ _ _ _ _ _
  generalize hi : wA i x (upd (i x) 0 (c3 (tv (i n 5) t) (True) (True))) = i' at hK ⊢
  have hn : i' n = i n := by rw [← hi]; exact wA_n nx
  clear hi
  have hO' : zOk (i' n) := by rw [hn]; exact hO
  obtain ⟨hT', hT8'⟩ := hO'.T8
  refine r_if_eq (t := 24) qX4_hasScale_9 (by decide) (fun hc9 => ?_) (fun hc9 => ?_)
  · rw [if_neg (zb_0.mp hc9)] at hK
    refine r_iconst (v := nI 0) qX4_hasScale_24 (by decide) ?_
    refine r_iret qX4_hasScale_25 rfl (by first | decide | exact zb_nar _ | assumption) rfl rfl ?_
    first | exact hK | (rw [zb_f (by rw [hn] at *; exact zb_0.mp hc17)] at hK; exact hK) | (rw [zb_t (by rw [hn] at *; exact zb_ne.mp hc17)] at hK; exact hK)
  · have hv := zb_ne.mp hc9; clear hc9; rw [if_pos hv] at hK
    obtain ⟨e, hk⟩ := tv_nat hv; generalize zn t = kt at *; subst e; have hk' : kt < zn (i' n 5) := by (rw [hn]; exact hk)
    have hf' := hO'.f hk'; have h8 := hO'.k8 hk'; obtain ⟨hm, hm6⟩ := hO'.many hk'; have zkt : zn (nI kt) = kt := zn_nI (by omega)
    refine r_aload_n qX4_hasScale_12 rfl ?_
    refine r_iload_n qX4_hasScale_13 rfl ?_
    refine r_cv1 (cu2 := 0) (su2 := 0) qX4_hasScale_14 kX4_416 rfl (by decide +kernel) (c := 4) (by assumption) (by decide) rfl rfl rfl rfl rfl rfl ?_
    refine c_X4_isScaled (by first | assumption | omega | rfl | decide) (by first | assumption | omega | rfl | decide) (by first | assumption | omega | rfl | decide) ?_
    show zR E _ _ X 17 _ _ _ _ _ _ _
    refine r_if_eq (t := 24) qX4_hasScale_17 (by decide) (fun hc17 => ?_) (fun hc17 => ?_)
    · refine r_iconst (v := nI 0) qX4_hasScale_24 (by decide) ?_
      refine r_iret qX4_hasScale_25 rfl (by first | decide | exact zb_nar _ | assumption) rfl rfl ?_
      first | exact hK | (rw [zb_f (by rw [hn] at *; exact zb_0.mp hc17)] at hK; exact hK) | (rw [zb_t (by rw [hn] at *; exact zb_ne.mp hc17)] at hK; exact hK)
    · refine r_iconst (v := nI 1) qX4_hasScale_20 (by decide) ?_
      refine r_goto (t := 25) qX4_hasScale_21 (by decide) ?_
      refine r_iret qX4_hasScale_25 rfl (by first | decide | exact zb_nar _ | assumption) rfl rfl ?_
      first | exact hK | (rw [zb_f (by rw [hn] at *; exact zb_0.mp hc17)] at hK; exact hK) | (rw [zb_t (by rw [hn] at *; exact zb_ne.mp hc17)] at hK; exact hK)
set_option maxHeartbeats 4000000 in
set_option maxRecDepth 20000 in
theorem c_X4_sensitivity {E : Ev} {g : Sh} {i : Ni} {j : Nj} {K : Kp} {x n d b p s o : Nat} {t : Int32} (hB : zB g i x n d b p s o) (hK : K (.inl (some (.int (if tv (i n 5) t then sFree (i n) (zn t) (i n (42 + 21 * zn t + 5) + nI 10) - sFree (i n) (zn t) (i n (42 + 21 * zn t + 5)) else nI 0)))) g (wA i x (upd (i x) 0 (c3 (tv (i n 5) t) (True) (True)))) j) : zCon E mX4_sensitivity [.ref x, .int t] g i j K := by
  refine zcon_of (by decide +kernel) rfl rfl (lo := [.ref x, .int t]) rfl (fun X => ?_)
  have hB' := hB
  obtain ⟨hW, hR3, hO⟩ := hB
  have w1 := hW.1
  have nx := hW.nx
  have hM' := hW.m hR3
  obtain ⟨hT, hT8⟩ := hO.T8
  obtain ⟨hS, hS5⟩ := hO.S5
  obtain ⟨hBt, hB4⟩ := hO.B4
  refine r_aload_n qX4_sensitivity_0 rfl ?_
  refine r_aload_n qX4_sensitivity_1 rfl ?_
  refine r_iload_n qX4_sensitivity_2 rfl ?_
  refine r_cv1 (cu2 := 0) (su2 := 0) qX4_sensitivity_3 kX4_396 rfl (by decide +kernel) (c := 4) (by assumption) (by decide) rfl rfl rfl rfl rfl rfl ?_
  refine c_X4_hasTube (by first | assumption | omega | rfl | decide) (by first | assumption | omega | rfl | decide) (by first | assumption | omega | rfl | decide) ?_
  show zR E _ _ X 6 _ _ _ _ _ _ _
  refine r_cv1 (cu2 := 0) (su2 := 0) qX4_sensitivity_6 kX4_371 rfl (by decide +kernel) (c := 4) (by assumption) (by decide) rfl rfl rfl rfl rfl rfl ?_
  refine c_X4_passes1 (by first | assumption | omega | rfl | decide) ?_
  show zR E _ _ X 9 _ _ _ _ _ _ _
  generalize hi : wA i x (upd (i x) 0 (c3 (tv (i n 5) t) (True) (True))) = i' at hK ⊢
  have hn : i' n = i n := by rw [← hi]; exact wA_n nx
  clear hi
  have hO' : zOk (i' n) := by rw [hn]; exact hO
  obtain ⟨hT', hT8'⟩ := hO'.T8
  refine r_if_eq (t := 35) qX4_sensitivity_9 (by decide) (fun hc9 => ?_) (fun hc9 => ?_)
  · rw [if_neg (zb_0.mp hc9)] at hK
    refine r_iconst (v := nI 0) qX4_sensitivity_35 (by decide) ?_
    refine r_iret qX4_sensitivity_36 rfl rfl rfl rfl ?_
    first | exact hK | (simp only [hn]; exact hK) | (simp only [hn] at *; exact hK)
  · have hv := zb_ne.mp hc9; clear hc9; rw [if_pos hv] at hK
    obtain ⟨e, hk⟩ := tv_nat hv; generalize zn t = kt at *; subst e; have hk' : kt < zn (i' n 5) := by (rw [hn]; exact hk)
    have hf' := hO'.f hk'; have h8 := hO'.k8 hk'; obtain ⟨hm, hm6⟩ := hO'.many hk'; have zkt : zn (nI kt) = kt := zn_nI (by omega)
    refine r_aload_n qX4_sensitivity_12 rfl ?_
    refine r_iload_n qX4_sensitivity_13 rfl ?_
    refine r_aload_n qX4_sensitivity_14 rfl ?_
    refine r_iload_n qX4_sensitivity_15 rfl ?_
    refine r_iconst (v := nI 5) qX4_sensitivity_16 (by decide) ?_
    refine r_cv2 (cu2 := 0) (su2 := 0) qX4_sensitivity_17 kX4_148 rfl (by decide +kernel) (c := 4) (by assumption) (by decide) rfl rfl rfl rfl rfl rfl ?_
    refine c_X4_of (by first | assumption | omega | rfl | decide) (by first | assumption | omega | rfl | decide) ?_
    show zR E _ _ X 20 _ _ _ _ _ _ _
    refine r_bipush (v := nI 10) qX4_sensitivity_20 (by decide) ?_
    first | with_reducible refine r_iaddN qX4_sensitivity_22 ?_ | refine r_iadd qX4_sensitivity_22 ?_
    refine r_cv2 (cu2 := 0) (su2 := 0) qX4_sensitivity_23 kX4_155 rfl (by decide +kernel) (c := 4) (by assumption) (by decide) rfl rfl rfl rfl rfl rfl ?_
    refine c_X4_freeAt (by first | assumption | omega | rfl | decide) (by first | assumption | omega | rfl | decide) ?_
    show zR E _ _ X 26 _ _ _ _ _ _ _
    refine r_aload_n qX4_sensitivity_26 rfl ?_
    refine r_iload_n qX4_sensitivity_27 rfl ?_
    refine r_cv1 (cu2 := 0) (su2 := 0) qX4_sensitivity_28 kX4_158 rfl (by decide +kernel) (c := 4) (by assumption) (by decide) rfl rfl rfl rfl rfl rfl ?_
    refine c_X4_freeNow (by first | assumption | omega | rfl | decide) (by first | assumption | omega | rfl | decide) ?_
    show zR E _ _ X 31 _ _ _ _ _ _ _
    refine r_isub qX4_sensitivity_31 ?_
    refine r_goto (t := 36) qX4_sensitivity_32 (by decide) ?_
    refine r_iret qX4_sensitivity_36 rfl rfl rfl rfl ?_
    first | exact hK | (simp only [hn]; exact hK) | (simp only [hn] at *; exact hK)
set_option maxHeartbeats 4000000 in
set_option maxRecDepth 20000 in
theorem c_X4_markRefusal {E : Ev} {g : Sh} {i : Ni} {j : Nj} {K : Kp} {x n d b p s o : Nat} {t : Int32} (hB : zB g i x n d b p s o) (hK : K (.inl (some (.int (if tv (i n 5) t then sMark (i n) (zn t) else nI 0)))) g (wA i x (upd (i x) 0 (c3 (tv (i n 5) t) (True) (True)))) j) : zCon E mX4_markRefusal [.ref x, .int t] g i j K := by
  refine zcon_of (by decide +kernel) rfl rfl (lo := [.ref x, .int t]) rfl (fun X => ?_)
  have hB' := hB
  obtain ⟨hW, hR3, hO⟩ := hB
  have w1 := hW.1
  have nx := hW.nx
  have hM' := hW.m hR3
  obtain ⟨hT, hT8⟩ := hO.T8
  obtain ⟨hS, hS5⟩ := hO.S5
  obtain ⟨hBt, hB4⟩ := hO.B4
  refine r_aload_n qX4_markRefusal_0 rfl ?_
  refine r_aload_n qX4_markRefusal_1 rfl ?_
  refine r_iload_n qX4_markRefusal_2 rfl ?_
  refine r_cv1 (cu2 := 0) (su2 := 0) qX4_markRefusal_3 kX4_396 rfl (by decide +kernel) (c := 4) (by assumption) (by decide) rfl rfl rfl rfl rfl rfl ?_
  refine c_X4_hasTube (by first | assumption | omega | rfl | decide) (by first | assumption | omega | rfl | decide) (by first | assumption | omega | rfl | decide) ?_
  show zR E _ _ X 6 _ _ _ _ _ _ _
  refine r_cv1 (cu2 := 0) (su2 := 0) qX4_markRefusal_6 kX4_371 rfl (by decide +kernel) (c := 4) (by assumption) (by decide) rfl rfl rfl rfl rfl rfl ?_
  refine c_X4_passes1 (by first | assumption | omega | rfl | decide) ?_
  show zR E _ _ X 9 _ _ _ _ _ _ _
  generalize hi : wA i x (upd (i x) 0 (c3 (tv (i n 5) t) (True) (True))) = i' at hK ⊢
  have hn : i' n = i n := by rw [← hi]; exact wA_n nx
  clear hi
  have hO' : zOk (i' n) := by rw [hn]; exact hO
  obtain ⟨hT', hT8'⟩ := hO'.T8
  refine r_if_eq (t := 20) qX4_markRefusal_9 (by decide) (fun hc9 => ?_) (fun hc9 => ?_)
  · rw [if_neg (zb_0.mp hc9)] at hK
    refine r_iconst (v := nI 0) qX4_markRefusal_20 (by decide) ?_
    refine r_iret qX4_markRefusal_21 rfl rfl rfl rfl ?_
    first | exact hK | (simp only [hn]; exact hK) | (simp only [hn] at *; exact hK)
  · have hv := zb_ne.mp hc9; clear hc9; rw [if_pos hv] at hK
    obtain ⟨e, hk⟩ := tv_nat hv; generalize zn t = kt at *; subst e; have hk' : kt < zn (i' n 5) := by (rw [hn]; exact hk)
    have hf' := hO'.f hk'; have h8 := hO'.k8 hk'; obtain ⟨hm, hm6⟩ := hO'.many hk'; have zkt : zn (nI kt) = kt := zn_nI (by omega)
    refine r_aload_n qX4_markRefusal_12 rfl ?_
    refine r_iload_n qX4_markRefusal_13 rfl ?_
    refine r_cv1 (cu2 := 0) (su2 := 0) qX4_markRefusal_14 kX4_317 rfl (by decide +kernel) (c := 4) (by assumption) (by decide) rfl rfl rfl rfl rfl rfl ?_
    refine c_X4_reasonToMark (by first | assumption | omega | rfl | decide) (by first | assumption | omega | rfl | decide) (by first | assumption | omega | rfl | decide) ?_
    show zR E _ _ X 17 _ _ _ _ _ _ _
    refine r_goto (t := 21) qX4_markRefusal_17 (by decide) ?_
    refine r_iret qX4_markRefusal_21 rfl rfl rfl rfl ?_
    first | exact hK | (simp only [hn]; exact hK) | (simp only [hn] at *; exact hK)
set_option maxHeartbeats 4000000 in
set_option maxRecDepth 20000 in
theorem c_X4_reading {E : Ev} {g : Sh} {i : Ni} {j : Nj} {K : Kp} {x n d b p s o : Nat} {t : Int32} (hB : zB g i x n d b p s o) (hK : K (.inl (some (.int (if (tv (i n 5) t) ∧ (rd (i n) t) then sRead (i n) (zn t) else nI 0)))) g (wA i x (upd (i x) 0 (c3 (tv (i n 5) t) (rd (i n) t) (True)))) j) : zCon E mX4_reading [.ref x, .int t] g i j K := by
  refine zcon_of (by decide +kernel) rfl rfl (lo := [.ref x, .int t]) rfl (fun X => ?_)
  have hB' := hB
  obtain ⟨hW, hR3, hO⟩ := hB
  have w1 := hW.1
  have nx := hW.nx
  have hM' := hW.m hR3
  obtain ⟨hT, hT8⟩ := hO.T8
  obtain ⟨hS, hS5⟩ := hO.S5
  obtain ⟨hBt, hB4⟩ := hO.B4
  refine r_aload_n qX4_reading_0 rfl ?_
  refine r_aload_n qX4_reading_1 rfl ?_
  refine r_iload_n qX4_reading_2 rfl ?_
  refine r_cv1 (cu2 := 0) (su2 := 0) qX4_reading_3 kX4_396 rfl (by decide +kernel) (c := 4) (by assumption) (by decide) rfl rfl rfl rfl rfl rfl ?_
  refine c_X4_hasTube (by first | assumption | omega | rfl | decide) (by first | assumption | omega | rfl | decide) (by first | assumption | omega | rfl | decide) ?_
  show zR E _ _ X 6 _ _ _ _ _ _ _
  refine r_aload_n qX4_reading_6 rfl ?_
  refine r_iload_n qX4_reading_7 rfl ?_
  refine r_cv1 (cu2 := 0) (su2 := 0) qX4_reading_8 kX4_419 rfl (by decide +kernel) (c := 4) (by assumption) (by decide) rfl rfl rfl rfl rfl rfl ?_
  refine c_X4_isRead (by first | assumption | omega | rfl | decide) ?_
  show zR E _ _ X 11 _ _ _ _ _ _ _
  refine r_cv2 (cu2 := 0) (su2 := 0) qX4_reading_11 kX4_409 rfl (by decide +kernel) (c := 4) (by assumption) (by decide) rfl rfl rfl rfl rfl rfl ?_
  refine c_X4_passes2 (by first | assumption | omega | rfl | decide) ?_
  show zR E _ _ X 14 _ _ _ _ _ _ _
  generalize hi : wA i x (upd (i x) 0 (c3 (tv (i n 5) t) (rd (i n) t) (True))) = i' at hK ⊢
  have hn : i' n = i n := by rw [← hi]; exact wA_n nx
  clear hi
  have hO' : zOk (i' n) := by rw [hn]; exact hO
  obtain ⟨hT', hT8'⟩ := hO'.T8
  refine r_if_eq (t := 25) qX4_reading_14 (by decide) (fun hc14 => ?_) (fun hc14 => ?_)
  · rw [if_neg (zb_0.mp hc14)] at hK
    refine r_iconst (v := nI 0) qX4_reading_25 (by decide) ?_
    refine r_iret qX4_reading_26 rfl rfl rfl rfl ?_
    first | exact hK | (simp only [hn]; exact hK) | (simp only [hn] at *; exact hK)
  · have hv := zb_ne.mp hc14; clear hc14; rw [if_pos hv] at hK
    obtain ⟨e, hk⟩ := tv_nat hv.1; generalize zn t = kt at *; subst e; have hk' : kt < zn (i' n 5) := by (rw [hn]; exact hk)
    have hf' := hO'.f hk'; have h8 := hO'.k8 hk'; obtain ⟨hm, hm6⟩ := hO'.many hk'; have zkt : zn (nI kt) = kt := zn_nI (by omega); have h2m : 2 ≤ sMany (i' n) kt := by (rw [hn]; have q := hv.2.2; rw [zkt] at q; exact q)
    refine r_aload_n qX4_reading_17 rfl ?_
    refine r_iload_n qX4_reading_18 rfl ?_
    refine r_cv1 (cu2 := 0) (su2 := 0) qX4_reading_19 kX4_422 rfl (by decide +kernel) (c := 4) (by assumption) (by decide) rfl rfl rfl rfl rfl rfl ?_
    refine c_X4_readNow (by first | assumption | omega | rfl | decide) (by first | assumption | omega | rfl | decide) (by first | assumption | omega | rfl | decide) (by first | assumption | omega | rfl | decide) ?_
    show zR E _ _ X 22 _ _ _ _ _ _ _
    refine r_goto (t := 26) qX4_reading_22 (by decide) ?_
    refine r_iret qX4_reading_26 rfl rfl rfl rfl ?_
    first | exact hK | (simp only [hn]; exact hK) | (simp only [hn] at *; exact hK)
set_option maxHeartbeats 4000000 in
set_option maxRecDepth 20000 in
theorem c_X4_readingError {E : Ev} {g : Sh} {i : Ni} {j : Nj} {K : Kp} {x n d b p s o : Nat} {t : Int32} (hB : zB g i x n d b p s o) (hK : K (.inl (some (.int (if (tv (i n 5) t) ∧ (rd (i n) t) then sRead (i n) (zn t) - i n (42 + 21 * zn t + 5) else nI 0)))) g (wA i x (upd (i x) 0 (c3 (tv (i n 5) t) (rd (i n) t) (True)))) j) : zCon E mX4_readingError [.ref x, .int t] g i j K := by
  refine zcon_of (by decide +kernel) rfl rfl (lo := [.ref x, .int t]) rfl (fun X => ?_)
  have hB' := hB
  obtain ⟨hW, hR3, hO⟩ := hB
  have w1 := hW.1
  have nx := hW.nx
  have hM' := hW.m hR3
  obtain ⟨hT, hT8⟩ := hO.T8
  obtain ⟨hS, hS5⟩ := hO.S5
  obtain ⟨hBt, hB4⟩ := hO.B4
  refine r_aload_n qX4_readingError_0 rfl ?_
  refine r_aload_n qX4_readingError_1 rfl ?_
  refine r_iload_n qX4_readingError_2 rfl ?_
  refine r_cv1 (cu2 := 0) (su2 := 0) qX4_readingError_3 kX4_396 rfl (by decide +kernel) (c := 4) (by assumption) (by decide) rfl rfl rfl rfl rfl rfl ?_
  refine c_X4_hasTube (by first | assumption | omega | rfl | decide) (by first | assumption | omega | rfl | decide) (by first | assumption | omega | rfl | decide) ?_
  show zR E _ _ X 6 _ _ _ _ _ _ _
  refine r_aload_n qX4_readingError_6 rfl ?_
  refine r_iload_n qX4_readingError_7 rfl ?_
  refine r_cv1 (cu2 := 0) (su2 := 0) qX4_readingError_8 kX4_419 rfl (by decide +kernel) (c := 4) (by assumption) (by decide) rfl rfl rfl rfl rfl rfl ?_
  refine c_X4_isRead (by first | assumption | omega | rfl | decide) ?_
  show zR E _ _ X 11 _ _ _ _ _ _ _
  refine r_cv2 (cu2 := 0) (su2 := 0) qX4_readingError_11 kX4_409 rfl (by decide +kernel) (c := 4) (by assumption) (by decide) rfl rfl rfl rfl rfl rfl ?_
  refine c_X4_passes2 (by first | assumption | omega | rfl | decide) ?_
  show zR E _ _ X 14 _ _ _ _ _ _ _
  generalize hi : wA i x (upd (i x) 0 (c3 (tv (i n 5) t) (rd (i n) t) (True))) = i' at hK ⊢
  have hn : i' n = i n := by rw [← hi]; exact wA_n nx
  clear hi
  have hO' : zOk (i' n) := by rw [hn]; exact hO
  obtain ⟨hT', hT8'⟩ := hO'.T8
  refine r_if_eq (t := 32) qX4_readingError_14 (by decide) (fun hc14 => ?_) (fun hc14 => ?_)
  · rw [if_neg (zb_0.mp hc14)] at hK
    refine r_iconst (v := nI 0) qX4_readingError_32 (by decide) ?_
    refine r_iret qX4_readingError_33 rfl rfl rfl rfl ?_
    first | exact hK | (simp only [hn]; exact hK) | (simp only [hn] at *; exact hK)
  · have hv := zb_ne.mp hc14; clear hc14; rw [if_pos hv] at hK
    obtain ⟨e, hk⟩ := tv_nat hv.1; generalize zn t = kt at *; subst e; have hk' : kt < zn (i' n 5) := by (rw [hn]; exact hk)
    have hf' := hO'.f hk'; have h8 := hO'.k8 hk'; obtain ⟨hm, hm6⟩ := hO'.many hk'; have zkt : zn (nI kt) = kt := zn_nI (by omega); have h2m : 2 ≤ sMany (i' n) kt := by (rw [hn]; have q := hv.2.2; rw [zkt] at q; exact q)
    refine r_aload_n qX4_readingError_17 rfl ?_
    refine r_iload_n qX4_readingError_18 rfl ?_
    refine r_cv1 (cu2 := 0) (su2 := 0) qX4_readingError_19 kX4_422 rfl (by decide +kernel) (c := 4) (by assumption) (by decide) rfl rfl rfl rfl rfl rfl ?_
    refine c_X4_readNow (by first | assumption | omega | rfl | decide) (by first | assumption | omega | rfl | decide) (by first | assumption | omega | rfl | decide) (by first | assumption | omega | rfl | decide) ?_
    show zR E _ _ X 22 _ _ _ _ _ _ _
    refine r_aload_n qX4_readingError_22 rfl ?_
    refine r_iload_n qX4_readingError_23 rfl ?_
    refine r_iconst (v := nI 5) qX4_readingError_24 (by decide) ?_
    refine r_cv2 (cu2 := 0) (su2 := 0) qX4_readingError_25 kX4_148 rfl (by decide +kernel) (c := 4) (by assumption) (by decide) rfl rfl rfl rfl rfl rfl ?_
    refine c_X4_of (by first | assumption | omega | rfl | decide) (by first | assumption | omega | rfl | decide) ?_
    show zR E _ _ X 28 _ _ _ _ _ _ _
    refine r_isub qX4_readingError_28 ?_
    refine r_goto (t := 33) qX4_readingError_29 (by decide) ?_
    refine r_iret qX4_readingError_33 rfl rfl rfl rfl ?_
    first | exact hK | (simp only [hn]; exact hK) | (simp only [hn] at *; exact hK)
set_option maxHeartbeats 4000000 in
set_option maxRecDepth 20000 in
theorem c_X4_fitError {E : Ev} {g : Sh} {i : Ni} {j : Nj} {K : Kp} {x n d b p s o : Nat} {t : Int32} (hB : zB g i x n d b p s o) (hK : K (.inl (some (.int (if (tv (i n 5) t) ∧ (rd (i n) t) then sFit (i n) (zn t) (sMany (i n) (zn t)) else nI 0)))) g (wA i x (upd (i x) 0 (c3 (tv (i n 5) t) (rd (i n) t) (True)))) j) : zCon E mX4_fitError [.ref x, .int t] g i j K := by
  refine zcon_of (by decide +kernel) rfl rfl (lo := [.ref x, .int t]) rfl (fun X => ?_)
  have hB' := hB
  obtain ⟨hW, hR3, hO⟩ := hB
  have w1 := hW.1
  have nx := hW.nx
  have hM' := hW.m hR3
  obtain ⟨hT, hT8⟩ := hO.T8
  obtain ⟨hS, hS5⟩ := hO.S5
  obtain ⟨hBt, hB4⟩ := hO.B4
  refine r_aload_n qX4_fitError_0 rfl ?_
  refine r_aload_n qX4_fitError_1 rfl ?_
  refine r_iload_n qX4_fitError_2 rfl ?_
  refine r_cv1 (cu2 := 0) (su2 := 0) qX4_fitError_3 kX4_396 rfl (by decide +kernel) (c := 4) (by assumption) (by decide) rfl rfl rfl rfl rfl rfl ?_
  refine c_X4_hasTube (by first | assumption | omega | rfl | decide) (by first | assumption | omega | rfl | decide) (by first | assumption | omega | rfl | decide) ?_
  show zR E _ _ X 6 _ _ _ _ _ _ _
  refine r_aload_n qX4_fitError_6 rfl ?_
  refine r_iload_n qX4_fitError_7 rfl ?_
  refine r_cv1 (cu2 := 0) (su2 := 0) qX4_fitError_8 kX4_419 rfl (by decide +kernel) (c := 4) (by assumption) (by decide) rfl rfl rfl rfl rfl rfl ?_
  refine c_X4_isRead (by first | assumption | omega | rfl | decide) ?_
  show zR E _ _ X 11 _ _ _ _ _ _ _
  refine r_cv2 (cu2 := 0) (su2 := 0) qX4_fitError_11 kX4_409 rfl (by decide +kernel) (c := 4) (by assumption) (by decide) rfl rfl rfl rfl rfl rfl ?_
  refine c_X4_passes2 (by first | assumption | omega | rfl | decide) ?_
  show zR E _ _ X 14 _ _ _ _ _ _ _
  generalize hi : wA i x (upd (i x) 0 (c3 (tv (i n 5) t) (rd (i n) t) (True))) = i' at hK ⊢
  have hn : i' n = i n := by rw [← hi]; exact wA_n nx
  clear hi
  have hO' : zOk (i' n) := by rw [hn]; exact hO
  obtain ⟨hT', hT8'⟩ := hO'.T8
  refine r_if_eq (t := 25) qX4_fitError_14 (by decide) (fun hc14 => ?_) (fun hc14 => ?_)
  · rw [if_neg (zb_0.mp hc14)] at hK
    refine r_iconst (v := nI 0) qX4_fitError_25 (by decide) ?_
    refine r_iret qX4_fitError_26 rfl rfl rfl rfl ?_
    first | exact hK | (simp only [hn]; exact hK) | (simp only [hn] at *; exact hK)
  · have hv := zb_ne.mp hc14; clear hc14; rw [if_pos hv] at hK
    obtain ⟨e, hk⟩ := tv_nat hv.1; generalize zn t = kt at *; subst e; have hk' : kt < zn (i' n 5) := by (rw [hn]; exact hk)
    have hf' := hO'.f hk'; have h8 := hO'.k8 hk'; obtain ⟨hm, hm6⟩ := hO'.many hk'; have zkt : zn (nI kt) = kt := zn_nI (by omega); have h2m : 2 ≤ sMany (i' n) kt := by (rw [hn]; have q := hv.2.2; rw [zkt] at q; exact q)
    refine r_aload_n qX4_fitError_17 rfl ?_
    refine r_iload_n qX4_fitError_18 rfl ?_
    refine r_cv1 (cu2 := 0) (su2 := 0) qX4_fitError_19 kX4_430 rfl (by decide +kernel) (c := 4) (by assumption) (by decide) rfl rfl rfl rfl rfl rfl ?_
    refine c_X4_fitOf (by first | assumption | omega | rfl | decide) (by first | assumption | omega | rfl | decide) (by first | assumption | omega | rfl | decide) (by first | assumption | omega | rfl | decide) ?_
    show zR E _ _ X 22 _ _ _ _ _ _ _
    refine r_goto (t := 26) qX4_fitError_22 (by decide) ?_
    refine r_iret qX4_fitError_26 rfl rfl rfl rfl ?_
    first | exact hK | (simp only [hn]; exact hK) | (simp only [hn] at *; exact hK)
set_option maxHeartbeats 4000000 in
set_option maxRecDepth 20000 in
theorem c_X4_freeHeightAt {E : Ev} {g : Sh} {i : Ni} {j : Nj} {K : Kp} {x n d b p s o : Nat} {t h : Int32} (hB : zB g i x n d b p s o) (hK : K (.inl (some (.int (if (tv (i n 5) t) ∧ (-200 ≤ h.toInt ∧ h.toInt ≤ 1500) then sFree (i n) (zn t) h else nI 0)))) g (wA i x (upd (i x) 0 (c3 (tv (i n 5) t) (-200 ≤ h.toInt ∧ h.toInt ≤ 1500) (True)))) j) : zCon E mX4_freeHeightAt [.ref x, .int t, .int h] g i j K := by
  refine zcon_of (by decide +kernel) rfl rfl (lo := [.ref x, .int t, .int h]) rfl (fun X => ?_)
  have hB' := hB
  obtain ⟨hW, hR3, hO⟩ := hB
  have w1 := hW.1
  have nx := hW.nx
  have hM' := hW.m hR3
  obtain ⟨hT, hT8⟩ := hO.T8
  obtain ⟨hS, hS5⟩ := hO.S5
  obtain ⟨hBt, hB4⟩ := hO.B4
  refine r_aload_n qX4_freeHeightAt_0 rfl ?_
  refine r_aload_n qX4_freeHeightAt_1 rfl ?_
  refine r_iload_n qX4_freeHeightAt_2 rfl ?_
  refine r_cv1 (cu2 := 0) (su2 := 0) qX4_freeHeightAt_3 kX4_396 rfl (by decide +kernel) (c := 4) (by assumption) (by decide) rfl rfl rfl rfl rfl rfl ?_
  refine c_X4_hasTube (by first | assumption | omega | rfl | decide) (by first | assumption | omega | rfl | decide) (by first | assumption | omega | rfl | decide) ?_
  show zR E _ _ X 6 _ _ _ _ _ _ _
  refine r_iload_n qX4_freeHeightAt_6 rfl ?_
  refine r_cs1 (cu2 := 0) (su2 := 0) qX4_freeHeightAt_7 kX4_406 rfl (by decide +kernel) rfl rfl rfl rfl rfl ?_
  refine c_X4_areTenths ?_
  show zR E _ _ X 10 _ _ _ _ _ _ _
  refine r_cv2 (cu2 := 0) (su2 := 0) qX4_freeHeightAt_10 kX4_409 rfl (by decide +kernel) (c := 4) (by assumption) (by decide) rfl rfl rfl rfl rfl rfl ?_
  refine c_X4_passes2 (by first | assumption | omega | rfl | decide) ?_
  show zR E _ _ X 13 _ _ _ _ _ _ _
  generalize hi : wA i x (upd (i x) 0 (c3 (tv (i n 5) t) (-200 ≤ h.toInt ∧ h.toInt ≤ 1500) (True))) = i' at hK ⊢
  have hn : i' n = i n := by rw [← hi]; exact wA_n nx
  clear hi
  have hO' : zOk (i' n) := by rw [hn]; exact hO
  obtain ⟨hT', hT8'⟩ := hO'.T8
  refine r_if_eq (t := 25) qX4_freeHeightAt_13 (by decide) (fun hc13 => ?_) (fun hc13 => ?_)
  · rw [if_neg (zb_0.mp hc13)] at hK
    refine r_iconst (v := nI 0) qX4_freeHeightAt_25 (by decide) ?_
    refine r_iret qX4_freeHeightAt_26 rfl rfl rfl rfl ?_
    first | exact hK | (simp only [hn]; exact hK) | (simp only [hn] at *; exact hK)
  · have hv := zb_ne.mp hc13; clear hc13; rw [if_pos hv] at hK
    obtain ⟨e, hk⟩ := tv_nat hv.1; generalize zn t = kt at *; subst e; have hk' : kt < zn (i' n 5) := by (rw [hn]; exact hk)
    have hf' := hO'.f hk'; have h8 := hO'.k8 hk'; obtain ⟨hm, hm6⟩ := hO'.many hk'; have zkt : zn (nI kt) = kt := zn_nI (by omega)
    refine r_aload_n qX4_freeHeightAt_16 rfl ?_
    refine r_iload_n qX4_freeHeightAt_17 rfl ?_
    refine r_iload_n qX4_freeHeightAt_18 rfl ?_
    refine r_cv2 (cu2 := 0) (su2 := 0) qX4_freeHeightAt_19 kX4_155 rfl (by decide +kernel) (c := 4) (by assumption) (by decide) rfl rfl rfl rfl rfl rfl ?_
    refine c_X4_freeAt (by first | assumption | omega | rfl | decide) (by first | assumption | omega | rfl | decide) ?_
    show zR E _ _ X 22 _ _ _ _ _ _ _
    refine r_goto (t := 26) qX4_freeHeightAt_22 (by decide) ?_
    refine r_iret qX4_freeHeightAt_26 rfl rfl rfl rfl ?_
    first | exact hK | (simp only [hn]; exact hK) | (simp only [hn] at *; exact hK)
set_option maxHeartbeats 4000000 in
set_option maxRecDepth 20000 in
theorem c_X4_scaleAt {E : Ev} {g : Sh} {i : Ni} {j : Nj} {K : Kp} {x n d b p s o : Nat} {t h : Int32} (hB : zB g i x n d b p s o) (hK : K (.inl (some (.int (if (tv (i n 5) t) ∧ (0 ≤ h.toInt ∧ h.toInt ≤ 999) ∧ (rd (i n) t) then sTells (i n) (zn t) h else nI 0)))) g (wA i x (upd (i x) 0 (c3 (tv (i n 5) t) (0 ≤ h.toInt ∧ h.toInt ≤ 999) (rd (i n) t)))) j) : zCon E mX4_scaleAt [.ref x, .int t, .int h] g i j K := by
  refine zcon_of (by decide +kernel) rfl rfl (lo := [.ref x, .int t, .int h]) rfl (fun X => ?_)
  have hB' := hB
  obtain ⟨hW, hR3, hO⟩ := hB
  have w1 := hW.1
  have nx := hW.nx
  have hM' := hW.m hR3
  obtain ⟨hT, hT8⟩ := hO.T8
  obtain ⟨hS, hS5⟩ := hO.S5
  obtain ⟨hBt, hB4⟩ := hO.B4
  refine r_aload_n qX4_scaleAt_0 rfl ?_
  refine r_aload_n qX4_scaleAt_1 rfl ?_
  refine r_iload_n qX4_scaleAt_2 rfl ?_
  refine r_cv1 (cu2 := 0) (su2 := 0) qX4_scaleAt_3 kX4_396 rfl (by decide +kernel) (c := 4) (by assumption) (by decide) rfl rfl rfl rfl rfl rfl ?_
  refine c_X4_hasTube (by first | assumption | omega | rfl | decide) (by first | assumption | omega | rfl | decide) (by first | assumption | omega | rfl | decide) ?_
  show zR E _ _ X 6 _ _ _ _ _ _ _
  refine r_iload_n qX4_scaleAt_6 rfl ?_
  refine r_cs1 (cu2 := 0) (su2 := 0) qX4_scaleAt_7 kX4_427 rfl (by decide +kernel) rfl rfl rfl rfl rfl ?_
  refine c_X4_isHeight ?_
  show zR E _ _ X 10 _ _ _ _ _ _ _
  refine r_aload_n qX4_scaleAt_10 rfl ?_
  refine r_iload_n qX4_scaleAt_11 rfl ?_
  refine r_cv1 (cu2 := 0) (su2 := 0) qX4_scaleAt_12 kX4_419 rfl (by decide +kernel) (c := 4) (by assumption) (by decide) rfl rfl rfl rfl rfl rfl ?_
  refine c_X4_isRead (by first | assumption | omega | rfl | decide) ?_
  show zR E _ _ X 15 _ _ _ _ _ _ _
  refine r_cv3 (cu2 := 0) (su2 := 0) qX4_scaleAt_15 kX4_7 rfl (by decide +kernel) (c := 4) (by assumption) (by decide) rfl rfl rfl rfl rfl rfl ?_
  refine c_X4_passes3 (by first | assumption | omega | rfl | decide) ?_
  show zR E _ _ X 18 _ _ _ _ _ _ _
  generalize hi : wA i x (upd (i x) 0 (c3 (tv (i n 5) t) (0 ≤ h.toInt ∧ h.toInt ≤ 999) (rd (i n) t))) = i' at hK ⊢
  have hn : i' n = i n := by rw [← hi]; exact wA_n nx
  clear hi
  have hO' : zOk (i' n) := by rw [hn]; exact hO
  obtain ⟨hT', hT8'⟩ := hO'.T8
  refine r_if_eq (t := 30) qX4_scaleAt_18 (by decide) (fun hc18 => ?_) (fun hc18 => ?_)
  · rw [if_neg (zb_0.mp hc18)] at hK
    refine r_iconst (v := nI 0) qX4_scaleAt_30 (by decide) ?_
    refine r_iret qX4_scaleAt_31 rfl rfl rfl rfl ?_
    first | exact hK | (simp only [hn]; exact hK) | (simp only [hn] at *; exact hK)
  · have hv := zb_ne.mp hc18; clear hc18; rw [if_pos hv] at hK
    obtain ⟨e, hk⟩ := tv_nat hv.1; generalize zn t = kt at *; subst e; have hk' : kt < zn (i' n 5) := by (rw [hn]; exact hk)
    have hf' := hO'.f hk'; have h8 := hO'.k8 hk'; obtain ⟨hm, hm6⟩ := hO'.many hk'; have zkt : zn (nI kt) = kt := zn_nI (by omega); have h2m : 2 ≤ sMany (i' n) kt := by (rw [hn]; have q := hv.2.2.2; rw [zkt] at q; exact q)
    refine r_aload_n qX4_scaleAt_21 rfl ?_
    refine r_iload_n qX4_scaleAt_22 rfl ?_
    refine r_iload_n qX4_scaleAt_23 rfl ?_
    refine r_cv2 (cu2 := 0) (su2 := 0) qX4_scaleAt_24 kX4_195 rfl (by decide +kernel) (c := 4) (by assumption) (by decide) rfl rfl rfl rfl rfl rfl ?_
    refine c_X4_tells (by first | assumption | omega | rfl | decide) (by first | assumption | omega | rfl | decide) (by first | assumption | omega | rfl | decide) (by first | assumption | omega | rfl | decide) ?_
    show zR E _ _ X 27 _ _ _ _ _ _ _
    refine r_goto (t := 31) qX4_scaleAt_27 (by decide) ?_
    refine r_iret qX4_scaleAt_31 rfl rfl rfl rfl ?_
    first | exact hK | (simp only [hn]; exact hK) | (simp only [hn] at *; exact hK)
set_option maxHeartbeats 4000000 in
set_option maxRecDepth 20000 in
theorem c_X4_pointDegrees {E : Ev} {g : Sh} {i : Ni} {j : Nj} {K : Kp} {x n d b p s o : Nat} {t q : Int32} (hB : zB g i x n d b p s o) (hK : K (.inl (some (.int (if (tv (i n 5) t) ∧ (pv (i n) t q) then sDeg (i n) (zn t) (zn q) else nI 0)))) g (wA i x (upd (i x) 0 (c3 (tv (i n 5) t) (pv (i n) t q) (True)))) j) : zCon E mX4_pointDegrees [.ref x, .int t, .int q] g i j K := by
  refine zcon_of (by decide +kernel) rfl rfl (lo := [.ref x, .int t, .int q]) rfl (fun X => ?_)
  have hB' := hB
  obtain ⟨hW, hR3, hO⟩ := hB
  have w1 := hW.1
  have nx := hW.nx
  have hM' := hW.m hR3
  obtain ⟨hT, hT8⟩ := hO.T8
  obtain ⟨hS, hS5⟩ := hO.S5
  obtain ⟨hBt, hB4⟩ := hO.B4
  refine r_aload_n qX4_pointDegrees_0 rfl ?_
  refine r_aload_n qX4_pointDegrees_1 rfl ?_
  refine r_iload_n qX4_pointDegrees_2 rfl ?_
  refine r_cv1 (cu2 := 0) (su2 := 0) qX4_pointDegrees_3 kX4_396 rfl (by decide +kernel) (c := 4) (by assumption) (by decide) rfl rfl rfl rfl rfl rfl ?_
  refine c_X4_hasTube (by first | assumption | omega | rfl | decide) (by first | assumption | omega | rfl | decide) (by first | assumption | omega | rfl | decide) ?_
  show zR E _ _ X 6 _ _ _ _ _ _ _
  refine r_aload_n qX4_pointDegrees_6 rfl ?_
  refine r_iload_n qX4_pointDegrees_7 rfl ?_
  refine r_iload_n qX4_pointDegrees_8 rfl ?_
  refine r_cv2 (cu2 := 0) (su2 := 0) qX4_pointDegrees_9 kX4_413 rfl (by decide +kernel) (c := 4) (by assumption) (by decide) rfl rfl rfl rfl rfl rfl ?_
  refine c_X4_hasPoint (by first | assumption | omega | rfl | decide) ?_
  show zR E _ _ X 12 _ _ _ _ _ _ _
  refine r_cv2 (cu2 := 0) (su2 := 0) qX4_pointDegrees_12 kX4_409 rfl (by decide +kernel) (c := 4) (by assumption) (by decide) rfl rfl rfl rfl rfl rfl ?_
  refine c_X4_passes2 (by first | assumption | omega | rfl | decide) ?_
  show zR E _ _ X 15 _ _ _ _ _ _ _
  generalize hi : wA i x (upd (i x) 0 (c3 (tv (i n 5) t) (pv (i n) t q) (True))) = i' at hK ⊢
  have hn : i' n = i n := by rw [← hi]; exact wA_n nx
  clear hi
  have hO' : zOk (i' n) := by rw [hn]; exact hO
  obtain ⟨hT', hT8'⟩ := hO'.T8
  refine r_if_eq (t := 27) qX4_pointDegrees_15 (by decide) (fun hc15 => ?_) (fun hc15 => ?_)
  · rw [if_neg (zb_0.mp hc15)] at hK
    refine r_iconst (v := nI 0) qX4_pointDegrees_27 (by decide) ?_
    refine r_iret qX4_pointDegrees_28 rfl rfl rfl rfl ?_
    first | exact hK | (simp only [hn]; exact hK) | (simp only [hn] at *; exact hK)
  · have hv := zb_ne.mp hc15; clear hc15; rw [if_pos hv] at hK
    obtain ⟨e, hk⟩ := tv_nat hv.1; generalize zn t = kt at *; subst e; have hk' : kt < zn (i' n 5) := by (rw [hn]; exact hk)
    have hf' := hO'.f hk'; have h8 := hO'.k8 hk'; obtain ⟨hm, hm6⟩ := hO'.many hk'; have zkt : zn (nI kt) = kt := zn_nI (by omega)
    obtain ⟨eq, hq⟩ := tv_nat hv.2.2; generalize zn q = kq at *; subst eq; have hq6 : kq < 6 := by (rw [← hn, zkt] at hq; change kq < sMany (i' n) kt at hq; omega)
    refine r_aload_n qX4_pointDegrees_18 rfl ?_
    refine r_iload_n qX4_pointDegrees_19 rfl ?_
    refine r_iload_n qX4_pointDegrees_20 rfl ?_
    refine r_cv2 (cu2 := 0) (su2 := 0) qX4_pointDegrees_21 kX4_172 rfl (by decide +kernel) (c := 4) (by assumption) (by decide) rfl rfl rfl rfl rfl rfl ?_
    refine c_X4_degreesOf (by first | assumption | omega | rfl | decide) (by first | assumption | omega | rfl | decide) (by first | assumption | omega | rfl | decide) ?_
    show zR E _ _ X 24 _ _ _ _ _ _ _
    refine r_goto (t := 28) qX4_pointDegrees_24 (by decide) ?_
    refine r_iret qX4_pointDegrees_28 rfl rfl rfl rfl ?_
    first | exact hK | (simp only [hn]; exact hK) | (simp only [hn] at *; exact hK)
set_option maxHeartbeats 4000000 in
set_option maxRecDepth 20000 in
theorem c_X4_pointHeight {E : Ev} {g : Sh} {i : Ni} {j : Nj} {K : Kp} {x n d b p s o : Nat} {t q : Int32} (hB : zB g i x n d b p s o) (hK : K (.inl (some (.int (if (tv (i n 5) t) ∧ (pv (i n) t q) then sHgt (i n) (zn t) (zn q) else nI 0)))) g (wA i x (upd (i x) 0 (c3 (tv (i n 5) t) (pv (i n) t q) (True)))) j) : zCon E mX4_pointHeight [.ref x, .int t, .int q] g i j K := by
  refine zcon_of (by decide +kernel) rfl rfl (lo := [.ref x, .int t, .int q]) rfl (fun X => ?_)
  have hB' := hB
  obtain ⟨hW, hR3, hO⟩ := hB
  have w1 := hW.1
  have nx := hW.nx
  have hM' := hW.m hR3
  obtain ⟨hT, hT8⟩ := hO.T8
  obtain ⟨hS, hS5⟩ := hO.S5
  obtain ⟨hBt, hB4⟩ := hO.B4
  refine r_aload_n qX4_pointHeight_0 rfl ?_
  refine r_aload_n qX4_pointHeight_1 rfl ?_
  refine r_iload_n qX4_pointHeight_2 rfl ?_
  refine r_cv1 (cu2 := 0) (su2 := 0) qX4_pointHeight_3 kX4_396 rfl (by decide +kernel) (c := 4) (by assumption) (by decide) rfl rfl rfl rfl rfl rfl ?_
  refine c_X4_hasTube (by first | assumption | omega | rfl | decide) (by first | assumption | omega | rfl | decide) (by first | assumption | omega | rfl | decide) ?_
  show zR E _ _ X 6 _ _ _ _ _ _ _
  refine r_aload_n qX4_pointHeight_6 rfl ?_
  refine r_iload_n qX4_pointHeight_7 rfl ?_
  refine r_iload_n qX4_pointHeight_8 rfl ?_
  refine r_cv2 (cu2 := 0) (su2 := 0) qX4_pointHeight_9 kX4_413 rfl (by decide +kernel) (c := 4) (by assumption) (by decide) rfl rfl rfl rfl rfl rfl ?_
  refine c_X4_hasPoint (by first | assumption | omega | rfl | decide) ?_
  show zR E _ _ X 12 _ _ _ _ _ _ _
  refine r_cv2 (cu2 := 0) (su2 := 0) qX4_pointHeight_12 kX4_409 rfl (by decide +kernel) (c := 4) (by assumption) (by decide) rfl rfl rfl rfl rfl rfl ?_
  refine c_X4_passes2 (by first | assumption | omega | rfl | decide) ?_
  show zR E _ _ X 15 _ _ _ _ _ _ _
  generalize hi : wA i x (upd (i x) 0 (c3 (tv (i n 5) t) (pv (i n) t q) (True))) = i' at hK ⊢
  have hn : i' n = i n := by rw [← hi]; exact wA_n nx
  clear hi
  have hO' : zOk (i' n) := by rw [hn]; exact hO
  obtain ⟨hT', hT8'⟩ := hO'.T8
  refine r_if_eq (t := 27) qX4_pointHeight_15 (by decide) (fun hc15 => ?_) (fun hc15 => ?_)
  · rw [if_neg (zb_0.mp hc15)] at hK
    refine r_iconst (v := nI 0) qX4_pointHeight_27 (by decide) ?_
    refine r_iret qX4_pointHeight_28 rfl rfl rfl rfl ?_
    first | exact hK | (simp only [hn]; exact hK) | (simp only [hn] at *; exact hK)
  · have hv := zb_ne.mp hc15; clear hc15; rw [if_pos hv] at hK
    obtain ⟨e, hk⟩ := tv_nat hv.1; generalize zn t = kt at *; subst e; have hk' : kt < zn (i' n 5) := by (rw [hn]; exact hk)
    have hf' := hO'.f hk'; have h8 := hO'.k8 hk'; obtain ⟨hm, hm6⟩ := hO'.many hk'; have zkt : zn (nI kt) = kt := zn_nI (by omega)
    obtain ⟨eq, hq⟩ := tv_nat hv.2.2; generalize zn q = kq at *; subst eq; have hq6 : kq < 6 := by (rw [← hn, zkt] at hq; change kq < sMany (i' n) kt at hq; omega)
    refine r_aload_n qX4_pointHeight_18 rfl ?_
    refine r_iload_n qX4_pointHeight_19 rfl ?_
    refine r_iload_n qX4_pointHeight_20 rfl ?_
    refine r_cv2 (cu2 := 0) (su2 := 0) qX4_pointHeight_21 kX4_175 rfl (by decide +kernel) (c := 4) (by assumption) (by decide) rfl rfl rfl rfl rfl rfl ?_
    refine c_X4_heightOf (by first | assumption | omega | rfl | decide) (by first | assumption | omega | rfl | decide) (by first | assumption | omega | rfl | decide) ?_
    show zR E _ _ X 24 _ _ _ _ _ _ _
    refine r_goto (t := 28) qX4_pointHeight_24 (by decide) ?_
    refine r_iret qX4_pointHeight_28 rfl rfl rfl rfl ?_
    first | exact hK | (simp only [hn]; exact hK) | (simp only [hn] at *; exact hK)

