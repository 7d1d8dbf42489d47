/-! ===== THE CLASS: ASKING METHODS ===== -/
set_option maxHeartbeats 4000000 in
set_option maxRecDepth 20000 in
theorem c_X3_spiritOf {E : Ev} {g : Sh} {i : Ni} {j : Nj} {K : Kp} {c : Nat} {a : Nat → Nat} {N : Nat → Int32} {t : Int32} (hX : zX3 g c a) (hH : zH i a N) (hK : K (oc3 (tv (N 5) t) (True) (True) 2 0 0 (.int (N (42 + 21 * zn t + 0)))) g i j) : zCon E mX3_spiritOf [.ref c, .int t] g i j K := by
  refine zcon_of (by decide +kernel) rfl rfl (lo := [.ref c, .int t]) rfl (fun X => ?_)
  obtain ⟨x1, x2, hC⟩ := id hX
  have hO := hH.1
  obtain ⟨a1, a2, a3, a4, a5, a6, a7, a8, a9, a10, a11, a12, a13, a14, a15, a16, -⟩ := id hC
  obtain ⟨c5, c6, c7, c8, c9, c10, c11, c12⟩ := hH.cnt
  obtain ⟨hT, hT8⟩ := hO.T8
  obtain ⟨hS, hS5⟩ := hO.S5
  obtain ⟨hBt, hB4⟩ := hO.B4
  refine r_aload_n qX3_spiritOf_0 rfl ?_
  refine r_iload_n qX3_spiritOf_1 rfl ?_
  refine r_cv1 (cu2 := 1) (su2 := 6) qX3_spiritOf_2 kX3_141 rfl (by decide +kernel) (c := 3) (by assumption) (by decide) rfl rfl rfl rfl rfl rfl ?_
  refine c_X3_checkedTube hX hH (fun hv => t_out rfl rfl rfl (by rw [oc3_a hv] at hK; exact hK)) (fun k ek hk => ?_)
  subst ek
  have hv := tv_mk hk (by have := hO.k8 hk; omega)
  have h8 := hO.k8 hk
  have zk : zn (nI k) = k := zn_nI (by omega)
  obtain ⟨tb1, hT3⟩ := hC.tb h8
  have u1 := hT3.1
  have hU := hH.tu hk
  obtain ⟨f0, f3, f4, f6, f7, f8, f9, f10, f11, f12, f13, fP⟩ := id hU
  obtain ⟨hm, hm6⟩ := hO.many hk
  show zR E _ _ X 5 _ _ _ _ _ _ _
  refine r_geti qX3_spiritOf_5 fX3_132 rfl (by assumption) ?_
  rw [f4]
  refine r_iret qX3_spiritOf_8 rfl rfl rfl rfl ?_
  rw [oc3_v hv trivial trivial, zk] at hK; exact hK
set_option maxHeartbeats 4000000 in
set_option maxRecDepth 20000 in
theorem c_X3_fillOf {E : Ev} {g : Sh} {i : Ni} {j : Nj} {K : Kp} {c : Nat} {a : Nat → Nat} {N : Nat → Int32} {t : Int32} (hX : zX3 g c a) (hH : zH i a N) (hK : K (oc3 (tv (N 5) t) (True) (True) 2 0 0 (.int (N (42 + 21 * zn t + 4)))) g i j) : zCon E mX3_fillOf [.ref c, .int t] g i j K := by
  refine zcon_of (by decide +kernel) rfl rfl (lo := [.ref c, .int t]) rfl (fun X => ?_)
  obtain ⟨x1, x2, hC⟩ := id hX
  have hO := hH.1
  obtain ⟨a1, a2, a3, a4, a5, a6, a7, a8, a9, a10, a11, a12, a13, a14, a15, a16, -⟩ := id hC
  obtain ⟨c5, c6, c7, c8, c9, c10, c11, c12⟩ := hH.cnt
  obtain ⟨hT, hT8⟩ := hO.T8
  obtain ⟨hS, hS5⟩ := hO.S5
  obtain ⟨hBt, hB4⟩ := hO.B4
  refine r_aload_n qX3_fillOf_0 rfl ?_
  refine r_iload_n qX3_fillOf_1 rfl ?_
  refine r_cv1 (cu2 := 1) (su2 := 6) qX3_fillOf_2 kX3_141 rfl (by decide +kernel) (c := 3) (by assumption) (by decide) rfl rfl rfl rfl rfl rfl ?_
  refine c_X3_checkedTube hX hH (fun hv => t_out rfl rfl rfl (by rw [oc3_a hv] at hK; exact hK)) (fun k ek hk => ?_)
  subst ek
  have hv := tv_mk hk (by have := hO.k8 hk; omega)
  have h8 := hO.k8 hk
  have zk : zn (nI k) = k := zn_nI (by omega)
  obtain ⟨tb1, hT3⟩ := hC.tb h8
  have u1 := hT3.1
  have hU := hH.tu hk
  obtain ⟨f0, f3, f4, f6, f7, f8, f9, f10, f11, f12, f13, fP⟩ := id hU
  obtain ⟨hm, hm6⟩ := hO.many hk
  show zR E _ _ X 5 _ _ _ _ _ _ _
  refine r_geti qX3_fillOf_5 fX3_135 rfl (by assumption) ?_
  rw [f10]
  refine r_iret qX3_fillOf_8 rfl rfl rfl rfl ?_
  rw [oc3_v hv trivial trivial, zk] at hK; exact hK
set_option maxHeartbeats 4000000 in
set_option maxRecDepth 20000 in
theorem c_X3_temperatureOf {E : Ev} {g : Sh} {i : Ni} {j : Nj} {K : Kp} {c : Nat} {a : Nat → Nat} {N : Nat → Int32} {t : Int32} (hX : zX3 g c a) (hH : zH i a N) (hK : K (oc3 (tv (N 5) t) (True) (True) 2 0 0 (.int (N (42 + 21 * zn t + 5)))) g i j) : zCon E mX3_temperatureOf [.ref c, .int t] g i j K := by
  refine zcon_of (by decide +kernel) rfl rfl (lo := [.ref c, .int t]) rfl (fun X => ?_)
  obtain ⟨x1, x2, hC⟩ := id hX
  have hO := hH.1
  obtain ⟨a1, a2, a3, a4, a5, a6, a7, a8, a9, a10, a11, a12, a13, a14, a15, a16, -⟩ := id hC
  obtain ⟨c5, c6, c7, c8, c9, c10, c11, c12⟩ := hH.cnt
  obtain ⟨hT, hT8⟩ := hO.T8
  obtain ⟨hS, hS5⟩ := hO.S5
  obtain ⟨hBt, hB4⟩ := hO.B4
  refine r_aload_n qX3_temperatureOf_0 rfl ?_
  refine r_iload_n qX3_temperatureOf_1 rfl ?_
  refine r_cv1 (cu2 := 1) (su2 := 6) qX3_temperatureOf_2 kX3_141 rfl (by decide +kernel) (c := 3) (by assumption) (by decide) rfl rfl rfl rfl rfl rfl ?_
  refine c_X3_checkedTube hX hH (fun hv => t_out rfl rfl rfl (by rw [oc3_a hv] at hK; exact hK)) (fun k ek hk => ?_)
  subst ek
  have hv := tv_mk hk (by have := hO.k8 hk; omega)
  have h8 := hO.k8 hk
  have zk : zn (nI k) = k := zn_nI (by omega)
  obtain ⟨tb1, hT3⟩ := hC.tb h8
  have u1 := hT3.1
  have hU := hH.tu hk
  obtain ⟨f0, f3, f4, f6, f7, f8, f9, f10, f11, f12, f13, fP⟩ := id hU
  obtain ⟨hm, hm6⟩ := hO.many hk
  show zR E _ _ X 5 _ _ _ _ _ _ _
  refine r_geti qX3_temperatureOf_5 fX3_145 rfl (by assumption) ?_
  rw [f11]
  refine r_iret qX3_temperatureOf_8 rfl rfl rfl rfl ?_
  rw [oc3_v hv trivial trivial, zk] at hK; exact hK
set_option maxHeartbeats 4000000 in
set_option maxRecDepth 20000 in
theorem c_X3_bathOf {E : Ev} {g : Sh} {i : Ni} {j : Nj} {K : Kp} {c : Nat} {a : Nat → Nat} {N : Nat → Int32} {t : Int32} (hX : zX3 g c a) (hH : zH i a N) (hK : K (oc3 (tv (N 5) t) (True) (True) 2 0 0 (.int (N (42 + 21 * zn t + 7)))) g i j) : zCon E mX3_bathOf [.ref c, .int t] g i j K := by
  refine zcon_of (by decide +kernel) rfl rfl (lo := [.ref c, .int t]) rfl (fun X => ?_)
  obtain ⟨x1, x2, hC⟩ := id hX
  have hO := hH.1
  obtain ⟨a1, a2, a3, a4, a5, a6, a7, a8, a9, a10, a11, a12, a13, a14, a15, a16, -⟩ := id hC
  obtain ⟨c5, c6, c7, c8, c9, c10, c11, c12⟩ := hH.cnt
  obtain ⟨hT, hT8⟩ := hO.T8
  obtain ⟨hS, hS5⟩ := hO.S5
  obtain ⟨hBt, hB4⟩ := hO.B4
  refine r_aload_n qX3_bathOf_0 rfl ?_
  refine r_iload_n qX3_bathOf_1 rfl ?_
  refine r_cv1 (cu2 := 1) (su2 := 6) qX3_bathOf_2 kX3_141 rfl (by decide +kernel) (c := 3) (by assumption) (by decide) rfl rfl rfl rfl rfl rfl ?_
  refine c_X3_checkedTube hX hH (fun hv => t_out rfl rfl rfl (by rw [oc3_a hv] at hK; exact hK)) (fun k ek hk => ?_)
  subst ek
  have hv := tv_mk hk (by have := hO.k8 hk; omega)
  have h8 := hO.k8 hk
  have zk : zn (nI k) = k := zn_nI (by omega)
  obtain ⟨tb1, hT3⟩ := hC.tb h8
  have u1 := hT3.1
  have hU := hH.tu hk
  obtain ⟨f0, f3, f4, f6, f7, f8, f9, f10, f11, f12, f13, fP⟩ := id hU
  obtain ⟨hm, hm6⟩ := hO.many hk
  show zR E _ _ X 5 _ _ _ _ _ _ _
  refine r_geti qX3_bathOf_5 fX3_124 rfl (by assumption) ?_
  rw [f12]
  refine r_iret qX3_bathOf_8 rfl rfl rfl rfl ?_
  rw [oc3_v hv trivial trivial, zk] at hK; exact hK
set_option maxHeartbeats 4000000 in
set_option maxRecDepth 20000 in
theorem c_X3_pointCount {E : Ev} {g : Sh} {i : Ni} {j : Nj} {K : Kp} {c : Nat} {a : Nat → Nat} {N : Nat → Int32} {t : Int32} (hX : zX3 g c a) (hH : zH i a N) (hK : K (oc3 (tv (N 5) t) (True) (True) 2 0 0 (.int (N (42 + 21 * zn t + 8)))) g i j) : zCon E mX3_pointCount [.ref c, .int t] g i j K := by
  refine zcon_of (by decide +kernel) rfl rfl (lo := [.ref c, .int t]) rfl (fun X => ?_)
  obtain ⟨x1, x2, hC⟩ := id hX
  have hO := hH.1
  obtain ⟨a1, a2, a3, a4, a5, a6, a7, a8, a9, a10, a11, a12, a13, a14, a15, a16, -⟩ := id hC
  obtain ⟨c5, c6, c7, c8, c9, c10, c11, c12⟩ := hH.cnt
  obtain ⟨hT, hT8⟩ := hO.T8
  obtain ⟨hS, hS5⟩ := hO.S5
  obtain ⟨hBt, hB4⟩ := hO.B4
  refine r_aload_n qX3_pointCount_0 rfl ?_
  refine r_iload_n qX3_pointCount_1 rfl ?_
  refine r_cv1 (cu2 := 1) (su2 := 6) qX3_pointCount_2 kX3_141 rfl (by decide +kernel) (c := 3) (by assumption) (by decide) rfl rfl rfl rfl rfl rfl ?_
  refine c_X3_checkedTube hX hH (fun hv => t_out rfl rfl rfl (by rw [oc3_a hv] at hK; exact hK)) (fun k ek hk => ?_)
  subst ek
  have hv := tv_mk hk (by have := hO.k8 hk; omega)
  have h8 := hO.k8 hk
  have zk : zn (nI k) = k := zn_nI (by omega)
  obtain ⟨tb1, hT3⟩ := hC.tb h8
  have u1 := hT3.1
  have hU := hH.tu hk
  obtain ⟨f0, f3, f4, f6, f7, f8, f9, f10, f11, f12, f13, fP⟩ := id hU
  obtain ⟨hm, hm6⟩ := hO.many hk
  show zR E _ _ X 5 _ _ _ _ _ _ _
  refine r_geti qX3_pointCount_5 fX3_179 rfl (by assumption) ?_
  rw [f3]
  refine r_iret qX3_pointCount_8 rfl rfl rfl rfl ?_
  rw [oc3_v hv trivial trivial, zk] at hK; exact hK
set_option maxHeartbeats 4000000 in
set_option maxRecDepth 20000 in
theorem c_X3_isLeaky {E : Ev} {g : Sh} {i : Ni} {j : Nj} {K : Kp} {c : Nat} {a : Nat → Nat} {N : Nat → Int32} {t : Int32} (hX : zX3 g c a) (hH : zH i a N) (hK : K (oc3 (tv (N 5) t) (True) (True) 2 0 0 (.int (zb (N (42 + 21 * zn t + 6) = nI 1)))) g i j) : zCon E mX3_isLeaky [.ref c, .int t] g i j K := by
  refine zcon_of (by decide +kernel) rfl rfl (lo := [.ref c, .int t]) rfl (fun X => ?_)
  obtain ⟨x1, x2, hC⟩ := id hX
  have hO := hH.1
  obtain ⟨a1, a2, a3, a4, a5, a6, a7, a8, a9, a10, a11, a12, a13, a14, a15, a16, -⟩ := id hC
  obtain ⟨c5, c6, c7, c8, c9, c10, c11, c12⟩ := hH.cnt
  obtain ⟨hT, hT8⟩ := hO.T8
  obtain ⟨hS, hS5⟩ := hO.S5
  obtain ⟨hBt, hB4⟩ := hO.B4
  refine r_aload_n qX3_isLeaky_0 rfl ?_
  refine r_iload_n qX3_isLeaky_1 rfl ?_
  refine r_cv1 (cu2 := 1) (su2 := 6) qX3_isLeaky_2 kX3_141 rfl (by decide +kernel) (c := 3) (by assumption) (by decide) rfl rfl rfl rfl rfl rfl ?_
  refine c_X3_checkedTube hX hH (fun hv => t_out rfl rfl rfl (by rw [oc3_a hv] at hK; exact hK)) (fun k ek hk => ?_)
  subst ek
  have hv := tv_mk hk (by have := hO.k8 hk; omega)
  have h8 := hO.k8 hk
  have zk : zn (nI k) = k := zn_nI (by omega)
  obtain ⟨tb1, hT3⟩ := hC.tb h8
  have u1 := hT3.1
  have hU := hH.tu hk
  obtain ⟨f0, f3, f4, f6, f7, f8, f9, f10, f11, f12, f13, fP⟩ := id hU
  obtain ⟨hm, hm6⟩ := hO.many hk
  show zR E _ _ X 5 _ _ _ _ _ _ _
  refine r_geti qX3_isLeaky_5 fX3_156 rfl (by assumption) ?_
  rw [f13]
  have e6 : N (42 + 21 * k + 6) = zb (N (42 + 21 * k + 6) = nI 1) := by
    obtain ⟨-, -, -, -, -, -, b6, -⟩ := hO.tu hk
    rcases b6 with e | e
    · rw [zb_f (by rw [e]; decide), e]
    · rw [zb_t e, e]
  rw [e6]
  refine r_iret qX3_isLeaky_8 rfl (zb_nar _) rfl rfl ?_
  rw [oc3_v hv trivial trivial, zk] at hK; exact hK
set_option maxHeartbeats 4000000 in
set_option maxRecDepth 20000 in
theorem c_X3_surroundingsOf {E : Ev} {g : Sh} {i : Ni} {j : Nj} {K : Kp} {c : Nat} {a : Nat → Nat} {N : Nat → Int32} {t : Int32} (hX : zX3 g c a) (hH : zH i a N) (hK : K (oc3 (tv (N 5) t) (True) (True) 2 0 0 (.int (sAround N (zn t)))) g i j) : zCon E mX3_surroundingsOf [.ref c, .int t] g i j K := by
  refine zcon_of (by decide +kernel) rfl rfl (lo := [.ref c, .int t]) rfl (fun X => ?_)
  obtain ⟨x1, x2, hC⟩ := id hX
  have hO := hH.1
  obtain ⟨a1, a2, a3, a4, a5, a6, a7, a8, a9, a10, a11, a12, a13, a14, a15, a16, -⟩ := id hC
  obtain ⟨c5, c6, c7, c8, c9, c10, c11, c12⟩ := hH.cnt
  obtain ⟨hT, hT8⟩ := hO.T8
  obtain ⟨hS, hS5⟩ := hO.S5
  obtain ⟨hBt, hB4⟩ := hO.B4
  refine r_aload_n qX3_surroundingsOf_0 rfl ?_
  refine r_getr qX3_surroundingsOf_1 fX3_40 rfl (by assumption) (by first | assumption | rfl) ?_
  refine r_aload_n qX3_surroundingsOf_4 rfl ?_
  refine r_iload_n qX3_surroundingsOf_5 rfl ?_
  refine r_cv1 (cu2 := 1) (su2 := 6) qX3_surroundingsOf_6 kX3_141 rfl (by decide +kernel) (c := 3) (by assumption) (by decide) rfl rfl rfl rfl rfl rfl ?_
  refine c_X3_checkedTube hX hH (fun hv => t_out rfl rfl rfl (by rw [oc3_a hv] at hK; exact hK)) (fun k ek hk => ?_)
  subst ek
  have hv := tv_mk hk (by have := hO.k8 hk; omega)
  have h8 := hO.k8 hk
  have zk : zn (nI k) = k := zn_nI (by omega)
  obtain ⟨tb1, hT3⟩ := hC.tb h8
  have u1 := hT3.1
  have hU := hH.tu hk
  obtain ⟨f0, f3, f4, f6, f7, f8, f9, f10, f11, f12, f13, fP⟩ := id hU
  obtain ⟨hm, hm6⟩ := hO.many hk
  show zR E _ _ X 9 _ _ _ _ _ _ _
  refine r_cv1 (cu2 := 1) (su2 := 6) qX3_surroundingsOf_9 kX3_148 rfl (by decide +kernel) (c := 0) (by assumption) (by decide) rfl rfl rfl rfl rfl rfl ?_
  refine c_X0_tenthsAround hC hH hk ?_
  show zR E _ _ X 12 _ _ _ _ _ _ _
  refine r_iret qX3_surroundingsOf_12 rfl rfl rfl rfl ?_
  rw [oc3_v hv trivial trivial, zk] at hK; exact hK
set_option maxHeartbeats 4000000 in
set_option maxRecDepth 20000 in
theorem c_X3_isSettled {E : Ev} {g : Sh} {i : Ni} {j : Nj} {K : Kp} {c : Nat} {a : Nat → Nat} {N : Nat → Int32} {t : Int32} (hX : zX3 g c a) (hH : zH i a N) (hK : K (oc3 (tv (N 5) t) (True) (True) 2 0 0 (.int (zb (N (42 + 21 * zn t + 5) = sAround N (zn t))))) g i j) : zCon E mX3_isSettled [.ref c, .int t] g i j K := by
  refine zcon_of (by decide +kernel) rfl rfl (lo := [.ref c, .int t]) rfl (fun X => ?_)
  obtain ⟨x1, x2, hC⟩ := id hX
  have hO := hH.1
  obtain ⟨a1, a2, a3, a4, a5, a6, a7, a8, a9, a10, a11, a12, a13, a14, a15, a16, -⟩ := id hC
  obtain ⟨c5, c6, c7, c8, c9, c10, c11, c12⟩ := hH.cnt
  obtain ⟨hT, hT8⟩ := hO.T8
  obtain ⟨hS, hS5⟩ := hO.S5
  obtain ⟨hBt, hB4⟩ := hO.B4
  refine r_aload_n qX3_isSettled_0 rfl ?_
  refine r_getr qX3_isSettled_1 fX3_40 rfl (by assumption) (by first | assumption | rfl) ?_
  refine r_aload_n qX3_isSettled_4 rfl ?_
  refine r_iload_n qX3_isSettled_5 rfl ?_
  refine r_cv1 (cu2 := 1) (su2 := 6) qX3_isSettled_6 kX3_141 rfl (by decide +kernel) (c := 3) (by assumption) (by decide) rfl rfl rfl rfl rfl rfl ?_
  refine c_X3_checkedTube hX hH (fun hv => t_out rfl rfl rfl (by rw [oc3_a hv] at hK; exact hK)) (fun k ek hk => ?_)
  subst ek
  have hv := tv_mk hk (by have := hO.k8 hk; omega)
  have h8 := hO.k8 hk
  have zk : zn (nI k) = k := zn_nI (by omega)
  obtain ⟨tb1, hT3⟩ := hC.tb h8
  have u1 := hT3.1
  have hU := hH.tu hk
  obtain ⟨f0, f3, f4, f6, f7, f8, f9, f10, f11, f12, f13, fP⟩ := id hU
  obtain ⟨hm, hm6⟩ := hO.many hk
  show zR E _ _ X 9 _ _ _ _ _ _ _
  refine r_cv1 (cu2 := 1) (su2 := 6) qX3_isSettled_9 kX3_152 rfl (by decide +kernel) (c := 0) (by assumption) (by decide) rfl rfl rfl rfl rfl rfl ?_
  refine c_X0_atRest hC hH hk ?_
  show zR E _ _ X 12 _ _ _ _ _ _ _
  refine r_iret qX3_isSettled_12 rfl (by first | decide | exact zb_nar _ | assumption) rfl rfl ?_
  rw [oc3_v hv trivial trivial, zk] at hK; exact hK
set_option maxHeartbeats 4000000 in
set_option maxRecDepth 20000 in
theorem c_X3_markRefusal {E : Ev} {g : Sh} {i : Ni} {j : Nj} {K : Kp} {c : Nat} {a : Nat → Nat} {N : Nat → Int32} {t : Int32} (hX : zX3 g c a) (hH : zH i a N) (hK : K (oc3 (tv (N 5) t) (True) (True) 2 0 0 (.int (sMark N (zn t)))) g i j) : zCon E mX3_markRefusal [.ref c, .int t] g i j K := by
  refine zcon_of (by decide +kernel) rfl rfl (lo := [.ref c, .int t]) rfl (fun X => ?_)
  obtain ⟨x1, x2, hC⟩ := id hX
  have hO := hH.1
  obtain ⟨a1, a2, a3, a4, a5, a6, a7, a8, a9, a10, a11, a12, a13, a14, a15, a16, -⟩ := id hC
  obtain ⟨c5, c6, c7, c8, c9, c10, c11, c12⟩ := hH.cnt
  obtain ⟨hT, hT8⟩ := hO.T8
  obtain ⟨hS, hS5⟩ := hO.S5
  obtain ⟨hBt, hB4⟩ := hO.B4
  refine r_aload_n qX3_markRefusal_0 rfl ?_
  refine r_getr qX3_markRefusal_1 fX3_40 rfl (by assumption) (by first | assumption | rfl) ?_
  refine r_aload_n qX3_markRefusal_4 rfl ?_
  refine r_iload_n qX3_markRefusal_5 rfl ?_
  refine r_cv1 (cu2 := 1) (su2 := 6) qX3_markRefusal_6 kX3_141 rfl (by decide +kernel) (c := 3) (by assumption) (by decide) rfl rfl rfl rfl rfl rfl ?_
  refine c_X3_checkedTube hX hH (fun hv => t_out rfl rfl rfl (by rw [oc3_a hv] at hK; exact hK)) (fun k ek hk => ?_)
  subst ek
  have hv := tv_mk hk (by have := hO.k8 hk; omega)
  have h8 := hO.k8 hk
  have zk : zn (nI k) = k := zn_nI (by omega)
  obtain ⟨tb1, hT3⟩ := hC.tb h8
  have u1 := hT3.1
  have hU := hH.tu hk
  obtain ⟨f0, f3, f4, f6, f7, f8, f9, f10, f11, f12, f13, fP⟩ := id hU
  obtain ⟨hm, hm6⟩ := hO.many hk
  show zR E _ _ X 9 _ _ _ _ _ _ _
  refine r_cv1 (cu2 := 1) (su2 := 6) qX3_markRefusal_9 kX3_213 rfl (by decide +kernel) (c := 0) (by assumption) (by decide) rfl rfl rfl rfl rfl rfl ?_
  refine c_X0_whyNotMark hC hH hk ?_
  show zR E _ _ X 12 _ _ _ _ _ _ _
  refine r_iret qX3_markRefusal_12 rfl rfl rfl rfl ?_
  rw [oc3_v hv trivial trivial, zk] at hK; exact hK
set_option maxHeartbeats 4000000 in
set_option maxRecDepth 20000 in
theorem c_X3_height {E : Ev} {g : Sh} {i : Ni} {j : Nj} {K : Kp} {c : Nat} {a : Nat → Nat} {N : Nat → Int32} {t : Int32} (hX : zX3 g c a) (hH : zH i a N) (hK : K (oc3 (tv (N 5) t) (True) (True) 2 0 0 (.int (sHigh N (zn t)))) g i j) : zCon E mX3_height [.ref c, .int t] g i j K := by
  refine zcon_of (by decide +kernel) rfl rfl (lo := [.ref c, .int t]) rfl (fun X => ?_)
  obtain ⟨x1, x2, hC⟩ := id hX
  have hO := hH.1
  obtain ⟨a1, a2, a3, a4, a5, a6, a7, a8, a9, a10, a11, a12, a13, a14, a15, a16, -⟩ := id hC
  obtain ⟨c5, c6, c7, c8, c9, c10, c11, c12⟩ := hH.cnt
  obtain ⟨hT, hT8⟩ := hO.T8
  obtain ⟨hS, hS5⟩ := hO.S5
  obtain ⟨hBt, hB4⟩ := hO.B4
  refine r_aload_n qX3_height_0 rfl ?_
  refine r_iload_n qX3_height_1 rfl ?_
  refine r_cv1 (cu2 := 1) (su2 := 6) qX3_height_2 kX3_141 rfl (by decide +kernel) (c := 3) (by assumption) (by decide) rfl rfl rfl rfl rfl rfl ?_
  refine c_X3_checkedTube hX hH (fun hv => t_out rfl rfl rfl (by rw [oc3_a hv] at hK; exact hK)) (fun k ek hk => ?_)
  subst ek
  have hv := tv_mk hk (by have := hO.k8 hk; omega)
  have h8 := hO.k8 hk
  have zk : zn (nI k) = k := zn_nI (by omega)
  obtain ⟨tb1, hT3⟩ := hC.tb h8
  have u1 := hT3.1
  have hU := hH.tu hk
  obtain ⟨f0, f3, f4, f6, f7, f8, f9, f10, f11, f12, f13, fP⟩ := id hU
  obtain ⟨hm, hm6⟩ := hO.many hk
  show zR E _ _ X 5 _ _ _ _ _ _ _
  refine r_cv0 (cu2 := 1) (su2 := 6) qX3_height_5 kX3_160 rfl (by decide +kernel) (c := 2) (by assumption) (by decide) rfl rfl rfl rfl rfl rfl ?_
  refine c_X2_level hT3 hU hO hk ?_
  show zR E _ _ X 8 _ _ _ _ _ _ _
  refine r_iret qX3_height_8 rfl rfl rfl rfl ?_
  rw [oc3_v hv trivial trivial, zk] at hK; exact hK
set_option maxHeartbeats 4000000 in
set_option maxRecDepth 20000 in
theorem c_X3_hasScale {E : Ev} {g : Sh} {i : Ni} {j : Nj} {K : Kp} {c : Nat} {a : Nat → Nat} {N : Nat → Int32} {t : Int32} (hX : zX3 g c a) (hH : zH i a N) (hK : K (oc3 (tv (N 5) t) (True) (True) 2 0 0 (.int (zb (2 ≤ sMany N (zn t))))) g i j) : zCon E mX3_hasScale [.ref c, .int t] g i j K := by
  refine zcon_of (by decide +kernel) rfl rfl (lo := [.ref c, .int t]) rfl (fun X => ?_)
  obtain ⟨x1, x2, hC⟩ := id hX
  have hO := hH.1
  obtain ⟨a1, a2, a3, a4, a5, a6, a7, a8, a9, a10, a11, a12, a13, a14, a15, a16, -⟩ := id hC
  obtain ⟨c5, c6, c7, c8, c9, c10, c11, c12⟩ := hH.cnt
  obtain ⟨hT, hT8⟩ := hO.T8
  obtain ⟨hS, hS5⟩ := hO.S5
  obtain ⟨hBt, hB4⟩ := hO.B4
  refine r_aload_n qX3_hasScale_0 rfl ?_
  refine r_iload_n qX3_hasScale_1 rfl ?_
  refine r_cv1 (cu2 := 1) (su2 := 6) qX3_hasScale_2 kX3_141 rfl (by decide +kernel) (c := 3) (by assumption) (by decide) rfl rfl rfl rfl rfl rfl ?_
  refine c_X3_checkedTube hX hH (fun hv => t_out rfl rfl rfl (by rw [oc3_a hv] at hK; exact hK)) (fun k ek hk => ?_)
  subst ek
  have hv := tv_mk hk (by have := hO.k8 hk; omega)
  have h8 := hO.k8 hk
  have zk : zn (nI k) = k := zn_nI (by omega)
  obtain ⟨tb1, hT3⟩ := hC.tb h8
  have u1 := hT3.1
  have hU := hH.tu hk
  obtain ⟨f0, f3, f4, f6, f7, f8, f9, f10, f11, f12, f13, fP⟩ := id hU
  obtain ⟨hm, hm6⟩ := hO.many hk
  show zR E _ _ X 5 _ _ _ _ _ _ _
  refine r_cv0 (cu2 := 1) (su2 := 6) qX3_hasScale_5 kX3_192 rfl (by decide +kernel) (c := 2) (by assumption) (by decide) rfl rfl rfl rfl rfl rfl ?_
  refine c_X2_scaled hT3 hU hO hk ?_
  show zR E _ _ X 8 _ _ _ _ _ _ _
  refine r_iret qX3_hasScale_8 rfl (by first | decide | exact zb_nar _ | assumption) rfl rfl ?_
  rw [oc3_v hv trivial trivial, zk] at hK; exact hK
set_option maxHeartbeats 4000000 in
set_option maxRecDepth 20000 in
theorem c_X3_freeHeightAt {E : Ev} {g : Sh} {i : Ni} {j : Nj} {K : Kp} {c : Nat} {a : Nat → Nat} {N : Nat → Int32} {t h : Int32} (hX : zX3 g c a) (hH : zH i a N) (hK : K (oc3 (tv (N 5) t) (-200 ≤ h.toInt ∧ h.toInt ≤ 1500) (True) 2 1 0 (.int (sFree N (zn t) h))) g i j) : zCon E mX3_freeHeightAt [.ref c, .int t, .int h] g i j K := by
  refine zcon_of (by decide +kernel) rfl rfl (lo := [.ref c, .int t, .int h, zJ]) rfl (fun X => ?_)
  obtain ⟨x1, x2, hC⟩ := id hX
  have hO := hH.1
  obtain ⟨a1, a2, a3, a4, a5, a6, a7, a8, a9, a10, a11, a12, a13, a14, a15, a16, -⟩ := id hC
  obtain ⟨c5, c6, c7, c8, c9, c10, c11, c12⟩ := hH.cnt
  obtain ⟨hT, hT8⟩ := hO.T8
  obtain ⟨hS, hS5⟩ := hO.S5
  obtain ⟨hBt, hB4⟩ := hO.B4
  refine r_aload_n qX3_freeHeightAt_0 rfl ?_
  refine r_iload_n qX3_freeHeightAt_1 rfl ?_
  refine r_cv1 (cu2 := 1) (su2 := 6) qX3_freeHeightAt_2 kX3_141 rfl (by decide +kernel) (c := 3) (by assumption) (by decide) rfl rfl rfl rfl rfl rfl ?_
  refine c_X3_checkedTube hX hH (fun hv => t_out rfl rfl rfl (by rw [oc3_a hv] at hK; exact hK)) (fun k ek hk => ?_)
  subst ek
  have hv := tv_mk hk (by have := hO.k8 hk; omega)
  have h8 := hO.k8 hk
  have zk : zn (nI k) = k := zn_nI (by omega)
  obtain ⟨tb1, hT3⟩ := hC.tb h8
  have u1 := hT3.1
  have hU := hH.tu hk
  obtain ⟨f0, f3, f4, f6, f7, f8, f9, f10, f11, f12, f13, fP⟩ := id hU
  obtain ⟨hm, hm6⟩ := hO.many hk
  show zR E _ _ X 5 _ _ _ _ _ _ _
  refine r_as_4_3 qX3_freeHeightAt_5 rfl rfl ?_
  refine r_iload_n qX3_freeHeightAt_6 rfl ?_
  refine r_sipush (v := (-200)) qX3_freeHeightAt_7 (by decide) ?_
  refine r_sipush (v := nI 1500) qX3_freeHeightAt_10 (by decide) ?_
  refine r_cs3 (cu2 := 2) (su2 := 12) qX3_freeHeightAt_13 kX3_164 rfl (by decide +kernel) rfl rfl rfl rfl rfl ?_
  refine c_X3_checkRange (lo := -200) (hi := 1500) (by decide) (by decide) (fun hv2 => t_out rfl rfl rfl (by rw [oc3_b hv hv2] at hK; exact hK)) (fun hv2 => ?_)
  show zR E _ _ X 16 _ _ _ _ _ _ _
  refine r_aload_n qX3_freeHeightAt_16 rfl ?_
  refine r_iload_n qX3_freeHeightAt_17 rfl ?_
  refine r_cv1 (cu2 := 2) (su2 := 12) qX3_freeHeightAt_18 kX3_168 rfl (by decide +kernel) (c := 2) (by assumption) (by decide) rfl rfl rfl rfl rfl rfl ?_
  refine c_X2_freeHeight hT3 hU hO hk ?_
  show zR E _ _ X 21 _ _ _ _ _ _ _
  refine r_iret qX3_freeHeightAt_21 rfl rfl rfl rfl ?_
  rw [oc3_v hv hv2 trivial, zk] at hK; exact hK
set_option maxHeartbeats 4000000 in
set_option maxRecDepth 20000 in
theorem c_X3_sensitivity {E : Ev} {g : Sh} {i : Ni} {j : Nj} {K : Kp} {c : Nat} {a : Nat → Nat} {N : Nat → Int32} {t : Int32} (hX : zX3 g c a) (hH : zH i a N) (hK : K (oc3 (tv (N 5) t) (True) (True) 2 0 0 (.int (sFree N (zn t) (N (42 + 21 * zn t + 5) + nI 10) - sFree N (zn t) (N (42 + 21 * zn t + 5))))) g i j) : zCon E mX3_sensitivity [.ref c, .int t] g i j K := by
  refine zcon_of (by decide +kernel) rfl rfl (lo := [.ref c, .int t, zJ]) rfl (fun X => ?_)
  obtain ⟨x1, x2, hC⟩ := id hX
  have hO := hH.1
  obtain ⟨a1, a2, a3, a4, a5, a6, a7, a8, a9, a10, a11, a12, a13, a14, a15, a16, -⟩ := id hC
  obtain ⟨c5, c6, c7, c8, c9, c10, c11, c12⟩ := hH.cnt
  obtain ⟨hT, hT8⟩ := hO.T8
  obtain ⟨hS, hS5⟩ := hO.S5
  obtain ⟨hBt, hB4⟩ := hO.B4
  refine r_aload_n qX3_sensitivity_0 rfl ?_
  refine r_iload_n qX3_sensitivity_1 rfl ?_
  refine r_cv1 (cu2 := 1) (su2 := 6) qX3_sensitivity_2 kX3_141 rfl (by decide +kernel) (c := 3) (by assumption) (by decide) rfl rfl rfl rfl rfl rfl ?_
  refine c_X3_checkedTube hX hH (fun hv => t_out rfl rfl rfl (by rw [oc3_a hv] at hK; exact hK)) (fun k ek hk => ?_)
  subst ek
  have hv := tv_mk hk (by have := hO.k8 hk; omega)
  have h8 := hO.k8 hk
  have zk : zn (nI k) = k := zn_nI (by omega)
  obtain ⟨tb1, hT3⟩ := hC.tb h8
  have u1 := hT3.1
  have hU := hH.tu hk
  obtain ⟨f0, f3, f4, f6, f7, f8, f9, f10, f11, f12, f13, fP⟩ := id hU
  obtain ⟨hm, hm6⟩ := hO.many hk
  show zR E _ _ X 5 _ _ _ _ _ _ _
  refine r_as_3_2 qX3_sensitivity_5 rfl rfl ?_
  refine r_aload_n qX3_sensitivity_6 rfl ?_
  refine r_aload_n qX3_sensitivity_7 rfl ?_
  refine r_geti qX3_sensitivity_8 fX3_145 rfl (by assumption) ?_
  rw [f11]
  refine r_bipush (v := nI 10) qX3_sensitivity_11 (by decide) ?_
  first | with_reducible refine r_iaddN qX3_sensitivity_13 ?_ | refine r_iadd qX3_sensitivity_13 ?_
  refine r_cv1 (cu2 := 1) (su2 := 6) qX3_sensitivity_14 kX3_168 rfl (by decide +kernel) (c := 2) (by assumption) (by decide) rfl rfl rfl rfl rfl rfl ?_
  refine c_X2_freeHeight hT3 hU hO hk ?_
  show zR E _ _ X 17 _ _ _ _ _ _ _
  refine r_aload_n qX3_sensitivity_17 rfl ?_
  refine r_aload_n qX3_sensitivity_18 rfl ?_
  refine r_geti qX3_sensitivity_19 fX3_145 rfl (by assumption) ?_
  rw [f11]
  refine r_cv1 (cu2 := 1) (su2 := 6) qX3_sensitivity_22 kX3_168 rfl (by decide +kernel) (c := 2) (by assumption) (by decide) rfl rfl rfl rfl rfl rfl ?_
  refine c_X2_freeHeight hT3 hU hO hk ?_
  show zR E _ _ X 25 _ _ _ _ _ _ _
  refine r_isub qX3_sensitivity_25 ?_
  refine r_iret qX3_sensitivity_26 rfl rfl rfl rfl ?_
  rw [oc3_v hv trivial trivial, zk] at hK; exact hK
set_option maxHeartbeats 4000000 in
set_option maxRecDepth 20000 in
theorem c_X3_reading {E : Ev} {g : Sh} {i : Ni} {j : Nj} {K : Kp} {c : Nat} {a : Nat → Nat} {N : Nat → Int32} {t : Int32} (hX : zX3 g c a) (hH : zH i a N) (hK : K (oc3 (tv (N 5) t) (rd N t) (True) 2 3 0 (.int (sRead N (zn t)))) g i j) : zCon E mX3_reading [.ref c, .int t] g i j K := by
  refine zcon_of (by decide +kernel) rfl rfl (lo := [.ref c, .int t, zJ]) rfl (fun X => ?_)
  obtain ⟨x1, x2, hC⟩ := id hX
  have hO := hH.1
  obtain ⟨a1, a2, a3, a4, a5, a6, a7, a8, a9, a10, a11, a12, a13, a14, a15, a16, -⟩ := id hC
  obtain ⟨c5, c6, c7, c8, c9, c10, c11, c12⟩ := hH.cnt
  obtain ⟨hT, hT8⟩ := hO.T8
  obtain ⟨hS, hS5⟩ := hO.S5
  obtain ⟨hBt, hB4⟩ := hO.B4
  refine r_aload_n qX3_reading_0 rfl ?_
  refine r_iload_n qX3_reading_1 rfl ?_
  refine r_cv1 (cu2 := 1) (su2 := 6) qX3_reading_2 kX3_141 rfl (by decide +kernel) (c := 3) (by assumption) (by decide) rfl rfl rfl rfl rfl rfl ?_
  refine c_X3_checkedTube hX hH (fun hv => t_out rfl rfl rfl (by rw [oc3_a hv] at hK; exact hK)) (fun k ek hk => ?_)
  subst ek
  have hv := tv_mk hk (by have := hO.k8 hk; omega)
  have h8 := hO.k8 hk
  have zk : zn (nI k) = k := zn_nI (by omega)
  obtain ⟨tb1, hT3⟩ := hC.tb h8
  have u1 := hT3.1
  have hU := hH.tu hk
  obtain ⟨f0, f3, f4, f6, f7, f8, f9, f10, f11, f12, f13, fP⟩ := id hU
  obtain ⟨hm, hm6⟩ := hO.many hk
  show zR E _ _ X 5 _ _ _ _ _ _ _
  refine r_as_3_2 qX3_reading_5 rfl rfl ?_
  refine r_aload_n qX3_reading_6 rfl ?_
  refine r_cs1 (cu2 := 2) (su2 := 12) qX3_reading_7 kX3_196 rfl (by decide +kernel) rfl rfl rfl rfl rfl ?_
  refine c_X3_checkScale hT3 hU hO hk (fun hs => t_out rfl rfl rfl (by rw [oc3_b hv (fun h => hs (by have h2 := h.2; rw [zk] at h2; exact h2))] at hK; exact hK)) (fun hs => ?_)
  show zR E _ _ X 10 _ _ _ _ _ _ _
  refine r_aload_n qX3_reading_10 rfl ?_
  refine r_cv0 (cu2 := 2) (su2 := 12) qX3_reading_11 kX3_200 rfl (by decide +kernel) (c := 2) (by assumption) (by decide) rfl rfl rfl rfl rfl rfl ?_
  refine c_X2_tenthsRead hT3 hU hO hk hs ?_
  show zR E _ _ X 14 _ _ _ _ _ _ _
  refine r_iret qX3_reading_14 rfl rfl rfl rfl ?_
  rw [oc3_v hv ⟨hv, by rw [zk]; exact hs⟩ trivial, zk] at hK; exact hK
set_option maxHeartbeats 4000000 in
set_option maxRecDepth 20000 in
theorem c_X3_readingError {E : Ev} {g : Sh} {i : Ni} {j : Nj} {K : Kp} {c : Nat} {a : Nat → Nat} {N : Nat → Int32} {t : Int32} (hX : zX3 g c a) (hH : zH i a N) (hK : K (oc3 (tv (N 5) t) (rd N t) (True) 2 3 0 (.int (sRead N (zn t) - N (42 + 21 * zn t + 5)))) g i j) : zCon E mX3_readingError [.ref c, .int t] g i j K := by
  refine zcon_of (by decide +kernel) rfl rfl (lo := [.ref c, .int t, zJ]) rfl (fun X => ?_)
  obtain ⟨x1, x2, hC⟩ := id hX
  have hO := hH.1
  obtain ⟨a1, a2, a3, a4, a5, a6, a7, a8, a9, a10, a11, a12, a13, a14, a15, a16, -⟩ := id hC
  obtain ⟨c5, c6, c7, c8, c9, c10, c11, c12⟩ := hH.cnt
  obtain ⟨hT, hT8⟩ := hO.T8
  obtain ⟨hS, hS5⟩ := hO.S5
  obtain ⟨hBt, hB4⟩ := hO.B4
  refine r_aload_n qX3_readingError_0 rfl ?_
  refine r_iload_n qX3_readingError_1 rfl ?_
  refine r_cv1 (cu2 := 1) (su2 := 6) qX3_readingError_2 kX3_141 rfl (by decide +kernel) (c := 3) (by assumption) (by decide) rfl rfl rfl rfl rfl rfl ?_
  refine c_X3_checkedTube hX hH (fun hv => t_out rfl rfl rfl (by rw [oc3_a hv] at hK; exact hK)) (fun k ek hk => ?_)
  subst ek
  have hv := tv_mk hk (by have := hO.k8 hk; omega)
  have h8 := hO.k8 hk
  have zk : zn (nI k) = k := zn_nI (by omega)
  obtain ⟨tb1, hT3⟩ := hC.tb h8
  have u1 := hT3.1
  have hU := hH.tu hk
  obtain ⟨f0, f3, f4, f6, f7, f8, f9, f10, f11, f12, f13, fP⟩ := id hU
  obtain ⟨hm, hm6⟩ := hO.many hk
  show zR E _ _ X 5 _ _ _ _ _ _ _
  refine r_as_3_2 qX3_readingError_5 rfl rfl ?_
  refine r_aload_n qX3_readingError_6 rfl ?_
  refine r_cs1 (cu2 := 2) (su2 := 12) qX3_readingError_7 kX3_196 rfl (by decide +kernel) rfl rfl rfl rfl rfl ?_
  refine c_X3_checkScale hT3 hU hO hk (fun hs => t_out rfl rfl rfl (by rw [oc3_b hv (fun h => hs (by have h2 := h.2; rw [zk] at h2; exact h2))] at hK; exact hK)) (fun hs => ?_)
  show zR E _ _ X 10 _ _ _ _ _ _ _
  refine r_aload_n qX3_readingError_10 rfl ?_
  refine r_cv0 (cu2 := 2) (su2 := 12) qX3_readingError_11 kX3_200 rfl (by decide +kernel) (c := 2) (by assumption) (by decide) rfl rfl rfl rfl rfl rfl ?_
  refine c_X2_tenthsRead hT3 hU hO hk hs ?_
  show zR E _ _ X 14 _ _ _ _ _ _ _
  refine r_aload_n qX3_readingError_14 rfl ?_
  refine r_geti qX3_readingError_15 fX3_145 rfl (by assumption) ?_
  rw [f11]
  refine r_isub qX3_readingError_18 ?_
  refine r_iret qX3_readingError_19 rfl rfl rfl rfl ?_
  rw [oc3_v hv ⟨hv, by rw [zk]; exact hs⟩ trivial, zk] at hK; exact hK
set_option maxHeartbeats 4000000 in
set_option maxRecDepth 20000 in
theorem c_X3_fitError {E : Ev} {g : Sh} {i : Ni} {j : Nj} {K : Kp} {c : Nat} {a : Nat → Nat} {N : Nat → Int32} {t : Int32} (hX : zX3 g c a) (hH : zH i a N) (hK : K (oc3 (tv (N 5) t) (rd N t) (True) 2 3 0 (.int (sFit N (zn t) (sMany N (zn t))))) g i j) : zCon E mX3_fitError [.ref c, .int t] g i j K := by
  refine zcon_of (by decide +kernel) rfl rfl (lo := [.ref c, .int t, zJ]) rfl (fun X => ?_)
  obtain ⟨x1, x2, hC⟩ := id hX
  have hO := hH.1
  obtain ⟨a1, a2, a3, a4, a5, a6, a7, a8, a9, a10, a11, a12, a13, a14, a15, a16, -⟩ := id hC
  obtain ⟨c5, c6, c7, c8, c9, c10, c11, c12⟩ := hH.cnt
  obtain ⟨hT, hT8⟩ := hO.T8
  obtain ⟨hS, hS5⟩ := hO.S5
  obtain ⟨hBt, hB4⟩ := hO.B4
  refine r_aload_n qX3_fitError_0 rfl ?_
  refine r_iload_n qX3_fitError_1 rfl ?_
  refine r_cv1 (cu2 := 1) (su2 := 6) qX3_fitError_2 kX3_141 rfl (by decide +kernel) (c := 3) (by assumption) (by decide) rfl rfl rfl rfl rfl rfl ?_
  refine c_X3_checkedTube hX hH (fun hv => t_out rfl rfl rfl (by rw [oc3_a hv] at hK; exact hK)) (fun k ek hk => ?_)
  subst ek
  have hv := tv_mk hk (by have := hO.k8 hk; omega)
  have h8 := hO.k8 hk
  have zk : zn (nI k) = k := zn_nI (by omega)
  obtain ⟨tb1, hT3⟩ := hC.tb h8
  have u1 := hT3.1
  have hU := hH.tu hk
  obtain ⟨f0, f3, f4, f6, f7, f8, f9, f10, f11, f12, f13, fP⟩ := id hU
  obtain ⟨hm, hm6⟩ := hO.many hk
  show zR E _ _ X 5 _ _ _ _ _ _ _
  refine r_as_3_2 qX3_fitError_5 rfl rfl ?_
  refine r_aload_n qX3_fitError_6 rfl ?_
  refine r_cs1 (cu2 := 2) (su2 := 12) qX3_fitError_7 kX3_196 rfl (by decide +kernel) rfl rfl rfl rfl rfl ?_
  refine c_X3_checkScale hT3 hU hO hk (fun hs => t_out rfl rfl rfl (by rw [oc3_b hv (fun h => hs (by have h2 := h.2; rw [zk] at h2; exact h2))] at hK; exact hK)) (fun hs => ?_)
  show zR E _ _ X 10 _ _ _ _ _ _ _
  refine r_aload_n qX3_fitError_10 rfl ?_
  refine r_cv0 (cu2 := 2) (su2 := 12) qX3_fitError_11 kX3_206 rfl (by decide +kernel) (c := 2) (by assumption) (by decide) rfl rfl rfl rfl rfl rfl ?_
  refine c_X2_greatestMisfit hT3 hU hO hk hs ?_
  show zR E _ _ X 14 _ _ _ _ _ _ _
  refine r_iret qX3_fitError_14 rfl rfl rfl rfl ?_
  rw [oc3_v hv ⟨hv, by rw [zk]; exact hs⟩ trivial, zk] at hK; exact hK
set_option maxHeartbeats 4000000 in
set_option maxRecDepth 20000 in
theorem c_X3_scaleAt {E : Ev} {g : Sh} {i : Ni} {j : Nj} {K : Kp} {c : Nat} {a : Nat → Nat} {N : Nat → Int32} {t h : Int32} (hX : zX3 g c a) (hH : zH i a N) (hK : K (oc3 (tv (N 5) t) (0 ≤ h.toInt ∧ h.toInt ≤ 999) (rd N t) 2 1 3 (.int (sTells N (zn t) h))) g i j) : zCon E mX3_scaleAt [.ref c, .int t, .int h] g i j K := by
  refine zcon_of (by decide +kernel) rfl rfl (lo := [.ref c, .int t, .int h, zJ]) rfl (fun X => ?_)
  obtain ⟨x1, x2, hC⟩ := id hX
  have hO := hH.1
  obtain ⟨a1, a2, a3, a4, a5, a6, a7, a8, a9, a10, a11, a12, a13, a14, a15, a16, -⟩ := id hC
  obtain ⟨c5, c6, c7, c8, c9, c10, c11, c12⟩ := hH.cnt
  obtain ⟨hT, hT8⟩ := hO.T8
  obtain ⟨hS, hS5⟩ := hO.S5
  obtain ⟨hBt, hB4⟩ := hO.B4
  refine r_aload_n qX3_scaleAt_0 rfl ?_
  refine r_iload_n qX3_scaleAt_1 rfl ?_
  refine r_cv1 (cu2 := 1) (su2 := 6) qX3_scaleAt_2 kX3_141 rfl (by decide +kernel) (c := 3) (by assumption) (by decide) rfl rfl rfl rfl rfl rfl ?_
  refine c_X3_checkedTube hX hH (fun hv => t_out rfl rfl rfl (by rw [oc3_a hv] at hK; exact hK)) (fun k ek hk => ?_)
  subst ek
  have hv := tv_mk hk (by have := hO.k8 hk; omega)
  have h8 := hO.k8 hk
  have zk : zn (nI k) = k := zn_nI (by omega)
  obtain ⟨tb1, hT3⟩ := hC.tb h8
  have u1 := hT3.1
  have hU := hH.tu hk
  obtain ⟨f0, f3, f4, f6, f7, f8, f9, f10, f11, f12, f13, fP⟩ := id hU
  obtain ⟨hm, hm6⟩ := hO.many hk
  show zR E _ _ X 5 _ _ _ _ _ _ _
  refine r_as_4_3 qX3_scaleAt_5 rfl rfl ?_
  refine r_iload_n qX3_scaleAt_6 rfl ?_
  refine r_iconst (v := nI 0) qX3_scaleAt_7 (by decide) ?_
  refine r_sipush (v := nI 999) qX3_scaleAt_8 (by decide) ?_
  refine r_cs3 (cu2 := 2) (su2 := 12) qX3_scaleAt_11 kX3_164 rfl (by decide +kernel) rfl rfl rfl rfl rfl ?_
  refine c_X3_checkRange (lo := 0) (hi := 999) (by decide) (by decide) (fun hv2 => t_out rfl rfl rfl (by rw [oc3_b hv hv2] at hK; exact hK)) (fun hv2 => ?_)
  show zR E _ _ X 14 _ _ _ _ _ _ _
  refine r_aload_n qX3_scaleAt_14 rfl ?_
  refine r_cs1 (cu2 := 3) (su2 := 18) qX3_scaleAt_15 kX3_196 rfl (by decide +kernel) rfl rfl rfl rfl rfl ?_
  refine c_X3_checkScale hT3 hU hO hk (fun hs => t_out rfl rfl rfl (by rw [oc3_c hv hv2 (fun h => hs (by have h2 := h.2; rw [zk] at h2; exact h2))] at hK; exact hK)) (fun hs => ?_)
  show zR E _ _ X 18 _ _ _ _ _ _ _
  refine r_aload_n qX3_scaleAt_18 rfl ?_
  refine r_iload_n qX3_scaleAt_19 rfl ?_
  refine r_cv1 (cu2 := 3) (su2 := 18) qX3_scaleAt_20 kX3_203 rfl (by decide +kernel) (c := 2) (by assumption) (by decide) rfl rfl rfl rfl rfl rfl ?_
  refine c_X2_tenthsToldFor hT3 hU hO hk hs ?_
  show zR E _ _ X 23 _ _ _ _ _ _ _
  refine r_iret qX3_scaleAt_23 rfl rfl rfl rfl ?_
  rw [oc3_v hv hv2 ⟨hv, by rw [zk]; exact hs⟩, zk] at hK; exact hK
set_option maxHeartbeats 4000000 in
set_option maxRecDepth 20000 in
theorem c_X3_pointDegrees {E : Ev} {g : Sh} {i : Ni} {j : Nj} {K : Kp} {c : Nat} {a : Nat → Nat} {N : Nat → Int32} {t q : Int32} (hX : zX3 g c a) (hH : zH i a N) (hK : K (oc3 (tv (N 5) t) (pv N t q) (True) 2 3 0 (.int (sDeg N (zn t) (zn q)))) g i j) : zCon E mX3_pointDegrees [.ref c, .int t, .int q] g i j K := by
  refine zcon_of (by decide +kernel) rfl rfl (lo := [.ref c, .int t, .int q, zJ]) rfl (fun X => ?_)
  obtain ⟨x1, x2, hC⟩ := id hX
  have hO := hH.1
  obtain ⟨a1, a2, a3, a4, a5, a6, a7, a8, a9, a10, a11, a12, a13, a14, a15, a16, -⟩ := id hC
  obtain ⟨c5, c6, c7, c8, c9, c10, c11, c12⟩ := hH.cnt
  obtain ⟨hT, hT8⟩ := hO.T8
  obtain ⟨hS, hS5⟩ := hO.S5
  obtain ⟨hBt, hB4⟩ := hO.B4
  refine r_aload_n qX3_pointDegrees_0 rfl ?_
  refine r_iload_n qX3_pointDegrees_1 rfl ?_
  refine r_cv1 (cu2 := 1) (su2 := 6) qX3_pointDegrees_2 kX3_141 rfl (by decide +kernel) (c := 3) (by assumption) (by decide) rfl rfl rfl rfl rfl rfl ?_
  refine c_X3_checkedTube hX hH (fun hv => t_out rfl rfl rfl (by rw [oc3_a hv] at hK; exact hK)) (fun k ek hk => ?_)
  subst ek
  have hv := tv_mk hk (by have := hO.k8 hk; omega)
  have h8 := hO.k8 hk
  have zk : zn (nI k) = k := zn_nI (by omega)
  obtain ⟨tb1, hT3⟩ := hC.tb h8
  have u1 := hT3.1
  have hU := hH.tu hk
  obtain ⟨f0, f3, f4, f6, f7, f8, f9, f10, f11, f12, f13, fP⟩ := id hU
  obtain ⟨hm, hm6⟩ := hO.many hk
  show zR E _ _ X 5 _ _ _ _ _ _ _
  refine r_as_4_3 qX3_pointDegrees_5 rfl rfl ?_
  obtain ⟨-, w2, w3, w4, w5, w6, w7, w8⟩ := id hT3
  refine r_aload_n qX3_pointDegrees_6 rfl ?_
  refine r_iload_n qX3_pointDegrees_7 rfl ?_
  refine r_cs2 (cu2 := 2) (su2 := 12) qX3_pointDegrees_8 kX3_182 rfl (by decide +kernel) rfl rfl rfl rfl rfl ?_
  refine c_X3_checkPoint hT3 hU hO hk (fun hq => t_out rfl rfl rfl (by rw [oc3_b hv (fun h => hq (by have h2 := h.2; rw [zk] at h2; exact h2))] at hK; exact hK)) (fun p ep hp => ?_)
  subst ep
  have zp : zn (nI p) = p := zn_nI (by omega)
  have hpv : pv N (nI k) (nI p) := ⟨hv, by rw [zk]; exact tv_mk hp (by omega)⟩
  show zR E _ _ X 11 _ _ _ _ _ _ _
  refine r_aload_n qX3_pointDegrees_11 rfl ?_
  refine r_getr qX3_pointDegrees_12 fX3_186 rfl (by assumption) (by first | assumption | rfl) ?_
  refine r_iload_n qX3_pointDegrees_15 rfl ?_
  refine r_ialdN qX3_pointDegrees_16 (by assumption) (by assumption) (by omega) rfl ?_
  rw [(fP p hp).1]
  refine r_iret qX3_pointDegrees_17 rfl rfl rfl rfl ?_
  rw [oc3_v hv hpv trivial, zk, zp] at hK; exact hK
set_option maxHeartbeats 4000000 in
set_option maxRecDepth 20000 in
theorem c_X3_pointHeight {E : Ev} {g : Sh} {i : Ni} {j : Nj} {K : Kp} {c : Nat} {a : Nat → Nat} {N : Nat → Int32} {t q : Int32} (hX : zX3 g c a) (hH : zH i a N) (hK : K (oc3 (tv (N 5) t) (pv N t q) (True) 2 3 0 (.int (sHgt N (zn t) (zn q)))) g i j) : zCon E mX3_pointHeight [.ref c, .int t, .int q] g i j K := by
  refine zcon_of (by decide +kernel) rfl rfl (lo := [.ref c, .int t, .int q, zJ]) rfl (fun X => ?_)
  obtain ⟨x1, x2, hC⟩ := id hX
  have hO := hH.1
  obtain ⟨a1, a2, a3, a4, a5, a6, a7, a8, a9, a10, a11, a12, a13, a14, a15, a16, -⟩ := id hC
  obtain ⟨c5, c6, c7, c8, c9, c10, c11, c12⟩ := hH.cnt
  obtain ⟨hT, hT8⟩ := hO.T8
  obtain ⟨hS, hS5⟩ := hO.S5
  obtain ⟨hBt, hB4⟩ := hO.B4
  refine r_aload_n qX3_pointHeight_0 rfl ?_
  refine r_iload_n qX3_pointHeight_1 rfl ?_
  refine r_cv1 (cu2 := 1) (su2 := 6) qX3_pointHeight_2 kX3_141 rfl (by decide +kernel) (c := 3) (by assumption) (by decide) rfl rfl rfl rfl rfl rfl ?_
  refine c_X3_checkedTube hX hH (fun hv => t_out rfl rfl rfl (by rw [oc3_a hv] at hK; exact hK)) (fun k ek hk => ?_)
  subst ek
  have hv := tv_mk hk (by have := hO.k8 hk; omega)
  have h8 := hO.k8 hk
  have zk : zn (nI k) = k := zn_nI (by omega)
  obtain ⟨tb1, hT3⟩ := hC.tb h8
  have u1 := hT3.1
  have hU := hH.tu hk
  obtain ⟨f0, f3, f4, f6, f7, f8, f9, f10, f11, f12, f13, fP⟩ := id hU
  obtain ⟨hm, hm6⟩ := hO.many hk
  show zR E _ _ X 5 _ _ _ _ _ _ _
  refine r_as_4_3 qX3_pointHeight_5 rfl rfl ?_
  obtain ⟨-, w2, w3, w4, w5, w6, w7, w8⟩ := id hT3
  refine r_aload_n qX3_pointHeight_6 rfl ?_
  refine r_iload_n qX3_pointHeight_7 rfl ?_
  refine r_cs2 (cu2 := 2) (su2 := 12) qX3_pointHeight_8 kX3_182 rfl (by decide +kernel) rfl rfl rfl rfl rfl ?_
  refine c_X3_checkPoint hT3 hU hO hk (fun hq => t_out rfl rfl rfl (by rw [oc3_b hv (fun h => hq (by have h2 := h.2; rw [zk] at h2; exact h2))] at hK; exact hK)) (fun p ep hp => ?_)
  subst ep
  have zp : zn (nI p) = p := zn_nI (by omega)
  have hpv : pv N (nI k) (nI p) := ⟨hv, by rw [zk]; exact tv_mk hp (by omega)⟩
  show zR E _ _ X 11 _ _ _ _ _ _ _
  refine r_aload_n qX3_pointHeight_11 rfl ?_
  refine r_getr qX3_pointHeight_12 fX3_189 rfl (by assumption) (by first | assumption | rfl) ?_
  refine r_iload_n qX3_pointHeight_15 rfl ?_
  refine r_ialdN qX3_pointHeight_16 (by assumption) (by assumption) (by omega) rfl ?_
  rw [(fP p hp).2]
  refine r_iret qX3_pointHeight_17 rfl rfl rfl rfl ?_
  rw [oc3_v hv hpv trivial, zk, zp] at hK; exact hK
set_option maxHeartbeats 4000000 in
set_option maxRecDepth 20000 in
theorem c_X3_dipRefusal {E : Ev} {g : Sh} {i : Ni} {j : Nj} {K : Kp} {c : Nat} {a : Nat → Nat} {N : Nat → Int32} {t v : Int32} (hX : zX3 g c a) (hH : zH i a N) (hK : K (oc3 (tv (N 5) t ∧ tv (N 4) v) (True) (True) 2 0 0 (.int (sDip N (zn t) v))) g i j) : zCon E mX3_dipRefusal [.ref c, .int t, .int v] g i j K := by
  refine zcon_of (by decide +kernel) rfl rfl (lo := [.ref c, .int t, .int v, zJ]) rfl (fun X => ?_)
  obtain ⟨x1, x2, hC⟩ := id hX
  have hO := hH.1
  obtain ⟨a1, a2, a3, a4, a5, a6, a7, a8, a9, a10, a11, a12, a13, a14, a15, a16, -⟩ := id hC
  obtain ⟨c5, c6, c7, c8, c9, c10, c11, c12⟩ := hH.cnt
  obtain ⟨hT, hT8⟩ := hO.T8
  obtain ⟨hS, hS5⟩ := hO.S5
  obtain ⟨hBt, hB4⟩ := hO.B4
  refine r_aload_n qX3_dipRefusal_0 rfl ?_
  refine r_iload_n qX3_dipRefusal_1 rfl ?_
  refine r_cv1 (cu2 := 1) (su2 := 6) qX3_dipRefusal_2 kX3_141 rfl (by decide +kernel) (c := 3) (by assumption) (by decide) rfl rfl rfl rfl rfl rfl ?_
  refine c_X3_checkedTube hX hH (fun hv => t_out rfl rfl rfl (by rw [oc3_a (fun h => hv h.1)] at hK; exact hK)) (fun k ek hk => ?_)
  subst ek
  have hv := tv_mk hk (by have := hO.k8 hk; omega)
  have h8 := hO.k8 hk
  have zk : zn (nI k) = k := zn_nI (by omega)
  obtain ⟨tb1, hT3⟩ := hC.tb h8
  have u1 := hT3.1
  have hU := hH.tu hk
  obtain ⟨f0, f3, f4, f6, f7, f8, f9, f10, f11, f12, f13, fP⟩ := id hU
  obtain ⟨hm, hm6⟩ := hO.many hk
  show zR E _ _ X 5 _ _ _ _ _ _ _
  refine r_as_4_3 qX3_dipRefusal_5 rfl rfl ?_
  refine r_aload_n qX3_dipRefusal_6 rfl ?_
  refine r_iload_n qX3_dipRefusal_7 rfl ?_
  refine r_cv1 (cu2 := 2) (su2 := 12) qX3_dipRefusal_8 kX3_113 rfl (by decide +kernel) (c := 3) (by assumption) (by decide) rfl rfl rfl rfl rfl rfl ?_
  refine c_X3_checkBath hX hH (fun hv2 => t_out rfl rfl rfl (by rw [oc3_a (fun h => hv2 h.2)] at hK; exact hK)) (fun b eb hb => ?_)
  subst eb
  have hv2 := tv_mk hb (by omega)
  show zR E _ _ X 11 _ _ _ _ _ _ _
  refine r_aload_n qX3_dipRefusal_11 rfl ?_
  refine r_getr qX3_dipRefusal_12 fX3_40 rfl (by assumption) (by first | assumption | rfl) ?_
  refine r_aload_n qX3_dipRefusal_15 rfl ?_
  refine r_iload_n qX3_dipRefusal_16 rfl ?_
  refine r_cv2 (cu2 := 2) (su2 := 12) qX3_dipRefusal_17 kX3_209 rfl (by decide +kernel) (c := 0) (by assumption) (by decide) rfl rfl rfl rfl rfl rfl ?_
  refine c_X0_whyNotDip hC hH hk ?_
  show zR E _ _ X 20 _ _ _ _ _ _ _
  refine r_iret qX3_dipRefusal_20 rfl rfl rfl rfl ?_
  rw [oc3_v ⟨hv, hv2⟩ trivial trivial, zk] at hK; exact hK
set_option maxHeartbeats 4000000 in
set_option maxRecDepth 20000 in
theorem c_X3_bathDegrees {E : Ev} {g : Sh} {i : Ni} {j : Nj} {K : Kp} {c : Nat} {a : Nat → Nat} {N : Nat → Int32} {t : Int32} (hX : zX3 g c a) (hH : zH i a N) (hK : K (oc3 (tv (N 4) t) (True) (True) 2 0 0 (.int (N (30 + 3 * zn t + 2)))) g i j) : zCon E mX3_bathDegrees [.ref c, .int t] g i j K := by
  refine zcon_of (by decide +kernel) rfl rfl (lo := [.ref c, .int t]) rfl (fun X => ?_)
  obtain ⟨x1, x2, hC⟩ := id hX
  have hO := hH.1
  obtain ⟨a1, a2, a3, a4, a5, a6, a7, a8, a9, a10, a11, a12, a13, a14, a15, a16, -⟩ := id hC
  obtain ⟨c5, c6, c7, c8, c9, c10, c11, c12⟩ := hH.cnt
  obtain ⟨hT, hT8⟩ := hO.T8
  obtain ⟨hS, hS5⟩ := hO.S5
  obtain ⟨hBt, hB4⟩ := hO.B4
  refine r_aload_n qX3_bathDegrees_0 rfl ?_
  refine r_iload_n qX3_bathDegrees_1 rfl ?_
  refine r_cv1 (cu2 := 1) (su2 := 6) qX3_bathDegrees_2 kX3_113 rfl (by decide +kernel) (c := 3) (by assumption) (by decide) rfl rfl rfl rfl rfl rfl ?_
  refine c_X3_checkBath hX hH (fun hv => t_out rfl rfl rfl (by rw [oc3_a hv] at hK; exact hK)) (fun k ek hk => ?_)
  subst ek
  have hv := tv_mk hk (by omega)
  have zk : zn (nI k) = k := zn_nI (by omega)
  show zR E _ _ X 5 _ _ _ _ _ _ _
  refine r_aload_n qX3_bathDegrees_5 rfl ?_
  refine r_getr qX3_bathDegrees_6 fX3_40 rfl (by assumption) (by first | assumption | rfl) ?_
  refine r_getr qX3_bathDegrees_9 fX3_116 rfl (by assumption) (by first | assumption | rfl) ?_
  refine r_iload_n qX3_bathDegrees_12 rfl ?_
  refine r_ialdN qX3_bathDegrees_13 (by assumption) (by assumption) (by omega) rfl ?_
  rw [(hH.ba hk).1]
  refine r_iret qX3_bathDegrees_14 rfl rfl rfl rfl ?_
  rw [oc3_v hv trivial trivial, zk] at hK; exact hK
set_option maxHeartbeats 4000000 in
set_option maxRecDepth 20000 in
theorem c_X3_disagreement {E : Ev} {g : Sh} {i : Ni} {j : Nj} {K : Kp} {c : Nat} {a : Nat → Nat} {N : Nat → Int32} {t v : Int32} (hX : zX3 g c a) (hH : zH i a N) (hK : K (oc3 (t2 N t v) (rd N t ∧ rd N v) (True) 2 3 0 (.int (jabs (sRead N (zn t) - sRead N (zn v))))) g i j) : zCon E mX3_disagreement [.ref c, .int t, .int v] g i j K := by
  refine zcon_of (by decide +kernel) rfl rfl (lo := [.ref c, .int t, .int v, zJ, zJ]) rfl (fun X => ?_)
  obtain ⟨x1, x2, hC⟩ := id hX
  have hO := hH.1
  obtain ⟨a1, a2, a3, a4, a5, a6, a7, a8, a9, a10, a11, a12, a13, a14, a15, a16, -⟩ := id hC
  obtain ⟨c5, c6, c7, c8, c9, c10, c11, c12⟩ := hH.cnt
  obtain ⟨hT, hT8⟩ := hO.T8
  obtain ⟨hS, hS5⟩ := hO.S5
  obtain ⟨hBt, hB4⟩ := hO.B4
  refine r_aload_n qX3_disagreement_0 rfl ?_
  refine r_iload_n qX3_disagreement_1 rfl ?_
  refine r_cv1 (cu2 := 1) (su2 := 6) qX3_disagreement_2 kX3_141 rfl (by decide +kernel) (c := 3) (by assumption) (by decide) rfl rfl rfl rfl rfl rfl ?_
  refine c_X3_checkedTube hX hH (fun hv => t_out rfl rfl rfl (by rw [oc3_a (fun h => hv h.1)] at hK; exact hK)) (fun k ek hk => ?_)
  subst ek
  have hv := tv_mk hk (by have := hO.k8 hk; omega)
  have h8 := hO.k8 hk
  have zk : zn (nI k) = k := zn_nI (by omega)
  obtain ⟨tb1, hT3⟩ := hC.tb h8
  have u1 := hT3.1
  have hU := hH.tu hk
  obtain ⟨f0, f3, f4, f6, f7, f8, f9, f10, f11, f12, f13, fP⟩ := id hU
  obtain ⟨hm, hm6⟩ := hO.many hk
  show zR E _ _ X 5 _ _ _ _ _ _ _
  refine r_as_5_3 qX3_disagreement_5 rfl rfl ?_
  refine r_aload_n qX3_disagreement_6 rfl ?_
  refine r_iload_n qX3_disagreement_7 rfl ?_
  refine r_cv1 (cu2 := 2) (su2 := 12) qX3_disagreement_8 kX3_141 rfl (by decide +kernel) (c := 3) (by assumption) (by decide) rfl rfl rfl rfl rfl rfl ?_
  refine c_X3_checkedTube hX hH (fun hv2 => t_out rfl rfl rfl (by rw [oc3_a (fun h => hv2 h.2)] at hK; exact hK)) (fun l el hl => ?_)
  subst el
  have hv2 := tv_mk hl (by have := hO.k8 hl; omega)
  have l8 := hO.k8 hl
  have zl : zn (nI l) = l := zn_nI (by omega)
  obtain ⟨tb2, hT4⟩ := hC.tb l8
  have u2 := hT4.1
  have hU2 := hH.tu hl
  show zR E _ _ X 11 _ _ _ _ _ _ _
  refine r_as_5_4 qX3_disagreement_11 rfl rfl ?_
  refine r_aload_n qX3_disagreement_13 rfl ?_
  refine r_cs1 (cu2 := 3) (su2 := 18) qX3_disagreement_14 kX3_196 rfl (by decide +kernel) rfl rfl rfl rfl rfl ?_
  refine c_X3_checkScale hT3 hU hO hk (fun hs => t_out rfl rfl rfl (by rw [oc3_b ⟨hv, hv2⟩ (fun h => hs (by have h2 := h.1.2; rw [zk] at h2; exact h2))] at hK; exact hK)) (fun hs => ?_)
  show zR E _ _ X 17 _ _ _ _ _ _ _
  refine r_aload qX3_disagreement_17 rfl ?_
  refine r_cs1 (cu2 := 4) (su2 := 24) qX3_disagreement_19 kX3_196 rfl (by decide +kernel) rfl rfl rfl rfl rfl ?_
  refine c_X3_checkScale hT4 hU2 hO hl (fun hs2 => t_out rfl rfl rfl (by rw [oc3_b ⟨hv, hv2⟩ (fun h => hs2 (by have h2 := h.2.2; rw [zl] at h2; exact h2))] at hK; exact hK)) (fun hs2 => ?_)
  show zR E _ _ X 22 _ _ _ _ _ _ _
  refine r_aload_n qX3_disagreement_22 rfl ?_
  refine r_cv0 (cu2 := 4) (su2 := 24) qX3_disagreement_23 kX3_200 rfl (by decide +kernel) (c := 2) (by assumption) (by decide) rfl rfl rfl rfl rfl rfl ?_
  refine c_X2_tenthsRead hT3 hU hO hk hs ?_
  show zR E _ _ X 26 _ _ _ _ _ _ _
  refine r_aload qX3_disagreement_26 rfl ?_
  refine r_cv0 (cu2 := 4) (su2 := 24) qX3_disagreement_28 kX3_200 rfl (by decide +kernel) (c := 2) (by assumption) (by decide) rfl rfl rfl rfl rfl rfl ?_
  refine c_X2_tenthsRead hT4 hU2 hO hl hs2 ?_
  show zR E _ _ X 31 _ _ _ _ _ _ _
  refine r_isub qX3_disagreement_31 ?_
  refine r_mabs qX3_disagreement_32 kX3_216 rfl rfl rfl rfl ?_
  refine r_iret qX3_disagreement_35 rfl rfl rfl rfl ?_
  rw [oc3_v ⟨hv, hv2⟩ ⟨⟨hv, by rw [zk]; exact hs⟩, ⟨hv2, by rw [zl]; exact hs2⟩⟩ trivial, zk, zl] at hK; exact hK
set_option maxHeartbeats 4000000 in
set_option maxRecDepth 20000 in
theorem c_X3_minute {E : Ev} {g : Sh} {i : Ni} {j : Nj} {K : Kp} {c : Nat} {a : Nat → Nat} {N : Nat → Int32} (hX : zX3 g c a) (hH : zH i a N) (hK : K (.inl (some (.int (N 2)))) g i j) : zCon E mX3_minute [.ref c] g i j K := by
  refine zcon_of (by decide +kernel) rfl rfl (lo := [.ref c]) rfl (fun X => ?_)
  obtain ⟨x1, x2, hC⟩ := id hX
  have hO := hH.1
  obtain ⟨a1, a2, a3, a4, a5, a6, a7, a8, a9, a10, a11, a12, a13, a14, a15, a16, -⟩ := id hC
  obtain ⟨c5, c6, c7, c8, c9, c10, c11, c12⟩ := hH.cnt
  obtain ⟨hT, hT8⟩ := hO.T8
  obtain ⟨hS, hS5⟩ := hO.S5
  obtain ⟨hBt, hB4⟩ := hO.B4
  refine r_aload_n qX3_minute_0 rfl ?_
  refine r_getr qX3_minute_1 fX3_40 rfl (by assumption) (by first | assumption | rfl) ?_
  refine r_geti qX3_minute_4 fX3_107 rfl (by assumption) ?_
  rw [c8]
  refine r_iret qX3_minute_7 rfl rfl rfl rfl ?_
  exact hK
set_option maxHeartbeats 4000000 in
set_option maxRecDepth 20000 in
theorem c_X3_roomDegrees {E : Ev} {g : Sh} {i : Ni} {j : Nj} {K : Kp} {c : Nat} {a : Nat → Nat} {N : Nat → Int32} (hX : zX3 g c a) (hH : zH i a N) (hK : K (.inl (some (.int (N 0)))) g i j) : zCon E mX3_roomDegrees [.ref c] g i j K := by
  refine zcon_of (by decide +kernel) rfl rfl (lo := [.ref c]) rfl (fun X => ?_)
  obtain ⟨x1, x2, hC⟩ := id hX
  have hO := hH.1
  obtain ⟨a1, a2, a3, a4, a5, a6, a7, a8, a9, a10, a11, a12, a13, a14, a15, a16, -⟩ := id hC
  obtain ⟨c5, c6, c7, c8, c9, c10, c11, c12⟩ := hH.cnt
  obtain ⟨hT, hT8⟩ := hO.T8
  obtain ⟨hS, hS5⟩ := hO.S5
  obtain ⟨hBt, hB4⟩ := hO.B4
  refine r_aload_n qX3_roomDegrees_0 rfl ?_
  refine r_getr qX3_roomDegrees_1 fX3_40 rfl (by assumption) (by first | assumption | rfl) ?_
  refine r_geti qX3_roomDegrees_4 fX3_110 rfl (by assumption) ?_
  rw [c9]
  refine r_iret qX3_roomDegrees_7 rfl rfl rfl rfl ?_
  exact hK
set_option maxHeartbeats 4000000 in
set_option maxRecDepth 20000 in
theorem c_X3_thumbedTube {E : Ev} {g : Sh} {i : Ni} {j : Nj} {K : Kp} {c : Nat} {a : Nat → Nat} {N : Nat → Int32} (hX : zX3 g c a) (hH : zH i a N) (hK : K (.inl (some (.int (N 6)))) g i j) : zCon E mX3_thumbedTube [.ref c] g i j K := by
  refine zcon_of (by decide +kernel) rfl rfl (lo := [.ref c]) rfl (fun X => ?_)
  obtain ⟨x1, x2, hC⟩ := id hX
  have hO := hH.1
  obtain ⟨a1, a2, a3, a4, a5, a6, a7, a8, a9, a10, a11, a12, a13, a14, a15, a16, -⟩ := id hC
  obtain ⟨c5, c6, c7, c8, c9, c10, c11, c12⟩ := hH.cnt
  obtain ⟨hT, hT8⟩ := hO.T8
  obtain ⟨hS, hS5⟩ := hO.S5
  obtain ⟨hBt, hB4⟩ := hO.B4
  refine r_aload_n qX3_thumbedTube_0 rfl ?_
  refine r_getr qX3_thumbedTube_1 fX3_40 rfl (by assumption) (by first | assumption | rfl) ?_
  refine r_geti qX3_thumbedTube_4 fX3_173 rfl (by assumption) ?_
  rw [c11]
  refine r_iret qX3_thumbedTube_7 rfl rfl rfl rfl ?_
  exact hK
set_option maxHeartbeats 4000000 in
set_option maxRecDepth 20000 in
theorem c_X3_thumbLeft {E : Ev} {g : Sh} {i : Ni} {j : Nj} {K : Kp} {c : Nat} {a : Nat → Nat} {N : Nat → Int32} (hX : zX3 g c a) (hH : zH i a N) (hK : K (.inl (some (.int (N 7)))) g i j) : zCon E mX3_thumbLeft [.ref c] g i j K := by
  refine zcon_of (by decide +kernel) rfl rfl (lo := [.ref c]) rfl (fun X => ?_)
  obtain ⟨x1, x2, hC⟩ := id hX
  have hO := hH.1
  obtain ⟨a1, a2, a3, a4, a5, a6, a7, a8, a9, a10, a11, a12, a13, a14, a15, a16, -⟩ := id hC
  obtain ⟨c5, c6, c7, c8, c9, c10, c11, c12⟩ := hH.cnt
  obtain ⟨hT, hT8⟩ := hO.T8
  obtain ⟨hS, hS5⟩ := hO.S5
  obtain ⟨hBt, hB4⟩ := hO.B4
  refine r_aload_n qX3_thumbLeft_0 rfl ?_
  refine r_getr qX3_thumbLeft_1 fX3_40 rfl (by assumption) (by first | assumption | rfl) ?_
  refine r_geti qX3_thumbLeft_4 fX3_176 rfl (by assumption) ?_
  rw [c12]
  refine r_iret qX3_thumbLeft_7 rfl rfl rfl rfl ?_
  exact hK


