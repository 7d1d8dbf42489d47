theorem n64_mean (N : Nat → Int32) (h : zOk N) : vf_n64 (sMean N (zn (N 5))) := by
  have h8 := h.T8.2
  rw [sMean]
  split
  · show FP.dconst0 &&& 0x7fffffffffffffff ≤ 0x7ff0000000000000
    decide +kernel
  · rename_i h0
    obtain ⟨S, e, hS⟩ := sHighs_in h (zn (N 5)) (Nat.le_refl _)
    rw [e]
    exact nf64 (by omega) h8 h0
theorem lc_48 {E : Ev} {Z : Fx → State → Prop} {X : Fx} {g : Sh} {i : Ni} {j : Nj} {CU SU q bb L0 : Nat} {xs : Nat → Int32} {c rd tx ur sl sf sb : Nat} {A : Nat → Nat → Nat} {x n d b p s o ol : Nat} (hX : zScr E X bb L0 xs) (hq : q + 6 ≤ L0) (hL : L0 ≤ 3072) (hCU : CU + 14 ≤ 601024) (hSU : SU + 1046 ≤ 7293034) (hI : iInv g i j c rd tx ur sl sf sb A x n d b p s o ol) (KN : lawN E Z X CU SU q bb c rd tx ur sl sf sb A x n d b p s o ol) : zR E mL_law Z X 2618 [.ref (bb + 1), .ref c, .ref x, .ref ol, .int (nI q), zJ, zJ, zJ, zJ] [] g i j CU SU := by
  obtain ⟨hS, u, w, L, O, hN⟩ := hI
  have hY := hS.y
  have hW := hS.ww
  have hX3 : zX3 g c (A 0) := hY.x
  have hB : zB g i x n d b p s o := ⟨hW, hS.r3, hN.1.1⟩
  have hH : zH i (A 0) (i n) := hN.1.2.1
  have w1 := hW.1
  have x1 := hS.kc
  have o1 := hS.oo
  have o11 := o1.1
  have jx := hS.jx
  have hT8 := hN.1.1.T8.2
  have nz : vf_n64 (FP.f2d (sShare (i n) (zn (i n 5)))) := nfd_share (i n) hT8
  refine r_aload_n qL_law_2618 rfl ?_
  refine r_cv0 (cu2 := CU) (su2 := SU) qL_law_2619 kW_339 rfl (by decide +kernel) (c := 3) (by assumption) (by decide) rfl rfl rfl rfl (lbc (by omega)) (lbs (by omega)) ?_
  refine c_X3_settledShare hX3 hH ?_
  show zR E _ _ X 2622 _ _ _ _ _ _ _
  refine r_f2d qL_law_2622 nz ?_
  refine r_ds_9_5 qL_law_2623 rfl rfl ?_
  refine r_aload_n qL_law_2625 rfl ?_
  refine r_cv0 (cu2 := CU) (su2 := SU) qL_law_2626 kW_343 rfl (by decide +kernel) (c := 4) (by assumption) (by decide) rfl rfl rfl rfl (lbc (by omega)) (lbs (by omega)) ?_
  refine c_X4_settledShare hB ?_
  show zR E _ _ X 2629 _ _ _ _ _ _ _
  refine r_f2d qL_law_2629 nz ?_
  refine r_ds_9_7 qL_law_2630 rfl rfl ?_
  refine r_dload qL_law_2632 rfl ?_
  refine r_dload qL_law_2634 rfl ?_
  refine r_dcmp qL_law_2636 ?_
  refine r_if_eq (t := 2658) qL_law_2637 (by decide) (fun hc2637 => ?_) (fun hc2637 => absurd hc2637 (fun h => h (dc_refl nz _)))
  refine r_goto (t := 3557) qL_law_2658 (by decide) ?_
  exact KN _ _ _ _ _ _ _ _ _ (by omega) (by omega) ⟨hS, _, _, _, _, hN.ask0 hS rfl⟩
theorem lc_49 {E : Ev} {Z : Fx → State → Prop} {X : Fx} {g : Sh} {i : Ni} {j : Nj} {CU SU q bb L0 : Nat} {xs : Nat → Int32} {c rd tx ur sl sf sb : Nat} {A : Nat → Nat → Nat} {x n d b p s o ol : Nat} (hX : zScr E X bb L0 xs) (hq : q + 6 ≤ L0) (hL : L0 ≤ 3072) (hCU : CU + 14 ≤ 601024) (hSU : SU + 1046 ≤ 7293034) (hI : iInv g i j c rd tx ur sl sf sb A x n d b p s o ol) (KN : lawN E Z X CU SU q bb c rd tx ur sl sf sb A x n d b p s o ol) : zR E mL_law Z X 2661 [.ref (bb + 1), .ref c, .ref x, .ref ol, .int (nI q), zJ, zJ, zJ, zJ] [] g i j CU SU := by
  obtain ⟨hS, u, w, L, O, hN⟩ := hI
  have hY := hS.y
  have hW := hS.ww
  have hX3 : zX3 g c (A 0) := hY.x
  have hB : zB g i x n d b p s o := ⟨hW, hS.r3, hN.1.1⟩
  have hH : zH i (A 0) (i n) := hN.1.2.1
  have w1 := hW.1
  have x1 := hS.kc
  have o1 := hS.oo
  have o11 := o1.1
  have jx := hS.jx
  have hT8 := hN.1.1.T8.2
  have nz : vf_n64 (sMean (i n) (zn (i n 5))) := n64_mean (i n) hN.1.1
  refine r_aload_n qL_law_2661 rfl ?_
  refine r_cv0 (cu2 := CU) (su2 := SU) qL_law_2662 kW_344 rfl (by decide +kernel) (c := 3) (by assumption) (by decide) rfl rfl rfl rfl (lbc (by omega)) (lbs (by omega)) ?_
  refine c_X3_meanHeight hX3 hH ?_
  show zR E _ _ X 2665 _ _ _ _ _ _ _
  refine r_ds_9_5 qL_law_2665 rfl rfl ?_
  refine r_aload_n qL_law_2667 rfl ?_
  refine r_cv0 (cu2 := CU) (su2 := SU) qL_law_2668 kW_348 rfl (by decide +kernel) (c := 4) (by assumption) (by decide) rfl rfl rfl rfl (lbc (by omega)) (lbs (by omega)) ?_
  refine c_X4_meanHeight hB ?_
  show zR E _ _ X 2671 _ _ _ _ _ _ _
  refine r_ds_9_7 qL_law_2671 rfl rfl ?_
  refine r_dload qL_law_2673 rfl ?_
  refine r_dload qL_law_2675 rfl ?_
  refine r_dcmp qL_law_2677 ?_
  refine r_if_eq (t := 2699) qL_law_2678 (by decide) (fun hc2678 => ?_) (fun hc2678 => absurd hc2678 (fun h => h (dc_refl nz _)))
  refine r_goto (t := 3557) qL_law_2699 (by decide) ?_
  exact KN _ _ _ _ _ _ _ _ _ (by omega) (by omega) ⟨hS, _, _, _, _, hN.ask0 hS rfl⟩

