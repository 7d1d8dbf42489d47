/-! ===== THE LAW'S CASES ===== -/
theorem lc_3 {E : Ev} {Z : Fx → State → Prop} {X : Fx} {g : Sh} {i : Ni} {j : Nj} {CU SU q bb L0 : Nat} {xs : Nat → Int32} {c rd tx ur sl sf sb : Nat} {A : Nat → Nat → Nat} {x n d b p s o ol : Nat} (hX : zScr E X bb L0 xs) (hq : q + 6 ≤ L0) (hL : L0 ≤ 3072) (hCU : CU + 14 ≤ 601024) (hSU : SU + 1046 ≤ 7293034) (hI : iInv g i j c rd tx ur sl sf sb A x n d b p s o ol) (KN : lawN E Z X CU SU q bb c rd tx ur sl sf sb A x n d b p s o ol) : zR E mL_law Z X 485 [.ref (bb + 1), .ref c, .ref x, .ref ol, .int (nI q), zJ, zJ, zJ, zJ] [] g i j CU SU := by
  obtain ⟨hS, u, w, L, O, hN⟩ := hI
  have hY := hS.y
  have hW := hS.ww
  have hX3 : zX3 g c (A 0) := hY.x
  have hB : zB g i x n d b p s o := ⟨hW, hS.r3, hN.1.1⟩
  have hH : zH i (A 0) (i n) := hN.1.2.1
  have w1 := hW.1
  have x1 := hS.kc
  have o1 := hS.oo
  have o11 := o1.1
  have jx := hS.jx
  refine r_aload_n qL_law_485 rfl ?_
  refine r_cv0 (cu2 := CU) (su2 := SU) qL_law_486 kW_191 rfl (by decide +kernel) (c := 3) (by assumption) (by decide) rfl rfl rfl rfl (lbc (by omega)) (lbs (by omega)) ?_
  refine c_X3_errorCode x1 ?_
  show zR E _ _ X 489 _ _ _ _ _ _ _
  refine r_aload_n qL_law_489 rfl ?_
  refine r_cv0 (cu2 := CU) (su2 := SU) qL_law_490 kW_194 rfl (by decide +kernel) (c := 4) (by assumption) (by decide) rfl rfl rfl rfl (lbc (by omega)) (lbs (by omega)) ?_
  refine c_X4_errorCode hW ?_
  show zR E _ _ X 493 _ _ _ _ _ _ _
  refine r_icmp_eq (t := 3557) qL_law_493 (by decide) (fun hc493 => ?_) (fun hc493 => absurd hc493 (fun h => h (hN.2.2.2.1.1)))
  exact KN _ _ _ _ _ _ _ _ _ (by omega) (by omega) ⟨hS, _, _, _, _, hN.ask0 hS rfl⟩
theorem lc_4 {E : Ev} {Z : Fx → State → Prop} {X : Fx} {g : Sh} {i : Ni} {j : Nj} {CU SU q bb L0 : Nat} {xs : Nat → Int32} {c rd tx ur sl sf sb : Nat} {A : Nat → Nat → Nat} {x n d b p s o ol : Nat} (hX : zScr E X bb L0 xs) (hq : q + 6 ≤ L0) (hL : L0 ≤ 3072) (hCU : CU + 14 ≤ 601024) (hSU : SU + 1046 ≤ 7293034) (hI : iInv g i j c rd tx ur sl sf sb A x n d b p s o ol) (KN : lawN E Z X CU SU q bb c rd tx ur sl sf sb A x n d b p s o ol) : zR E mL_law Z X 498 [.ref (bb + 1), .ref c, .ref x, .ref ol, .int (nI q), zJ, zJ, zJ, zJ] [] g i j CU SU := by
  obtain ⟨hS, u, w, L, O, hN⟩ := hI
  have hY := hS.y
  have hW := hS.ww
  have hX3 : zX3 g c (A 0) := hY.x
  have hB : zB g i x n d b p s o := ⟨hW, hS.r3, hN.1.1⟩
  have hH : zH i (A 0) (i n) := hN.1.2.1
  have w1 := hW.1
  have x1 := hS.kc
  have o1 := hS.oo
  have o11 := o1.1
  have jx := hS.jx
  refine r_aload_n qL_law_498 rfl ?_
  refine r_cv0 (cu2 := CU) (su2 := SU) qL_law_499 kW_195 rfl (by decide +kernel) (c := 3) (by assumption) (by decide) rfl rfl rfl rfl (lbc (by omega)) (lbs (by omega)) ?_
  refine c_X3_errorOffset x1 ?_
  show zR E _ _ X 502 _ _ _ _ _ _ _
  refine r_aload_n qL_law_502 rfl ?_
  refine r_cv0 (cu2 := CU) (su2 := SU) qL_law_503 kW_198 rfl (by decide +kernel) (c := 4) (by assumption) (by decide) rfl rfl rfl rfl (lbc (by omega)) (lbs (by omega)) ?_
  refine c_X4_errorOffset hW ?_
  show zR E _ _ X 506 _ _ _ _ _ _ _
  refine r_icmp_eq (t := 3557) qL_law_506 (by decide) (fun hc506 => ?_) (fun hc506 => absurd hc506 (fun h => h (hN.2.2.2.1.2)))
  exact KN _ _ _ _ _ _ _ _ _ (by omega) (by omega) ⟨hS, _, _, _, _, hN.ask0 hS rfl⟩
theorem lc_5 {E : Ev} {Z : Fx → State → Prop} {X : Fx} {g : Sh} {i : Ni} {j : Nj} {CU SU q bb L0 : Nat} {xs : Nat → Int32} {c rd tx ur sl sf sb : Nat} {A : Nat → Nat → Nat} {x n d b p s o ol : Nat} (hX : zScr E X bb L0 xs) (hq : q + 6 ≤ L0) (hL : L0 ≤ 3072) (hCU : CU + 14 ≤ 601024) (hSU : SU + 1046 ≤ 7293034) (hI : iInv g i j c rd tx ur sl sf sb A x n d b p s o ol) (KN : lawN E Z X CU SU q bb c rd tx ur sl sf sb A x n d b p s o ol) : zR E mL_law Z X 511 [.ref (bb + 1), .ref c, .ref x, .ref ol, .int (nI q), zJ, zJ, zJ, zJ] [] g i j CU SU := by
  obtain ⟨hS, u, w, L, O, hN⟩ := hI
  have hY := hS.y
  have hW := hS.ww
  have hX3 : zX3 g c (A 0) := hY.x
  have hB : zB g i x n d b p s o := ⟨hW, hS.r3, hN.1.1⟩
  have hH : zH i (A 0) (i n) := hN.1.2.1
  have w1 := hW.1
  have x1 := hS.kc
  have o1 := hS.oo
  have o11 := o1.1
  have jx := hS.jx
  refine r_aload_n qL_law_511 rfl ?_
  refine r_cv0 (cu2 := CU) (su2 := SU) qL_law_512 kW_199 rfl (by decide +kernel) (c := 3) (by assumption) (by decide) rfl rfl rfl rfl (lbc (by omega)) (lbs (by omega)) ?_
  refine c_X3_minute hX3 hH ?_
  show zR E _ _ X 515 _ _ _ _ _ _ _
  refine r_aload_n qL_law_515 rfl ?_
  refine r_cv0 (cu2 := CU) (su2 := SU) qL_law_516 kW_202 rfl (by decide +kernel) (c := 4) (by assumption) (by decide) rfl rfl rfl rfl (lbc (by omega)) (lbs (by omega)) ?_
  refine c_X4_minute hW ?_
  show zR E _ _ X 519 _ _ _ _ _ _ _
  refine r_icmp_eq (t := 3557) qL_law_519 (by decide) (fun hc519 => ?_) (fun hc519 => absurd hc519 (fun h => h rfl))
  exact KN _ _ _ _ _ _ _ _ _ (by omega) (by omega) ⟨hS, _, _, _, _, hN.ask0 hS rfl⟩
theorem lc_6 {E : Ev} {Z : Fx → State → Prop} {X : Fx} {g : Sh} {i : Ni} {j : Nj} {CU SU q bb L0 : Nat} {xs : Nat → Int32} {c rd tx ur sl sf sb : Nat} {A : Nat → Nat → Nat} {x n d b p s o ol : Nat} (hX : zScr E X bb L0 xs) (hq : q + 6 ≤ L0) (hL : L0 ≤ 3072) (hCU : CU + 14 ≤ 601024) (hSU : SU + 1046 ≤ 7293034) (hI : iInv g i j c rd tx ur sl sf sb A x n d b p s o ol) (KN : lawN E Z X CU SU q bb c rd tx ur sl sf sb A x n d b p s o ol) : zR E mL_law Z X 524 [.ref (bb + 1), .ref c, .ref x, .ref ol, .int (nI q), zJ, zJ, zJ, zJ] [] g i j CU SU := by
  obtain ⟨hS, u, w, L, O, hN⟩ := hI
  have hY := hS.y
  have hW := hS.ww
  have hX3 : zX3 g c (A 0) := hY.x
  have hB : zB g i x n d b p s o := ⟨hW, hS.r3, hN.1.1⟩
  have hH : zH i (A 0) (i n) := hN.1.2.1
  have w1 := hW.1
  have x1 := hS.kc
  have o1 := hS.oo
  have o11 := o1.1
  have jx := hS.jx
  refine r_aload_n qL_law_524 rfl ?_
  refine r_cv0 (cu2 := CU) (su2 := SU) qL_law_525 kW_203 rfl (by decide +kernel) (c := 3) (by assumption) (by decide) rfl rfl rfl rfl (lbc (by omega)) (lbs (by omega)) ?_
  refine c_X3_roomDegrees hX3 hH ?_
  show zR E _ _ X 528 _ _ _ _ _ _ _
  refine r_aload_n qL_law_528 rfl ?_
  refine r_cv0 (cu2 := CU) (su2 := SU) qL_law_529 kW_206 rfl (by decide +kernel) (c := 4) (by assumption) (by decide) rfl rfl rfl rfl (lbc (by omega)) (lbs (by omega)) ?_
  refine c_X4_roomDegrees hW ?_
  show zR E _ _ X 532 _ _ _ _ _ _ _
  refine r_icmp_eq (t := 3557) qL_law_532 (by decide) (fun hc532 => ?_) (fun hc532 => absurd hc532 (fun h => h rfl))
  exact KN _ _ _ _ _ _ _ _ _ (by omega) (by omega) ⟨hS, _, _, _, _, hN.ask0 hS rfl⟩
theorem lc_7 {E : Ev} {Z : Fx → State → Prop} {X : Fx} {g : Sh} {i : Ni} {j : Nj} {CU SU q bb L0 : Nat} {xs : Nat → Int32} {c rd tx ur sl sf sb : Nat} {A : Nat → Nat → Nat} {x n d b p s o ol : Nat} (hX : zScr E X bb L0 xs) (hq : q + 6 ≤ L0) (hL : L0 ≤ 3072) (hCU : CU + 14 ≤ 601024) (hSU : SU + 1046 ≤ 7293034) (hI : iInv g i j c rd tx ur sl sf sb A x n d b p s o ol) (KN : lawN E Z X CU SU q bb c rd tx ur sl sf sb A x n d b p s o ol) : zR E mL_law Z X 537 [.ref (bb + 1), .ref c, .ref x, .ref ol, .int (nI q), zJ, zJ, zJ, zJ] [] g i j CU SU := by
  obtain ⟨hS, u, w, L, O, hN⟩ := hI
  have hY := hS.y
  have hW := hS.ww
  have hX3 : zX3 g c (A 0) := hY.x
  have hB : zB g i x n d b p s o := ⟨hW, hS.r3, hN.1.1⟩
  have hH : zH i (A 0) (i n) := hN.1.2.1
  have w1 := hW.1
  have x1 := hS.kc
  have o1 := hS.oo
  have o11 := o1.1
  have jx := hS.jx
  refine r_aload_n qL_law_537 rfl ?_
  refine r_aload_n qL_law_538 rfl ?_
  refine r_iload qL_law_539 rfl ?_
  refine r_iconst (v := nI 1) qL_law_541 (by decide) ?_
  first | with_reducible refine r_iaddN qL_law_542 ?_ | refine r_iadd qL_law_542 ?_
  refine r_sld hX qL_law_543 (by omega) hL ?_
  refine r_aload_n qL_law_544 rfl ?_
  refine r_cH3 (cu2 := CU + 1) (su2 := SU + 6) qL_law_545 kW_207 rfl (by decide +kernel) rfl rfl rfl (lbc (by omega)) (lbs (by omega)) ?_
  refine c_L_bathDegrees x1 (fun K1 hK1 => c_X3_bathDegrees hX3 hH (hK1 _ _ _ _ (lk3 o1 (by first | exact Or.inr rfl | exact Or.inl trivial) (by first | exact Or.inr rfl | exact Or.inl trivial) (by first | exact Or.inr rfl | exact Or.inl trivial) (fun j1 hj1 hj1n => ?_))))
  show zR E _ _ X 548 _ _ _ _ _ _ _
  refine r_is_9_5 qL_law_548 rfl rfl ?_
  refine r_aload_n qL_law_550 rfl ?_
  refine r_aload_n qL_law_551 rfl ?_
  refine r_iload qL_law_552 rfl ?_
  refine r_iconst (v := nI 1) qL_law_554 (by decide) ?_
  first | with_reducible refine r_iaddN qL_law_555 ?_ | refine r_iadd qL_law_555 ?_
  refine r_sld hX qL_law_556 (by omega) hL ?_
  refine r_cv1 (cu2 := CU + 1) (su2 := SU + 6) qL_law_557 kW_209 rfl (by decide +kernel) (c := 4) (by assumption) (by decide) rfl rfl rfl rfl (lbc (by omega)) (lbs (by omega)) ?_
  refine c_X4_bathDegrees hB ?_
  show zR E _ _ X 560 _ _ _ _ _ _ _
  refine r_is_9_6 qL_law_560 rfl rfl ?_
  refine r_aload_n qL_law_562 rfl ?_
  refine r_cv0 (cu2 := CU + 1) (su2 := SU + 6) qL_law_563 kW_180 rfl (by decide +kernel) (c := 4) (by assumption) (by decide) rfl rfl rfl rfl (lbc (by omega)) (lbs (by omega)) ?_
  refine c_X4_thrown w1 ?_
  rw [wA_s, pk_us]
  show zR E _ _ X 566 _ _ _ _ _ _ _
  refine r_iload qL_law_566 rfl ?_
  refine r_icmp_eq (t := 573) qL_law_568 (by decide) (fun hc568 => ?_) (fun hc568 => absurd hc568 (fun h => h rfl))
  refine r_iload qL_law_573 rfl ?_
  refine r_if_ne (t := 590) qL_law_575 (by decide) (fun hc575 => ?_) (fun hc575 => ?_)
  · refine r_goto (t := 3557) qL_law_590 (by decide) ?_
    exact KN _ _ _ _ _ _ _ _ _ (by omega) (by omega) ⟨hS, _, _, _, _, hN.ask0 hS (hj1n _ jx)⟩
  · have hABC := c3_z0 hc575
    refine r_aload_n qL_law_578 rfl ?_
    refine r_iconst (v := nI 0) qL_law_579 (by decide) ?_
    refine r_lald qL_law_580 (by assumption) (in_0 o1.2) ?_
    refine r_iload qL_law_581 rfl ?_
    refine r_i2l qL_law_583 ?_
    refine r_lcmp qL_law_584 ?_
    refine r_if_eq (t := 590) qL_law_585 (by decide) (fun hc585 => ?_) (fun hc585 => absurd hc585 (fun h => h ((lg_cmp_eq _ _).mpr ((hj1 hABC).trans (by rw [if_pos (by first | exact hABC.1 | exact ⟨hABC.1, hABC.2.1⟩ | exact hABC)])))))
    refine r_goto (t := 3557) qL_law_590 (by decide) ?_
    exact KN _ _ _ _ _ _ _ _ _ (by omega) (by omega) ⟨hS, _, _, _, _, hN.ask0 hS (hj1n _ jx)⟩
theorem lc_8 {E : Ev} {Z : Fx → State → Prop} {X : Fx} {g : Sh} {i : Ni} {j : Nj} {CU SU q bb L0 : Nat} {xs : Nat → Int32} {c rd tx ur sl sf sb : Nat} {A : Nat → Nat → Nat} {x n d b p s o ol : Nat} (hX : zScr E X bb L0 xs) (hq : q + 6 ≤ L0) (hL : L0 ≤ 3072) (hCU : CU + 14 ≤ 601024) (hSU : SU + 1046 ≤ 7293034) (hI : iInv g i j c rd tx ur sl sf sb A x n d b p s o ol) (KN : lawN E Z X CU SU q bb c rd tx ur sl sf sb A x n d b p s o ol) : zR E mL_law Z X 593 [.ref (bb + 1), .ref c, .ref x, .ref ol, .int (nI q), zJ, zJ, zJ, zJ] [] g i j CU SU := by
  obtain ⟨hS, u, w, L, O, hN⟩ := hI
  have hY := hS.y
  have hW := hS.ww
  have hX3 : zX3 g c (A 0) := hY.x
  have hB : zB g i x n d b p s o := ⟨hW, hS.r3, hN.1.1⟩
  have hH : zH i (A 0) (i n) := hN.1.2.1
  have w1 := hW.1
  have x1 := hS.kc
  have o1 := hS.oo
  have o11 := o1.1
  have jx := hS.jx
  refine r_aload_n qL_law_593 rfl ?_
  refine r_aload_n qL_law_594 rfl ?_
  refine r_iload qL_law_595 rfl ?_
  refine r_iconst (v := nI 1) qL_law_597 (by decide) ?_
  first | with_reducible refine r_iaddN qL_law_598 ?_ | refine r_iadd qL_law_598 ?_
  refine r_sld hX qL_law_599 (by omega) hL ?_
  refine r_aload_n qL_law_600 rfl ?_
  refine r_cH3 (cu2 := CU + 1) (su2 := SU + 6) qL_law_601 kW_210 rfl (by decide +kernel) rfl rfl rfl (lbc (by omega)) (lbs (by omega)) ?_
  refine c_L_tubesIn x1 (fun K1 hK1 => c_X3_tubesIn hX3 hH (hK1 _ _ _ _ (lk3 o1 (by first | exact Or.inr rfl | exact Or.inl trivial) (by first | exact Or.inr rfl | exact Or.inl trivial) (by first | exact Or.inr rfl | exact Or.inl trivial) (fun j1 hj1 hj1n => ?_))))
  show zR E _ _ X 604 _ _ _ _ _ _ _
  refine r_is_9_5 qL_law_604 rfl rfl ?_
  refine r_aload_n qL_law_606 rfl ?_
  refine r_aload_n qL_law_607 rfl ?_
  refine r_iload qL_law_608 rfl ?_
  refine r_iconst (v := nI 1) qL_law_610 (by decide) ?_
  first | with_reducible refine r_iaddN qL_law_611 ?_ | refine r_iadd qL_law_611 ?_
  refine r_sld hX qL_law_612 (by omega) hL ?_
  refine r_cv1 (cu2 := CU + 1) (su2 := SU + 6) qL_law_613 kW_212 rfl (by decide +kernel) (c := 4) (by assumption) (by decide) rfl rfl rfl rfl (lbc (by omega)) (lbs (by omega)) ?_
  refine c_X4_tubesIn hB ?_
  show zR E _ _ X 616 _ _ _ _ _ _ _
  refine r_is_9_6 qL_law_616 rfl rfl ?_
  refine r_aload_n qL_law_618 rfl ?_
  refine r_cv0 (cu2 := CU + 1) (su2 := SU + 6) qL_law_619 kW_180 rfl (by decide +kernel) (c := 4) (by assumption) (by decide) rfl rfl rfl rfl (lbc (by omega)) (lbs (by omega)) ?_
  refine c_X4_thrown w1 ?_
  rw [wA_s, pk_us]
  show zR E _ _ X 622 _ _ _ _ _ _ _
  refine r_iload qL_law_622 rfl ?_
  refine r_icmp_eq (t := 629) qL_law_624 (by decide) (fun hc624 => ?_) (fun hc624 => absurd hc624 (fun h => h rfl))
  refine r_iload qL_law_629 rfl ?_
  refine r_if_ne (t := 646) qL_law_631 (by decide) (fun hc631 => ?_) (fun hc631 => ?_)
  · refine r_goto (t := 3557) qL_law_646 (by decide) ?_
    exact KN _ _ _ _ _ _ _ _ _ (by omega) (by omega) ⟨hS, _, _, _, _, hN.ask0 hS (hj1n _ jx)⟩
  · have hABC := c3_z0 hc631
    refine r_aload_n qL_law_634 rfl ?_
    refine r_iconst (v := nI 0) qL_law_635 (by decide) ?_
    refine r_lald qL_law_636 (by assumption) (in_0 o1.2) ?_
    refine r_iload qL_law_637 rfl ?_
    refine r_i2l qL_law_639 ?_
    refine r_lcmp qL_law_640 ?_
    refine r_if_eq (t := 646) qL_law_641 (by decide) (fun hc641 => ?_) (fun hc641 => absurd hc641 (fun h => h ((lg_cmp_eq _ _).mpr ((hj1 hABC).trans (by rw [if_pos (by first | exact hABC.1 | exact ⟨hABC.1, hABC.2.1⟩ | exact hABC)])))))
    refine r_goto (t := 3557) qL_law_646 (by decide) ?_
    exact KN _ _ _ _ _ _ _ _ _ (by omega) (by omega) ⟨hS, _, _, _, _, hN.ask0 hS (hj1n _ jx)⟩
theorem lc_9 {E : Ev} {Z : Fx → State → Prop} {X : Fx} {g : Sh} {i : Ni} {j : Nj} {CU SU q bb L0 : Nat} {xs : Nat → Int32} {c rd tx ur sl sf sb : Nat} {A : Nat → Nat → Nat} {x n d b p s o ol : Nat} (hX : zScr E X bb L0 xs) (hq : q + 6 ≤ L0) (hL : L0 ≤ 3072) (hCU : CU + 14 ≤ 601024) (hSU : SU + 1046 ≤ 7293034) (hI : iInv g i j c rd tx ur sl sf sb A x n d b p s o ol) (KN : lawN E Z X CU SU q bb c rd tx ur sl sf sb A x n d b p s o ol) : zR E mL_law Z X 649 [.ref (bb + 1), .ref c, .ref x, .ref ol, .int (nI q), zJ, zJ, zJ, zJ] [] g i j CU SU := by
  obtain ⟨hS, u, w, L, O, hN⟩ := hI
  have hY := hS.y
  have hW := hS.ww
  have hX3 : zX3 g c (A 0) := hY.x
  have hB : zB g i x n d b p s o := ⟨hW, hS.r3, hN.1.1⟩
  have hH : zH i (A 0) (i n) := hN.1.2.1
  have w1 := hW.1
  have x1 := hS.kc
  have o1 := hS.oo
  have o11 := o1.1
  have jx := hS.jx
  refine r_aload_n qL_law_649 rfl ?_
  refine r_aload_n qL_law_650 rfl ?_
  refine r_iload qL_law_651 rfl ?_
  refine r_iconst (v := nI 1) qL_law_653 (by decide) ?_
  first | with_reducible refine r_iaddN qL_law_654 ?_ | refine r_iadd qL_law_654 ?_
  refine r_sld hX qL_law_655 (by omega) hL ?_
  refine r_aload_n qL_law_656 rfl ?_
  refine r_cH3 (cu2 := CU + 1) (su2 := SU + 6) qL_law_657 kW_213 rfl (by decide +kernel) rfl rfl rfl (lbc (by omega)) (lbs (by omega)) ?_
  refine c_L_spiritInTubes x1 (fun K1 hK1 => c_X3_spiritInTubes hX3 hH (hK1 _ _ _ _ (lk3 o1 (by first | exact Or.inr rfl | exact Or.inl trivial) (by first | exact Or.inr rfl | exact Or.inl trivial) (by first | exact Or.inr rfl | exact Or.inl trivial) (fun j1 hj1 hj1n => ?_))))
  show zR E _ _ X 660 _ _ _ _ _ _ _
  refine r_is_9_5 qL_law_660 rfl rfl ?_
  refine r_aload_n qL_law_662 rfl ?_
  refine r_aload_n qL_law_663 rfl ?_
  refine r_iload qL_law_664 rfl ?_
  refine r_iconst (v := nI 1) qL_law_666 (by decide) ?_
  first | with_reducible refine r_iaddN qL_law_667 ?_ | refine r_iadd qL_law_667 ?_
  refine r_sld hX qL_law_668 (by omega) hL ?_
  refine r_cv1 (cu2 := CU + 1) (su2 := SU + 6) qL_law_669 kW_215 rfl (by decide +kernel) (c := 4) (by assumption) (by decide) rfl rfl rfl rfl (lbc (by omega)) (lbs (by omega)) ?_
  refine c_X4_spiritInTubes hB ?_
  show zR E _ _ X 672 _ _ _ _ _ _ _
  refine r_is_9_6 qL_law_672 rfl rfl ?_
  refine r_aload_n qL_law_674 rfl ?_
  refine r_cv0 (cu2 := CU + 1) (su2 := SU + 6) qL_law_675 kW_180 rfl (by decide +kernel) (c := 4) (by assumption) (by decide) rfl rfl rfl rfl (lbc (by omega)) (lbs (by omega)) ?_
  refine c_X4_thrown w1 ?_
  rw [wA_s, pk_us]
  show zR E _ _ X 678 _ _ _ _ _ _ _
  refine r_iload qL_law_678 rfl ?_
  refine r_icmp_eq (t := 685) qL_law_680 (by decide) (fun hc680 => ?_) (fun hc680 => absurd hc680 (fun h => h rfl))
  refine r_iload qL_law_685 rfl ?_
  refine r_if_ne (t := 702) qL_law_687 (by decide) (fun hc687 => ?_) (fun hc687 => ?_)
  · refine r_goto (t := 3557) qL_law_702 (by decide) ?_
    exact KN _ _ _ _ _ _ _ _ _ (by omega) (by omega) ⟨hS, _, _, _, _, hN.ask0 hS (hj1n _ jx)⟩
  · have hABC := c3_z0 hc687
    refine r_aload_n qL_law_690 rfl ?_
    refine r_iconst (v := nI 0) qL_law_691 (by decide) ?_
    refine r_lald qL_law_692 (by assumption) (in_0 o1.2) ?_
    refine r_iload qL_law_693 rfl ?_
    refine r_i2l qL_law_695 ?_
    refine r_lcmp qL_law_696 ?_
    refine r_if_eq (t := 702) qL_law_697 (by decide) (fun hc697 => ?_) (fun hc697 => absurd hc697 (fun h => h ((lg_cmp_eq _ _).mpr ((hj1 hABC).trans (by rw [if_pos (by first | exact hABC.1 | exact ⟨hABC.1, hABC.2.1⟩ | exact hABC)])))))
    refine r_goto (t := 3557) qL_law_702 (by decide) ?_
    exact KN _ _ _ _ _ _ _ _ _ (by omega) (by omega) ⟨hS, _, _, _, _, hN.ask0 hS (hj1n _ jx)⟩
theorem lc_10 {E : Ev} {Z : Fx → State → Prop} {X : Fx} {g : Sh} {i : Ni} {j : Nj} {CU SU q bb L0 : Nat} {xs : Nat → Int32} {c rd tx ur sl sf sb : Nat} {A : Nat → Nat → Nat} {x n d b p s o ol : Nat} (hX : zScr E X bb L0 xs) (hq : q + 6 ≤ L0) (hL : L0 ≤ 3072) (hCU : CU + 14 ≤ 601024) (hSU : SU + 1046 ≤ 7293034) (hI : iInv g i j c rd tx ur sl sf sb A x n d b p s o ol) (KN : lawN E Z X CU SU q bb c rd tx ur sl sf sb A x n d b p s o ol) : zR E mL_law Z X 705 [.ref (bb + 1), .ref c, .ref x, .ref ol, .int (nI q), zJ, zJ, zJ, zJ] [] g i j CU SU := by
  obtain ⟨hS, u, w, L, O, hN⟩ := hI
  have hY := hS.y
  have hW := hS.ww
  have hX3 : zX3 g c (A 0) := hY.x
  have hB : zB g i x n d b p s o := ⟨hW, hS.r3, hN.1.1⟩
  have hH : zH i (A 0) (i n) := hN.1.2.1
  have w1 := hW.1
  have x1 := hS.kc
  have o1 := hS.oo
  have o11 := o1.1
  have jx := hS.jx
  refine r_aload_n qL_law_705 rfl ?_
  refine r_aload_n qL_law_706 rfl ?_
  refine r_iload qL_law_707 rfl ?_
  refine r_iconst (v := nI 1) qL_law_709 (by decide) ?_
  first | with_reducible refine r_iaddN qL_law_710 ?_ | refine r_iadd qL_law_710 ?_
  refine r_sld hX qL_law_711 (by omega) hL ?_
  refine r_aload_n qL_law_712 rfl ?_
  refine r_cH3 (cu2 := CU + 1) (su2 := SU + 6) qL_law_713 kW_216 rfl (by decide +kernel) rfl rfl rfl (lbc (by omega)) (lbs (by omega)) ?_
  refine c_L_spiritLost x1 (fun K1 hK1 => c_X3_spiritLost hX3 hH (hK1 _ _ _ _ (lk3 o1 (by first | exact Or.inr rfl | exact Or.inl trivial) (by first | exact Or.inr rfl | exact Or.inl trivial) (by first | exact Or.inr rfl | exact Or.inl trivial) (fun j1 hj1 hj1n => ?_))))
  show zR E _ _ X 716 _ _ _ _ _ _ _
  refine r_is_9_5 qL_law_716 rfl rfl ?_
  refine r_aload_n qL_law_718 rfl ?_
  refine r_aload_n qL_law_719 rfl ?_
  refine r_iload qL_law_720 rfl ?_
  refine r_iconst (v := nI 1) qL_law_722 (by decide) ?_
  first | with_reducible refine r_iaddN qL_law_723 ?_ | refine r_iadd qL_law_723 ?_
  refine r_sld hX qL_law_724 (by omega) hL ?_
  refine r_cv1 (cu2 := CU + 1) (su2 := SU + 6) qL_law_725 kW_218 rfl (by decide +kernel) (c := 4) (by assumption) (by decide) rfl rfl rfl rfl (lbc (by omega)) (lbs (by omega)) ?_
  refine c_X4_spiritLost hB ?_
  show zR E _ _ X 728 _ _ _ _ _ _ _
  refine r_is_9_6 qL_law_728 rfl rfl ?_
  refine r_aload_n qL_law_730 rfl ?_
  refine r_cv0 (cu2 := CU + 1) (su2 := SU + 6) qL_law_731 kW_180 rfl (by decide +kernel) (c := 4) (by assumption) (by decide) rfl rfl rfl rfl (lbc (by omega)) (lbs (by omega)) ?_
  refine c_X4_thrown w1 ?_
  rw [wA_s, pk_us]
  show zR E _ _ X 734 _ _ _ _ _ _ _
  refine r_iload qL_law_734 rfl ?_
  refine r_icmp_eq (t := 741) qL_law_736 (by decide) (fun hc736 => ?_) (fun hc736 => absurd hc736 (fun h => h rfl))
  refine r_iload qL_law_741 rfl ?_
  refine r_if_ne (t := 758) qL_law_743 (by decide) (fun hc743 => ?_) (fun hc743 => ?_)
  · refine r_goto (t := 3557) qL_law_758 (by decide) ?_
    exact KN _ _ _ _ _ _ _ _ _ (by omega) (by omega) ⟨hS, _, _, _, _, hN.ask0 hS (hj1n _ jx)⟩
  · have hABC := c3_z0 hc743
    refine r_aload_n qL_law_746 rfl ?_
    refine r_iconst (v := nI 0) qL_law_747 (by decide) ?_
    refine r_lald qL_law_748 (by assumption) (in_0 o1.2) ?_
    refine r_iload qL_law_749 rfl ?_
    refine r_i2l qL_law_751 ?_
    refine r_lcmp qL_law_752 ?_
    refine r_if_eq (t := 758) qL_law_753 (by decide) (fun hc753 => ?_) (fun hc753 => absurd hc753 (fun h => h ((lg_cmp_eq _ _).mpr ((hj1 hABC).trans (by rw [if_pos (by first | exact hABC.1 | exact ⟨hABC.1, hABC.2.1⟩ | exact hABC)])))))
    refine r_goto (t := 3557) qL_law_758 (by decide) ?_
    exact KN _ _ _ _ _ _ _ _ _ (by omega) (by omega) ⟨hS, _, _, _, _, hN.ask0 hS (hj1n _ jx)⟩
theorem lc_11 {E : Ev} {Z : Fx → State → Prop} {X : Fx} {g : Sh} {i : Ni} {j : Nj} {CU SU q bb L0 : Nat} {xs : Nat → Int32} {c rd tx ur sl sf sb : Nat} {A : Nat → Nat → Nat} {x n d b p s o ol : Nat} (hX : zScr E X bb L0 xs) (hq : q + 6 ≤ L0) (hL : L0 ≤ 3072) (hCU : CU + 14 ≤ 601024) (hSU : SU + 1046 ≤ 7293034) (hI : iInv g i j c rd tx ur sl sf sb A x n d b p s o ol) (KN : lawN E Z X CU SU q bb c rd tx ur sl sf sb A x n d b p s o ol) : zR E mL_law Z X 761 [.ref (bb + 1), .ref c, .ref x, .ref ol, .int (nI q), zJ, zJ, zJ, zJ] [] g i j CU SU := by
  obtain ⟨hS, u, w, L, O, hN⟩ := hI
  have hY := hS.y
  have hW := hS.ww
  have hX3 : zX3 g c (A 0) := hY.x
  have hB : zB g i x n d b p s o := ⟨hW, hS.r3, hN.1.1⟩
  have hH : zH i (A 0) (i n) := hN.1.2.1
  have w1 := hW.1
  have x1 := hS.kc
  have o1 := hS.oo
  have o11 := o1.1
  have jx := hS.jx
  refine r_aload_n qL_law_761 rfl ?_
  refine r_aload_n qL_law_762 rfl ?_
  refine r_iload qL_law_763 rfl ?_
  refine r_iconst (v := nI 1) qL_law_765 (by decide) ?_
  first | with_reducible refine r_iaddN qL_law_766 ?_ | refine r_iadd qL_law_766 ?_
  refine r_sld hX qL_law_767 (by omega) hL ?_
  refine r_aload_n qL_law_768 rfl ?_
  refine r_cH3 (cu2 := CU + 1) (su2 := SU + 6) qL_law_769 kW_219 rfl (by decide +kernel) rfl rfl rfl (lbc (by omega)) (lbs (by omega)) ?_
  refine c_L_spiritOf x1 (fun K1 hK1 => c_X3_spiritOf hX3 hH (hK1 _ _ _ _ (lk3 o1 (by first | exact Or.inr rfl | exact Or.inl trivial) (by first | exact Or.inr rfl | exact Or.inl trivial) (by first | exact Or.inr rfl | exact Or.inl trivial) (fun j1 hj1 hj1n => ?_))))
  show zR E _ _ X 772 _ _ _ _ _ _ _
  refine r_is_9_5 qL_law_772 rfl rfl ?_
  refine r_aload_n qL_law_774 rfl ?_
  refine r_aload_n qL_law_775 rfl ?_
  refine r_iload qL_law_776 rfl ?_
  refine r_iconst (v := nI 1) qL_law_778 (by decide) ?_
  first | with_reducible refine r_iaddN qL_law_779 ?_ | refine r_iadd qL_law_779 ?_
  refine r_sld hX qL_law_780 (by omega) hL ?_
  refine r_cv1 (cu2 := CU + 1) (su2 := SU + 6) qL_law_781 kW_221 rfl (by decide +kernel) (c := 4) (by assumption) (by decide) rfl rfl rfl rfl (lbc (by omega)) (lbs (by omega)) ?_
  refine c_X4_spiritOf hB ?_
  show zR E _ _ X 784 _ _ _ _ _ _ _
  refine r_is_9_6 qL_law_784 rfl rfl ?_
  refine r_aload_n qL_law_786 rfl ?_
  refine r_cv0 (cu2 := CU + 1) (su2 := SU + 6) qL_law_787 kW_180 rfl (by decide +kernel) (c := 4) (by assumption) (by decide) rfl rfl rfl rfl (lbc (by omega)) (lbs (by omega)) ?_
  refine c_X4_thrown w1 ?_
  rw [wA_s, pk_us]
  show zR E _ _ X 790 _ _ _ _ _ _ _
  refine r_iload qL_law_790 rfl ?_
  refine r_icmp_eq (t := 797) qL_law_792 (by decide) (fun hc792 => ?_) (fun hc792 => absurd hc792 (fun h => h rfl))
  refine r_iload qL_law_797 rfl ?_
  refine r_if_ne (t := 814) qL_law_799 (by decide) (fun hc799 => ?_) (fun hc799 => ?_)
  · refine r_goto (t := 3557) qL_law_814 (by decide) ?_
    exact KN _ _ _ _ _ _ _ _ _ (by omega) (by omega) ⟨hS, _, _, _, _, hN.ask0 hS (hj1n _ jx)⟩
  · have hABC := c3_z0 hc799
    refine r_aload_n qL_law_802 rfl ?_
    refine r_iconst (v := nI 0) qL_law_803 (by decide) ?_
    refine r_lald qL_law_804 (by assumption) (in_0 o1.2) ?_
    refine r_iload qL_law_805 rfl ?_
    refine r_i2l qL_law_807 ?_
    refine r_lcmp qL_law_808 ?_
    refine r_if_eq (t := 814) qL_law_809 (by decide) (fun hc809 => ?_) (fun hc809 => absurd hc809 (fun h => h ((lg_cmp_eq _ _).mpr ((hj1 hABC).trans (by rw [if_pos (by first | exact hABC.1 | exact ⟨hABC.1, hABC.2.1⟩ | exact hABC)])))))
    refine r_goto (t := 3557) qL_law_814 (by decide) ?_
    exact KN _ _ _ _ _ _ _ _ _ (by omega) (by omega) ⟨hS, _, _, _, _, hN.ask0 hS (hj1n _ jx)⟩
theorem lc_12 {E : Ev} {Z : Fx → State → Prop} {X : Fx} {g : Sh} {i : Ni} {j : Nj} {CU SU q bb L0 : Nat} {xs : Nat → Int32} {c rd tx ur sl sf sb : Nat} {A : Nat → Nat → Nat} {x n d b p s o ol : Nat} (hX : zScr E X bb L0 xs) (hq : q + 6 ≤ L0) (hL : L0 ≤ 3072) (hCU : CU + 14 ≤ 601024) (hSU : SU + 1046 ≤ 7293034) (hI : iInv g i j c rd tx ur sl sf sb A x n d b p s o ol) (KN : lawN E Z X CU SU q bb c rd tx ur sl sf sb A x n d b p s o ol) : zR E mL_law Z X 817 [.ref (bb + 1), .ref c, .ref x, .ref ol, .int (nI q), zJ, zJ, zJ, zJ] [] g i j CU SU := by
  obtain ⟨hS, u, w, L, O, hN⟩ := hI
  have hY := hS.y
  have hW := hS.ww
  have hX3 : zX3 g c (A 0) := hY.x
  have hB : zB g i x n d b p s o := ⟨hW, hS.r3, hN.1.1⟩
  have hH : zH i (A 0) (i n) := hN.1.2.1
  have w1 := hW.1
  have x1 := hS.kc
  have o1 := hS.oo
  have o11 := o1.1
  have jx := hS.jx
  refine r_aload_n qL_law_817 rfl ?_
  refine r_aload_n qL_law_818 rfl ?_
  refine r_iload qL_law_819 rfl ?_
  refine r_iconst (v := nI 1) qL_law_821 (by decide) ?_
  first | with_reducible refine r_iaddN qL_law_822 ?_ | refine r_iadd qL_law_822 ?_
  refine r_sld hX qL_law_823 (by omega) hL ?_
  refine r_aload_n qL_law_824 rfl ?_
  refine r_cH3 (cu2 := CU + 1) (su2 := SU + 6) qL_law_825 kW_222 rfl (by decide +kernel) rfl rfl rfl (lbc (by omega)) (lbs (by omega)) ?_
  refine c_L_fillOf x1 (fun K1 hK1 => c_X3_fillOf hX3 hH (hK1 _ _ _ _ (lk3 o1 (by first | exact Or.inr rfl | exact Or.inl trivial) (by first | exact Or.inr rfl | exact Or.inl trivial) (by first | exact Or.inr rfl | exact Or.inl trivial) (fun j1 hj1 hj1n => ?_))))
  show zR E _ _ X 828 _ _ _ _ _ _ _
  refine r_is_9_5 qL_law_828 rfl rfl ?_
  refine r_aload_n qL_law_830 rfl ?_
  refine r_aload_n qL_law_831 rfl ?_
  refine r_iload qL_law_832 rfl ?_
  refine r_iconst (v := nI 1) qL_law_834 (by decide) ?_
  first | with_reducible refine r_iaddN qL_law_835 ?_ | refine r_iadd qL_law_835 ?_
  refine r_sld hX qL_law_836 (by omega) hL ?_
  refine r_cv1 (cu2 := CU + 1) (su2 := SU + 6) qL_law_837 kW_224 rfl (by decide +kernel) (c := 4) (by assumption) (by decide) rfl rfl rfl rfl (lbc (by omega)) (lbs (by omega)) ?_
  refine c_X4_fillOf hB ?_
  show zR E _ _ X 840 _ _ _ _ _ _ _
  refine r_is_9_6 qL_law_840 rfl rfl ?_
  refine r_aload_n qL_law_842 rfl ?_
  refine r_cv0 (cu2 := CU + 1) (su2 := SU + 6) qL_law_843 kW_180 rfl (by decide +kernel) (c := 4) (by assumption) (by decide) rfl rfl rfl rfl (lbc (by omega)) (lbs (by omega)) ?_
  refine c_X4_thrown w1 ?_
  rw [wA_s, pk_us]
  show zR E _ _ X 846 _ _ _ _ _ _ _
  refine r_iload qL_law_846 rfl ?_
  refine r_icmp_eq (t := 853) qL_law_848 (by decide) (fun hc848 => ?_) (fun hc848 => absurd hc848 (fun h => h rfl))
  refine r_iload qL_law_853 rfl ?_
  refine r_if_ne (t := 870) qL_law_855 (by decide) (fun hc855 => ?_) (fun hc855 => ?_)
  · refine r_goto (t := 3557) qL_law_870 (by decide) ?_
    exact KN _ _ _ _ _ _ _ _ _ (by omega) (by omega) ⟨hS, _, _, _, _, hN.ask0 hS (hj1n _ jx)⟩
  · have hABC := c3_z0 hc855
    refine r_aload_n qL_law_858 rfl ?_
    refine r_iconst (v := nI 0) qL_law_859 (by decide) ?_
    refine r_lald qL_law_860 (by assumption) (in_0 o1.2) ?_
    refine r_iload qL_law_861 rfl ?_
    refine r_i2l qL_law_863 ?_
    refine r_lcmp qL_law_864 ?_
    refine r_if_eq (t := 870) qL_law_865 (by decide) (fun hc865 => ?_) (fun hc865 => absurd hc865 (fun h => h ((lg_cmp_eq _ _).mpr ((hj1 hABC).trans (by rw [if_pos (by first | exact hABC.1 | exact ⟨hABC.1, hABC.2.1⟩ | exact hABC)])))))
    refine r_goto (t := 3557) qL_law_870 (by decide) ?_
    exact KN _ _ _ _ _ _ _ _ _ (by omega) (by omega) ⟨hS, _, _, _, _, hN.ask0 hS (hj1n _ jx)⟩
theorem lc_13 {E : Ev} {Z : Fx → State → Prop} {X : Fx} {g : Sh} {i : Ni} {j : Nj} {CU SU q bb L0 : Nat} {xs : Nat → Int32} {c rd tx ur sl sf sb : Nat} {A : Nat → Nat → Nat} {x n d b p s o ol : Nat} (hX : zScr E X bb L0 xs) (hq : q + 6 ≤ L0) (hL : L0 ≤ 3072) (hCU : CU + 14 ≤ 601024) (hSU : SU + 1046 ≤ 7293034) (hI : iInv g i j c rd tx ur sl sf sb A x n d b p s o ol) (KN : lawN E Z X CU SU q bb c rd tx ur sl sf sb A x n d b p s o ol) : zR E mL_law Z X 873 [.ref (bb + 1), .ref c, .ref x, .ref ol, .int (nI q), zJ, zJ, zJ, zJ] [] g i j CU SU := by
  obtain ⟨hS, u, w, L, O, hN⟩ := hI
  have hY := hS.y
  have hW := hS.ww
  have hX3 : zX3 g c (A 0) := hY.x
  have hB : zB g i x n d b p s o := ⟨hW, hS.r3, hN.1.1⟩
  have hH : zH i (A 0) (i n) := hN.1.2.1
  have w1 := hW.1
  have x1 := hS.kc
  have o1 := hS.oo
  have o11 := o1.1
  have jx := hS.jx
  refine r_aload_n qL_law_873 rfl ?_
  refine r_aload_n qL_law_874 rfl ?_
  refine r_iload qL_law_875 rfl ?_
  refine r_iconst (v := nI 1) qL_law_877 (by decide) ?_
  first | with_reducible refine r_iaddN qL_law_878 ?_ | refine r_iadd qL_law_878 ?_
  refine r_sld hX qL_law_879 (by omega) hL ?_
  refine r_aload_n qL_law_880 rfl ?_
  refine r_cH3 (cu2 := CU + 1) (su2 := SU + 6) qL_law_881 kW_225 rfl (by decide +kernel) rfl rfl rfl (lbc (by omega)) (lbs (by omega)) ?_
  refine c_L_temperatureOf x1 (fun K1 hK1 => c_X3_temperatureOf hX3 hH (hK1 _ _ _ _ (lk3 o1 (by first | exact Or.inr rfl | exact Or.inl trivial) (by first | exact Or.inr rfl | exact Or.inl trivial) (by first | exact Or.inr rfl | exact Or.inl trivial) (fun j1 hj1 hj1n => ?_))))
  show zR E _ _ X 884 _ _ _ _ _ _ _
  refine r_is_9_5 qL_law_884 rfl rfl ?_
  refine r_aload_n qL_law_886 rfl ?_
  refine r_aload_n qL_law_887 rfl ?_
  refine r_iload qL_law_888 rfl ?_
  refine r_iconst (v := nI 1) qL_law_890 (by decide) ?_
  first | with_reducible refine r_iaddN qL_law_891 ?_ | refine r_iadd qL_law_891 ?_
  refine r_sld hX qL_law_892 (by omega) hL ?_
  refine r_cv1 (cu2 := CU + 1) (su2 := SU + 6) qL_law_893 kW_227 rfl (by decide +kernel) (c := 4) (by assumption) (by decide) rfl rfl rfl rfl (lbc (by omega)) (lbs (by omega)) ?_
  refine c_X4_temperatureOf hB ?_
  show zR E _ _ X 896 _ _ _ _ _ _ _
  refine r_is_9_6 qL_law_896 rfl rfl ?_
  refine r_aload_n qL_law_898 rfl ?_
  refine r_cv0 (cu2 := CU + 1) (su2 := SU + 6) qL_law_899 kW_180 rfl (by decide +kernel) (c := 4) (by assumption) (by decide) rfl rfl rfl rfl (lbc (by omega)) (lbs (by omega)) ?_
  refine c_X4_thrown w1 ?_
  rw [wA_s, pk_us]
  show zR E _ _ X 902 _ _ _ _ _ _ _
  refine r_iload qL_law_902 rfl ?_
  refine r_icmp_eq (t := 909) qL_law_904 (by decide) (fun hc904 => ?_) (fun hc904 => absurd hc904 (fun h => h rfl))
  refine r_iload qL_law_909 rfl ?_
  refine r_if_ne (t := 926) qL_law_911 (by decide) (fun hc911 => ?_) (fun hc911 => ?_)
  · refine r_goto (t := 3557) qL_law_926 (by decide) ?_
    exact KN _ _ _ _ _ _ _ _ _ (by omega) (by omega) ⟨hS, _, _, _, _, hN.ask0 hS (hj1n _ jx)⟩
  · have hABC := c3_z0 hc911
    refine r_aload_n qL_law_914 rfl ?_
    refine r_iconst (v := nI 0) qL_law_915 (by decide) ?_
    refine r_lald qL_law_916 (by assumption) (in_0 o1.2) ?_
    refine r_iload qL_law_917 rfl ?_
    refine r_i2l qL_law_919 ?_
    refine r_lcmp qL_law_920 ?_
    refine r_if_eq (t := 926) qL_law_921 (by decide) (fun hc921 => ?_) (fun hc921 => absurd hc921 (fun h => h ((lg_cmp_eq _ _).mpr ((hj1 hABC).trans (by rw [if_pos (by first | exact hABC.1 | exact ⟨hABC.1, hABC.2.1⟩ | exact hABC)])))))
    refine r_goto (t := 3557) qL_law_926 (by decide) ?_
    exact KN _ _ _ _ _ _ _ _ _ (by omega) (by omega) ⟨hS, _, _, _, _, hN.ask0 hS (hj1n _ jx)⟩
theorem lc_14 {E : Ev} {Z : Fx → State → Prop} {X : Fx} {g : Sh} {i : Ni} {j : Nj} {CU SU q bb L0 : Nat} {xs : Nat → Int32} {c rd tx ur sl sf sb : Nat} {A : Nat → Nat → Nat} {x n d b p s o ol : Nat} (hX : zScr E X bb L0 xs) (hq : q + 6 ≤ L0) (hL : L0 ≤ 3072) (hCU : CU + 14 ≤ 601024) (hSU : SU + 1046 ≤ 7293034) (hI : iInv g i j c rd tx ur sl sf sb A x n d b p s o ol) (KN : lawN E Z X CU SU q bb c rd tx ur sl sf sb A x n d b p s o ol) : zR E mL_law Z X 929 [.ref (bb + 1), .ref c, .ref x, .ref ol, .int (nI q), zJ, zJ, zJ, zJ] [] g i j CU SU := by
  obtain ⟨hS, u, w, L, O, hN⟩ := hI
  have hY := hS.y
  have hW := hS.ww
  have hX3 : zX3 g c (A 0) := hY.x
  have hB : zB g i x n d b p s o := ⟨hW, hS.r3, hN.1.1⟩
  have hH : zH i (A 0) (i n) := hN.1.2.1
  have w1 := hW.1
  have x1 := hS.kc
  have o1 := hS.oo
  have o11 := o1.1
  have jx := hS.jx
  refine r_aload_n qL_law_929 rfl ?_
  refine r_aload_n qL_law_930 rfl ?_
  refine r_iload qL_law_931 rfl ?_
  refine r_iconst (v := nI 1) qL_law_933 (by decide) ?_
  first | with_reducible refine r_iaddN qL_law_934 ?_ | refine r_iadd qL_law_934 ?_
  refine r_sld hX qL_law_935 (by omega) hL ?_
  refine r_aload_n qL_law_936 rfl ?_
  refine r_cH3 (cu2 := CU + 1) (su2 := SU + 6) qL_law_937 kW_228 rfl (by decide +kernel) rfl rfl rfl (lbc (by omega)) (lbs (by omega)) ?_
  refine c_L_surroundingsOf x1 (fun K1 hK1 => c_X3_surroundingsOf hX3 hH (hK1 _ _ _ _ (lk3 o1 (by first | exact Or.inr rfl | exact Or.inl trivial) (by first | exact Or.inr rfl | exact Or.inl trivial) (by first | exact Or.inr rfl | exact Or.inl trivial) (fun j1 hj1 hj1n => ?_))))
  show zR E _ _ X 940 _ _ _ _ _ _ _
  refine r_is_9_5 qL_law_940 rfl rfl ?_
  refine r_aload_n qL_law_942 rfl ?_
  refine r_aload_n qL_law_943 rfl ?_
  refine r_iload qL_law_944 rfl ?_
  refine r_iconst (v := nI 1) qL_law_946 (by decide) ?_
  first | with_reducible refine r_iaddN qL_law_947 ?_ | refine r_iadd qL_law_947 ?_
  refine r_sld hX qL_law_948 (by omega) hL ?_
  refine r_cv1 (cu2 := CU + 1) (su2 := SU + 6) qL_law_949 kW_230 rfl (by decide +kernel) (c := 4) (by assumption) (by decide) rfl rfl rfl rfl (lbc (by omega)) (lbs (by omega)) ?_
  refine c_X4_surroundingsOf hB ?_
  show zR E _ _ X 952 _ _ _ _ _ _ _
  refine r_is_9_6 qL_law_952 rfl rfl ?_
  refine r_aload_n qL_law_954 rfl ?_
  refine r_cv0 (cu2 := CU + 1) (su2 := SU + 6) qL_law_955 kW_180 rfl (by decide +kernel) (c := 4) (by assumption) (by decide) rfl rfl rfl rfl (lbc (by omega)) (lbs (by omega)) ?_
  refine c_X4_thrown w1 ?_
  rw [wA_s, pk_us]
  show zR E _ _ X 958 _ _ _ _ _ _ _
  refine r_iload qL_law_958 rfl ?_
  refine r_icmp_eq (t := 965) qL_law_960 (by decide) (fun hc960 => ?_) (fun hc960 => absurd hc960 (fun h => h rfl))
  refine r_iload qL_law_965 rfl ?_
  refine r_if_ne (t := 982) qL_law_967 (by decide) (fun hc967 => ?_) (fun hc967 => ?_)
  · refine r_goto (t := 3557) qL_law_982 (by decide) ?_
    exact KN _ _ _ _ _ _ _ _ _ (by omega) (by omega) ⟨hS, _, _, _, _, hN.ask0 hS (hj1n _ jx)⟩
  · have hABC := c3_z0 hc967
    refine r_aload_n qL_law_970 rfl ?_
    refine r_iconst (v := nI 0) qL_law_971 (by decide) ?_
    refine r_lald qL_law_972 (by assumption) (in_0 o1.2) ?_
    refine r_iload qL_law_973 rfl ?_
    refine r_i2l qL_law_975 ?_
    refine r_lcmp qL_law_976 ?_
    refine r_if_eq (t := 982) qL_law_977 (by decide) (fun hc977 => ?_) (fun hc977 => absurd hc977 (fun h => h ((lg_cmp_eq _ _).mpr ((hj1 hABC).trans (by rw [if_pos (by first | exact hABC.1 | exact ⟨hABC.1, hABC.2.1⟩ | exact hABC)])))))
    refine r_goto (t := 3557) qL_law_982 (by decide) ?_
    exact KN _ _ _ _ _ _ _ _ _ (by omega) (by omega) ⟨hS, _, _, _, _, hN.ask0 hS (hj1n _ jx)⟩
theorem lc_15 {E : Ev} {Z : Fx → State → Prop} {X : Fx} {g : Sh} {i : Ni} {j : Nj} {CU SU q bb L0 : Nat} {xs : Nat → Int32} {c rd tx ur sl sf sb : Nat} {A : Nat → Nat → Nat} {x n d b p s o ol : Nat} (hX : zScr E X bb L0 xs) (hq : q + 6 ≤ L0) (hL : L0 ≤ 3072) (hCU : CU + 14 ≤ 601024) (hSU : SU + 1046 ≤ 7293034) (hI : iInv g i j c rd tx ur sl sf sb A x n d b p s o ol) (KN : lawN E Z X CU SU q bb c rd tx ur sl sf sb A x n d b p s o ol) : zR E mL_law Z X 985 [.ref (bb + 1), .ref c, .ref x, .ref ol, .int (nI q), zJ, zJ, zJ, zJ] [] g i j CU SU := by
  obtain ⟨hS, u, w, L, O, hN⟩ := hI
  have hY := hS.y
  have hW := hS.ww
  have hX3 : zX3 g c (A 0) := hY.x
  have hB : zB g i x n d b p s o := ⟨hW, hS.r3, hN.1.1⟩
  have hH : zH i (A 0) (i n) := hN.1.2.1
  have w1 := hW.1
  have x1 := hS.kc
  have o1 := hS.oo
  have o11 := o1.1
  have jx := hS.jx
  refine r_aload_n qL_law_985 rfl ?_
  refine r_aload_n qL_law_986 rfl ?_
  refine r_iload qL_law_987 rfl ?_
  refine r_iconst (v := nI 1) qL_law_989 (by decide) ?_
  first | with_reducible refine r_iaddN qL_law_990 ?_ | refine r_iadd qL_law_990 ?_
  refine r_sld hX qL_law_991 (by omega) hL ?_
  refine r_aload_n qL_law_992 rfl ?_
  refine r_cH3 (cu2 := CU + 1) (su2 := SU + 6) qL_law_993 kW_231 rfl (by decide +kernel) rfl rfl rfl (lbc (by omega)) (lbs (by omega)) ?_
  refine c_L_isSettled x1 (fun K1 hK1 => c_X3_isSettled hX3 hH (hK1 _ _ _ _ (lkb o1 rfl (fun j1 hj1 hj1n => ?_))))
  show zR E _ _ X 996 _ _ _ _ _ _ _
  refine r_is_9_5 qL_law_996 rfl rfl ?_
  refine r_aload_n qL_law_998 rfl ?_
  refine r_aload_n qL_law_999 rfl ?_
  refine r_iload qL_law_1000 rfl ?_
  refine r_iconst (v := nI 1) qL_law_1002 (by decide) ?_
  first | with_reducible refine r_iaddN qL_law_1003 ?_ | refine r_iadd qL_law_1003 ?_
  refine r_sld hX qL_law_1004 (by omega) hL ?_
  refine r_cv1 (cu2 := CU + 1) (su2 := SU + 6) qL_law_1005 kW_233 rfl (by decide +kernel) (c := 4) (by assumption) (by decide) rfl rfl rfl rfl (lbc (by omega)) (lbs (by omega)) ?_
  refine c_X4_isSettled hB ?_
  show zR E _ _ X 1008 _ _ _ _ _ _ _
  refine r_is_9_6 qL_law_1008 rfl rfl ?_
  refine r_aload_n qL_law_1010 rfl ?_
  refine r_cv0 (cu2 := CU + 1) (su2 := SU + 6) qL_law_1011 kW_180 rfl (by decide +kernel) (c := 4) (by assumption) (by decide) rfl rfl rfl rfl (lbc (by omega)) (lbs (by omega)) ?_
  refine c_X4_thrown w1 ?_
  rw [wA_s, pk_us]
  show zR E _ _ X 1014 _ _ _ _ _ _ _
  refine r_iload qL_law_1014 rfl ?_
  refine r_icmp_eq (t := 1021) qL_law_1016 (by decide) (fun hc1016 => ?_) (fun hc1016 => absurd hc1016 (fun h => h rfl))
  refine r_iload qL_law_1021 rfl ?_
  refine r_if_ne (t := 1045) qL_law_1023 (by decide) (fun hc1023 => ?_) (fun hc1023 => ?_)
  · refine r_goto (t := 3557) qL_law_1045 (by decide) ?_
    exact KN _ _ _ _ _ _ _ _ _ (by omega) (by omega) ⟨hS, _, _, _, _, hN.ask0 hS (hj1n _ jx)⟩
  · have hABC := c3_z0 hc1023
    rw [if_pos (by first | exact hABC.1 | exact ⟨hABC.1, hABC.2.1⟩ | exact hABC)]
    refine r_aload_n qL_law_1026 rfl ?_
    refine r_iconst (v := nI 0) qL_law_1027 (by decide) ?_
    refine r_lald qL_law_1028 (by assumption) (in_0 o1.2) ?_
    refine r_iload qL_law_1029 rfl ?_
    refine r_if_eq (t := 1038) qL_law_1031 (by decide) (fun hc1031 => ?_) (fun hc1031 => ?_)
    · refine r_lconst (v := 0) qL_law_1038 (by decide) ?_
      refine r_lcmp qL_law_1039 ?_
      refine r_if_eq (t := 1045) qL_law_1040 (by decide) (fun hc1040 => ?_) (fun hc1040 => absurd hc1040 (fun h => h ((lg_cmp_eq _ _).mpr (by first | exact bl_0 (hj1 hABC) hc1031 | exact bl_1 (zb_01 _) (hj1 hABC) hc1031))))
      refine r_goto (t := 3557) qL_law_1045 (by decide) ?_
      exact KN _ _ _ _ _ _ _ _ _ (by omega) (by omega) ⟨hS, _, _, _, _, hN.ask0 hS (hj1n _ jx)⟩
    · refine r_lconst (v := 1) qL_law_1034 (by decide) ?_
      refine r_goto (t := 1039) qL_law_1035 (by decide) ?_
      refine r_lcmp qL_law_1039 ?_
      refine r_if_eq (t := 1045) qL_law_1040 (by decide) (fun hc1040 => ?_) (fun hc1040 => absurd hc1040 (fun h => h ((lg_cmp_eq _ _).mpr (by first | exact bl_0 (hj1 hABC) hc1031 | exact bl_1 (zb_01 _) (hj1 hABC) hc1031))))
      refine r_goto (t := 3557) qL_law_1045 (by decide) ?_
      exact KN _ _ _ _ _ _ _ _ _ (by omega) (by omega) ⟨hS, _, _, _, _, hN.ask0 hS (hj1n _ jx)⟩
theorem lc_16 {E : Ev} {Z : Fx → State → Prop} {X : Fx} {g : Sh} {i : Ni} {j : Nj} {CU SU q bb L0 : Nat} {xs : Nat → Int32} {c rd tx ur sl sf sb : Nat} {A : Nat → Nat → Nat} {x n d b p s o ol : Nat} (hX : zScr E X bb L0 xs) (hq : q + 6 ≤ L0) (hL : L0 ≤ 3072) (hCU : CU + 14 ≤ 601024) (hSU : SU + 1046 ≤ 7293034) (hI : iInv g i j c rd tx ur sl sf sb A x n d b p s o ol) (KN : lawN E Z X CU SU q bb c rd tx ur sl sf sb A x n d b p s o ol) : zR E mL_law Z X 1048 [.ref (bb + 1), .ref c, .ref x, .ref ol, .int (nI q), zJ, zJ, zJ, zJ] [] g i j CU SU := by
  obtain ⟨hS, u, w, L, O, hN⟩ := hI
  have hY := hS.y
  have hW := hS.ww
  have hX3 : zX3 g c (A 0) := hY.x
  have hB : zB g i x n d b p s o := ⟨hW, hS.r3, hN.1.1⟩
  have hH : zH i (A 0) (i n) := hN.1.2.1
  have w1 := hW.1
  have x1 := hS.kc
  have o1 := hS.oo
  have o11 := o1.1
  have jx := hS.jx
  refine r_aload_n qL_law_1048 rfl ?_
  refine r_aload_n qL_law_1049 rfl ?_
  refine r_iload qL_law_1050 rfl ?_
  refine r_iconst (v := nI 1) qL_law_1052 (by decide) ?_
  first | with_reducible refine r_iaddN qL_law_1053 ?_ | refine r_iadd qL_law_1053 ?_
  refine r_sld hX qL_law_1054 (by omega) hL ?_
  refine r_aload_n qL_law_1055 rfl ?_
  refine r_cH3 (cu2 := CU + 1) (su2 := SU + 6) qL_law_1056 kW_234 rfl (by decide +kernel) rfl rfl rfl (lbc (by omega)) (lbs (by omega)) ?_
  refine c_L_isLeaky x1 (fun K1 hK1 => c_X3_isLeaky hX3 hH (hK1 _ _ _ _ (lkb o1 rfl (fun j1 hj1 hj1n => ?_))))
  show zR E _ _ X 1059 _ _ _ _ _ _ _
  refine r_is_9_5 qL_law_1059 rfl rfl ?_
  refine r_aload_n qL_law_1061 rfl ?_
  refine r_aload_n qL_law_1062 rfl ?_
  refine r_iload qL_law_1063 rfl ?_
  refine r_iconst (v := nI 1) qL_law_1065 (by decide) ?_
  first | with_reducible refine r_iaddN qL_law_1066 ?_ | refine r_iadd qL_law_1066 ?_
  refine r_sld hX qL_law_1067 (by omega) hL ?_
  refine r_cv1 (cu2 := CU + 1) (su2 := SU + 6) qL_law_1068 kW_236 rfl (by decide +kernel) (c := 4) (by assumption) (by decide) rfl rfl rfl rfl (lbc (by omega)) (lbs (by omega)) ?_
  refine c_X4_isLeaky hB ?_
  show zR E _ _ X 1071 _ _ _ _ _ _ _
  refine r_is_9_6 qL_law_1071 rfl rfl ?_
  refine r_aload_n qL_law_1073 rfl ?_
  refine r_cv0 (cu2 := CU + 1) (su2 := SU + 6) qL_law_1074 kW_180 rfl (by decide +kernel) (c := 4) (by assumption) (by decide) rfl rfl rfl rfl (lbc (by omega)) (lbs (by omega)) ?_
  refine c_X4_thrown w1 ?_
  rw [wA_s, pk_us]
  show zR E _ _ X 1077 _ _ _ _ _ _ _
  refine r_iload qL_law_1077 rfl ?_
  refine r_icmp_eq (t := 1084) qL_law_1079 (by decide) (fun hc1079 => ?_) (fun hc1079 => absurd hc1079 (fun h => h rfl))
  refine r_iload qL_law_1084 rfl ?_
  refine r_if_ne (t := 1108) qL_law_1086 (by decide) (fun hc1086 => ?_) (fun hc1086 => ?_)
  · refine r_goto (t := 3557) qL_law_1108 (by decide) ?_
    exact KN _ _ _ _ _ _ _ _ _ (by omega) (by omega) ⟨hS, _, _, _, _, hN.ask0 hS (hj1n _ jx)⟩
  · have hABC := c3_z0 hc1086
    rw [if_pos (by first | exact hABC.1 | exact ⟨hABC.1, hABC.2.1⟩ | exact hABC)]
    refine r_aload_n qL_law_1089 rfl ?_
    refine r_iconst (v := nI 0) qL_law_1090 (by decide) ?_
    refine r_lald qL_law_1091 (by assumption) (in_0 o1.2) ?_
    refine r_iload qL_law_1092 rfl ?_
    refine r_if_eq (t := 1101) qL_law_1094 (by decide) (fun hc1094 => ?_) (fun hc1094 => ?_)
    · refine r_lconst (v := 0) qL_law_1101 (by decide) ?_
      refine r_lcmp qL_law_1102 ?_
      refine r_if_eq (t := 1108) qL_law_1103 (by decide) (fun hc1103 => ?_) (fun hc1103 => absurd hc1103 (fun h => h ((lg_cmp_eq _ _).mpr (by first | exact bl_0 (hj1 hABC) hc1094 | exact bl_1 (zb_01 _) (hj1 hABC) hc1094))))
      refine r_goto (t := 3557) qL_law_1108 (by decide) ?_
      exact KN _ _ _ _ _ _ _ _ _ (by omega) (by omega) ⟨hS, _, _, _, _, hN.ask0 hS (hj1n _ jx)⟩
    · refine r_lconst (v := 1) qL_law_1097 (by decide) ?_
      refine r_goto (t := 1102) qL_law_1098 (by decide) ?_
      refine r_lcmp qL_law_1102 ?_
      refine r_if_eq (t := 1108) qL_law_1103 (by decide) (fun hc1103 => ?_) (fun hc1103 => absurd hc1103 (fun h => h ((lg_cmp_eq _ _).mpr (by first | exact bl_0 (hj1 hABC) hc1094 | exact bl_1 (zb_01 _) (hj1 hABC) hc1094))))
      refine r_goto (t := 3557) qL_law_1108 (by decide) ?_
      exact KN _ _ _ _ _ _ _ _ _ (by omega) (by omega) ⟨hS, _, _, _, _, hN.ask0 hS (hj1n _ jx)⟩

