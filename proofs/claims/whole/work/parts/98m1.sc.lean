theorem pr_ol {g g1 : Sh} {i i1 : Ni} {j j1 : Nj} {sb ol : Nat} (bf : zBf sb g i j g1 i1 j1) (h : gT g ol = 14) (hs : gT g sb = 6) : gT g1 ol = 14 := (bf.2 ol (by rw [h]; decide)).1.trans h
theorem pr_oL {g g1 : Sh} {i i1 : Ni} {j j1 : Nj} {sb ol : Nat} (bf : zBf sb g i j g1 i1 j1) (h : gT g ol = 14) (hs : gT g sb = 6) : gL g1 ol = gL g ol := (bf.2 ol (by rw [h]; decide)).2.1
theorem lkb0 {A B C : Prop} {dA : Decidable A} {dB : Decidable B} {dC : Decidable C} {f : Nat → Option Int32} {e1 e2 e3 ol : Nat} {v : Value} {K : Kp} {g : Sh} {i : Ni} {j : Nj} (hA : ¬ A) (h : f e1 = some (nI 1)) (hK : K (.inl (some (.int (nI 1)))) g i j) : zLb f ol K (oc3 A B C e1 e2 e3 v) g i j := by
  rw [oc3, if_pos hA]
  exact ⟨nI 1, h, hK⟩
theorem iSlot.bit {i : Ni} {sf x s : Nat} {A : Nat → Nat → Nat} {v : Int32} (h : iSlot i sf A x s) (hv : 0 ≤ v.toInt ∧ v.toInt ≤ 1) : zn v < 2 ∧ (¬ i sf (zn v) = 0 ↔ (i x 31 >>> (v &&& 31)) &&& nI 1 = nI 1) := by
  obtain ⟨ev, h1⟩ := nn_nat (b := 1) hv
  refine ⟨by omega, ?_⟩
  obtain ⟨f, r1, r2, r3, -⟩ := h (zn v) (by omega)
  have r3' : (i x 31 >>> (v &&& 31)) &&& nI 1 = nI 1 ↔ f = 1 := by
    rw [ev]
    exact r3
  rw [r3', r2]
  rcases r1 with rfl | rfl
  · exact ⟨fun h => absurd rfl h, fun h => absurd h (by decide)⟩
  · exact ⟨fun _ => rfl, fun _ => by decide⟩
theorem lc_63 {E : Ev} {Z : Fx → State → Prop} {X : Fx} {g : Sh} {i : Ni} {j : Nj} {CU SU q bb L0 : Nat} {xs : Nat → Int32} {c rd tx ur sl sf sb : Nat} {A : Nat → Nat → Nat} {x n d b p s o ol : Nat} (hX : zScr E X bb L0 xs) (hq : q + 6 ≤ L0) (hL : L0 ≤ 3072) (hCU : CU + 14 ≤ 601024) (hSU : SU + 1046 ≤ 7293034) (hI : iInv g i j c rd tx ur sl sf sb A x n d b p s o ol) (KN : lawN E Z X CU SU q bb c rd tx ur sl sf sb A x n d b p s o ol) : zR E mL_law Z X 3501 [.ref (bb + 1), .ref c, .ref x, .ref ol, .int (nI q), zJ, zJ, zJ, zJ] [] g i j CU SU := by
  obtain ⟨hS, u, w, L, O, hN⟩ := hI
  have hY := hS.y
  have hW := hS.ww
  have hX3 : zX3 g c (A 0) := hY.x
  have hB : zB g i x n d b p s o := ⟨hW, hS.r3, hN.1.1⟩
  have hH : zH i (A 0) (i n) := hN.1.2.1
  have w1 := hW.1
  have x1 := hS.kc
  have o1 := hS.oo
  have o11 := o1.1
  have jx := hS.jx
  obtain ⟨f1, hBu, l1, l2, l3⟩ := id hN.2.2.2.2.2
  have hO6 : gR g c 6 = sb := hY.2.2.2.2.2.2.2.1
  refine r_aload_n qL_law_3501 rfl ?_
  refine r_aload_n qL_law_3502 rfl ?_
  refine r_iload qL_law_3503 rfl ?_
  refine r_iconst (v := nI 1) qL_law_3505 (by decide) ?_
  first | with_reducible refine r_iaddN qL_law_3506 ?_ | refine r_iadd qL_law_3506 ?_
  refine r_sld hX qL_law_3507 (by omega) hL ?_
  refine r_aload_n qL_law_3508 rfl ?_
  refine r_cH3 (cu2 := CU + 1) (su2 := SU + 6) qL_law_3509 kW_390 rfl (by decide +kernel) rfl rfl rfl (lbc (by omega)) (lbs (by omega)) ?_
  refine c_L_outputByte x1 (fun K1 hK1 => (fun (Z1 : K1 (oc3 (tv (nI O.length) (xs (q + 1))) True True 3 0 0 (.int (O.getD (zn (xs (q + 1))) 0))) g i j) => c_X3_outputByte x1 hO6 hBu (oc_of Z1).1 (oc_of Z1).2) (hK1 _ _ _ _ (lk3 o1 (by first | exact Or.inr rfl | exact Or.inl trivial) (by first | exact Or.inr rfl | exact Or.inl trivial) (by first | exact Or.inr rfl | exact Or.inl trivial) (fun j1 hj1 hj1n => ?_))))
  show zR E _ _ X 3512 _ _ _ _ _ _ _
  refine r_is_9_5 qL_law_3512 rfl rfl ?_
  refine r_aload_n qL_law_3514 rfl ?_
  refine r_aload_n qL_law_3515 rfl ?_
  refine r_iload qL_law_3516 rfl ?_
  refine r_iconst (v := nI 1) qL_law_3518 (by decide) ?_
  first | with_reducible refine r_iaddN qL_law_3519 ?_ | refine r_iadd qL_law_3519 ?_
  refine r_sld hX qL_law_3520 (by omega) hL ?_
  refine r_cv1 (cu2 := CU + 1) (su2 := SU + 6) qL_law_3521 kW_392 rfl (by decide +kernel) (c := 4) (by assumption) (by decide) rfl rfl rfl rfl (lbc (by omega)) (lbs (by omega)) ?_
  refine c_X4_outputByte hW l1 l2 ?_
  show zR E _ _ X 3524 _ _ _ _ _ _ _
  refine r_is_9_6 qL_law_3524 rfl rfl ?_
  refine r_aload_n qL_law_3526 rfl ?_
  refine r_cv0 (cu2 := CU + 1) (su2 := SU + 6) qL_law_3527 kW_180 rfl (by decide +kernel) (c := 4) (by assumption) (by decide) rfl rfl rfl rfl (lbc (by omega)) (lbs (by omega)) ?_
  refine c_X4_thrown w1 ?_
  rw [wA_s, pk_us]
  show zR E _ _ X 3530 _ _ _ _ _ _ _
  refine r_iload qL_law_3530 rfl ?_
  refine r_icmp_eq (t := 3537) qL_law_3532 (by decide) (fun hc3532 => ?_) (fun hc3532 => absurd hc3532 (fun h => h rfl))
  refine r_iload qL_law_3537 rfl ?_
  refine r_if_ne (t := 3554) qL_law_3539 (by decide) (fun hc3539 => ?_) (fun hc3539 => ?_)
  · refine r_goto (t := 3557) qL_law_3554 (by decide) ?_
    exact KN _ _ _ _ _ _ _ _ _ (by omega) (by omega) ⟨hS, _, _, _, _, hN.ask0 hS (hj1n _ jx)⟩
  · have hABC := c3_z0 hc3539
    have hk := (tv_nat hABC.1).2
    rw [zn_nI (by omega)] at hk
    refine r_aload_n qL_law_3542 rfl ?_
    refine r_iconst (v := nI 0) qL_law_3543 (by decide) ?_
    refine r_lald qL_law_3544 (by assumption) (in_0 o1.2) ?_
    refine r_iload qL_law_3545 rfl ?_
    refine r_i2l qL_law_3547 ?_
    refine r_lcmp qL_law_3548 ?_
    refine r_if_eq (t := 3554) qL_law_3549 (by decide) (fun hc3549 => ?_) (fun hc3549 => absurd hc3549 (fun h => h ((lg_cmp_eq _ _).mpr ((hj1 hABC).trans (by rw [if_pos hABC.1, l3 _ hk])))))
    refine r_goto (t := 3557) qL_law_3554 (by decide) ?_
    exact KN _ _ _ _ _ _ _ _ _ (by omega) (by omega) ⟨hS, _, _, _, _, hN.ask0 hS (hj1n _ jx)⟩
theorem lc_0 {E : Ev} {Z : Fx → State → Prop} {X : Fx} {g : Sh} {i : Ni} {j : Nj} {CU SU q bb L0 : Nat} {xs : Nat → Int32} {c rd tx ur sl sf sb : Nat} {A : Nat → Nat → Nat} {x n d b p s o ol : Nat} (hX : zScr E X bb L0 xs) (hq : q + 6 ≤ L0) (hL : L0 ≤ 3072) (hCU : CU + 14 ≤ 601024) (hSU : SU + 1046 ≤ 7293034) (hI : iInv g i j c rd tx ur sl sf sb A x n d b p s o ol) (KN : lawN E Z X CU SU q bb c rd tx ur sl sf sb A x n d b p s o ol) : zR E mL_law Z X 312 [.ref (bb + 1), .ref c, .ref x, .ref ol, .int (nI q), zJ, zJ, zJ, zJ] [] g i j CU SU := by
  obtain ⟨hS, u, w, L, O, hN⟩ := hI
  have hY := hS.y
  have hW := hS.ww
  have hX3 : zX3 g c (A 0) := hY.x
  have hB : zB g i x n d b p s o := ⟨hW, hS.r3, hN.1.1⟩
  have hH : zH i (A 0) (i n) := hN.1.2.1
  have w1 := hW.1
  have x1 := hS.kc
  have o1 := hS.oo
  have o11 := o1.1
  have jx := hS.jx
  obtain ⟨e1, e2, e3, e4, e5, e6⟩ := id hN.2.2.2.2.1
  refine r_aload_n qL_law_312 rfl ?_
  refine r_aload_n qL_law_313 rfl ?_
  refine r_iload qL_law_314 rfl ?_
  refine r_iconst (v := nI 1) qL_law_316 (by decide) ?_
  first | with_reducible refine r_iaddN qL_law_317 ?_ | refine r_iadd qL_law_317 ?_
  refine r_sld hX qL_law_318 (by omega) hL ?_
  refine r_aload_n qL_law_319 rfl ?_
  refine r_iload qL_law_320 rfl ?_
  refine r_iconst (v := nI 2) qL_law_322 (by decide) ?_
  first | with_reducible refine r_iaddN qL_law_323 ?_ | refine r_iadd qL_law_323 ?_
  refine r_sld hX qL_law_324 (by omega) hL ?_
  refine r_aload_n qL_law_325 rfl ?_
  refine r_iload qL_law_326 rfl ?_
  refine r_iconst (v := nI 3) qL_law_328 (by decide) ?_
  first | with_reducible refine r_iaddN qL_law_329 ?_ | refine r_iadd qL_law_329 ?_
  refine r_sld hX qL_law_330 (by omega) hL ?_
  refine r_aload_n qL_law_331 rfl ?_
  refine r_iload qL_law_332 rfl ?_
  refine r_iconst (v := nI 4) qL_law_334 (by decide) ?_
  first | with_reducible refine r_iaddN qL_law_335 ?_ | refine r_iadd qL_law_335 ?_
  refine r_sld hX qL_law_336 (by omega) hL ?_
  refine r_aload_n qL_law_337 rfl ?_
  refine r_iload qL_law_338 rfl ?_
  refine r_iconst (v := nI 5) qL_law_340 (by decide) ?_
  first | with_reducible refine r_iaddN qL_law_341 ?_ | refine r_iadd qL_law_341 ?_
  refine r_sld hX qL_law_342 (by omega) hL ?_
  refine r_aload_n qL_law_343 rfl ?_
  refine r_cH7 (cu2 := CU + 1) (su2 := SU + 6) qL_law_344 kW_174 rfl (by decide +kernel) rfl rfl rfl (lbc (by omega)) (lbs (by omega)) ?_
  refine c_L_append x1 (fun K1 hK1 => c_X3_append (N := i n) hY e1 e3 (fun h0 => hK1 _ _ _ _ ⟨nI 1, rfl, ?_⟩) (fun h0 i1 r1 t1 p1 => hK1 _ _ _ _ ⟨o1.1, o1.2, fun j1 hj1 hj1n => ?_⟩))
  · show zR E _ _ X 347 _ _ _ _ _ _ _
    refine r_is_9_5 qL_law_347 rfl rfl ?_
    refine r_aload_n qL_law_349 rfl ?_
    refine r_aload_n qL_law_350 rfl ?_
    refine r_iload qL_law_351 rfl ?_
    refine r_iconst (v := nI 1) qL_law_353 (by decide) ?_
    first | with_reducible refine r_iaddN qL_law_354 ?_ | refine r_iadd qL_law_354 ?_
    refine r_sld hX qL_law_355 (by omega) hL ?_
    refine r_aload_n qL_law_356 rfl ?_
    refine r_iload qL_law_357 rfl ?_
    refine r_iconst (v := nI 2) qL_law_359 (by decide) ?_
    first | with_reducible refine r_iaddN qL_law_360 ?_ | refine r_iadd qL_law_360 ?_
    refine r_sld hX qL_law_361 (by omega) hL ?_
    refine r_aload_n qL_law_362 rfl ?_
    refine r_iload qL_law_363 rfl ?_
    refine r_iconst (v := nI 3) qL_law_365 (by decide) ?_
    first | with_reducible refine r_iaddN qL_law_366 ?_ | refine r_iadd qL_law_366 ?_
    refine r_sld hX qL_law_367 (by omega) hL ?_
    refine r_aload_n qL_law_368 rfl ?_
    refine r_iload qL_law_369 rfl ?_
    refine r_iconst (v := nI 4) qL_law_371 (by decide) ?_
    first | with_reducible refine r_iaddN qL_law_372 ?_ | refine r_iadd qL_law_372 ?_
    refine r_sld hX qL_law_373 (by omega) hL ?_
    refine r_aload_n qL_law_374 rfl ?_
    refine r_iload qL_law_375 rfl ?_
    refine r_iconst (v := nI 5) qL_law_377 (by decide) ?_
    first | with_reducible refine r_iaddN qL_law_378 ?_ | refine r_iadd qL_law_378 ?_
    refine r_sld hX qL_law_379 (by omega) hL ?_
    refine r_cv5 (cu2 := CU + 1) (su2 := SU + 6) qL_law_380 kW_179 rfl (by decide +kernel) (c := 4) (by assumption) (by decide) rfl rfl rfl rfl (lbc (by omega)) (lbs (by omega)) ?_
    refine c_X4_append hW e2 e3 (fun h i2 e2 p2 => ?_) (fun h => absurd h h0)
    show zR E _ _ X 383 _ _ _ _ _ _ _
    refine r_is_9_6 qL_law_383 rfl rfl ?_
    refine r_aload_n qL_law_385 rfl ?_
    refine r_cv0 (cu2 := CU + 1) (su2 := SU + 6) qL_law_386 kW_180 rfl (by decide +kernel) (c := 4) (by assumption) (by decide) rfl rfl rfl rfl (lbc (by omega)) (lbs (by omega)) ?_
    refine c_X4_thrown w1 ?_
    rw [e2, pk_us, c3, if_pos h0]
    show zR E _ _ X 389 _ _ _ _ _ _ _
    refine r_iload qL_law_389 rfl ?_
    refine r_icmp_eq (t := 396) qL_law_391 (by decide) (fun hc391 => ?_) (fun hc391 => absurd hc391 (fun h => h rfl))
    refine r_iload qL_law_396 rfl ?_
    refine r_if_ne (t := 413) qL_law_398 (by decide) (fun hc398 => ?_) (fun hc398 => absurd hc398 (by decide))
    refine r_goto (t := 3557) qL_law_413 (by decide) ?_
    exact KN _ _ _ _ _ _ _ _ _ (by omega) (by omega) ⟨hS, _, _, _, _, hN.ask hS (fun r h1 _ _ => p2 r h1) (fun m hm => by rw [e2, pk_un hm]) (fun z hz => by rw [p2 _ (Ne.symm ((hS.di dM_x).2.2.2.2.2.2 1 _ (by decide) (by omega)))]; exact hN.1.2.2 1 (by decide) z hz) rfl⟩
  · show zR E _ _ X 347 _ _ _ _ _ _ _
    have e1x : i1 x = i x := p1 x (hS.di dM_x).2.1 (hS.di dM_x).2.2.1
    have e1b : i1 b = i b := p1 b (hS.di dM_b).2.1 (hS.di dM_b).2.2.1
    refine r_is_9_5 qL_law_347 rfl rfl ?_
    refine r_aload_n qL_law_349 rfl ?_
    refine r_aload_n qL_law_350 rfl ?_
    refine r_iload qL_law_351 rfl ?_
    refine r_iconst (v := nI 1) qL_law_353 (by decide) ?_
    first | with_reducible refine r_iaddN qL_law_354 ?_ | refine r_iadd qL_law_354 ?_
    refine r_sld hX qL_law_355 (by omega) hL ?_
    refine r_aload_n qL_law_356 rfl ?_
    refine r_iload qL_law_357 rfl ?_
    refine r_iconst (v := nI 2) qL_law_359 (by decide) ?_
    first | with_reducible refine r_iaddN qL_law_360 ?_ | refine r_iadd qL_law_360 ?_
    refine r_sld hX qL_law_361 (by omega) hL ?_
    refine r_aload_n qL_law_362 rfl ?_
    refine r_iload qL_law_363 rfl ?_
    refine r_iconst (v := nI 3) qL_law_365 (by decide) ?_
    first | with_reducible refine r_iaddN qL_law_366 ?_ | refine r_iadd qL_law_366 ?_
    refine r_sld hX qL_law_367 (by omega) hL ?_
    refine r_aload_n qL_law_368 rfl ?_
    refine r_iload qL_law_369 rfl ?_
    refine r_iconst (v := nI 4) qL_law_371 (by decide) ?_
    first | with_reducible refine r_iaddN qL_law_372 ?_ | refine r_iadd qL_law_372 ?_
    refine r_sld hX qL_law_373 (by omega) hL ?_
    refine r_aload_n qL_law_374 rfl ?_
    refine r_iload qL_law_375 rfl ?_
    refine r_iconst (v := nI 5) qL_law_377 (by decide) ?_
    first | with_reducible refine r_iaddN qL_law_378 ?_ | refine r_iadd qL_law_378 ?_
    refine r_sld hX qL_law_379 (by omega) hL ?_
    refine r_cv5 (cu2 := CU + 1) (su2 := SU + 6) qL_law_380 kW_179 rfl (by decide +kernel) (c := 4) (by assumption) (by decide) rfl rfl rfl rfl (lbc (by omega)) (lbs (by omega)) ?_
    refine c_X4_append (f := L) hW (by rw [e1x]; exact e2) e3 (fun h => absurd h0 h) (fun h i2 e2' b2 p2 => ?_)
    show zR E _ _ X 383 _ _ _ _ _ _ _
    refine r_is_9_6 qL_law_383 rfl rfl ?_
    refine r_aload_n qL_law_385 rfl ?_
    refine r_cv0 (cu2 := CU + 1) (su2 := SU + 6) qL_law_386 kW_180 rfl (by decide +kernel) (c := 4) (by assumption) (by decide) rfl rfl rfl rfl (lbc (by omega)) (lbs (by omega)) ?_
    refine c_X4_thrown w1 ?_
    rw [e2', pk_un (by decide), pk_us]
    show zR E _ _ X 389 _ _ _ _ _ _ _
    refine r_iload qL_law_389 rfl ?_
    refine r_icmp_eq (t := 396) qL_law_391 (by decide) (fun hc391 => ?_) (fun hc391 => absurd hc391 (fun h => h rfl))
    refine r_iload qL_law_396 rfl ?_
    refine r_if_ne (t := 413) qL_law_398 (by decide) (fun hc398 => absurd hc398 (by decide)) (fun hc398 => ?_)
    refine r_aload_n qL_law_401 rfl ?_
    refine r_iconst (v := nI 0) qL_law_402 (by decide) ?_
    refine r_lald qL_law_403 (by assumption) (in_0 o1.2) ?_
    refine r_iload qL_law_404 rfl ?_
    refine r_i2l qL_law_406 ?_
    refine r_lcmp qL_law_407 ?_
    refine r_if_eq (t := 413) qL_law_408 (by decide) (fun hc408 => ?_) (fun hc408 => absurd hc408 (fun h => h ((lg_cmp_eq _ _).mpr hj1)))
    refine r_goto (t := 3557) qL_law_413 (by decide) ?_
    exact KN _ _ _ _ _ _ _ _ _ (by omega) (by omega) ⟨hS, _, _, _, _, hN.txt hS (fun r h1 h2 h3 h4 => (p2 r h1 h2).trans (p1 r h3 h4)) (fun m hm0 hm5 => by rw [e2', pk_un hm5, pk_un hm0, e1x]) (hj1n _ jx) (L2 := L + 20) ⟨by rw [p2 rd (Ne.symm (hS.di dM_x).2.1) (Ne.symm (hS.di dM_b).2.1), r1, pk_us], by rw [e2', pk_us], h0, by rw [p2 tx (Ne.symm (hS.di dM_x).2.2.1) (Ne.symm (hS.di dM_b).2.2.1), t1]; exact e4.app, by rw [b2, e1b]; exact e5.app, by rw [p2 tx (Ne.symm (hS.di dM_x).2.2.1) (Ne.symm (hS.di dM_b).2.2.1), t1, b2, e1b]; exact app_ag e6⟩⟩
theorem lc_1 {E : Ev} {Z : Fx → State → Prop} {X : Fx} {g : Sh} {i : Ni} {j : Nj} {CU SU q bb L0 : Nat} {xs : Nat → Int32} {c rd tx ur sl sf sb : Nat} {A : Nat → Nat → Nat} {x n d b p s o ol : Nat} (hX : zScr E X bb L0 xs) (hq : q + 6 ≤ L0) (hL : L0 ≤ 3072) (hCU : CU + 14 ≤ 601024) (hSU : SU + 1046 ≤ 7293034) (hI : iInv g i j c rd tx ur sl sf sb A x n d b p s o ol) (KN : lawN E Z X CU SU q bb c rd tx ur sl sf sb A x n d b p s o ol) : zR E mL_law Z X 416 [.ref (bb + 1), .ref c, .ref x, .ref ol, .int (nI q), zJ, zJ, zJ, zJ] [] g i j CU SU := by
  obtain ⟨hS, u, w, L, O, hN⟩ := hI
  have hY := hS.y
  have hW := hS.ww
  have hX3 : zX3 g c (A 0) := hY.x
  have hB : zB g i x n d b p s o := ⟨hW, hS.r3, hN.1.1⟩
  have hH : zH i (A 0) (i n) := hN.1.2.1
  have w1 := hW.1
  have x1 := hS.kc
  have o1 := hS.oo
  have o11 := o1.1
  have jx := hS.jx
  obtain ⟨e1, e2, e3, e4, e5, e6⟩ := id hN.2.2.2.2.1
  refine r_aload_n qL_law_416 rfl ?_
  refine r_aload_n qL_law_417 rfl ?_
  refine r_iload qL_law_418 rfl ?_
  refine r_iconst (v := nI 1) qL_law_420 (by decide) ?_
  first | with_reducible refine r_iaddN qL_law_421 ?_ | refine r_iadd qL_law_421 ?_
  refine r_sld hX qL_law_422 (by omega) hL ?_
  refine r_aload_n qL_law_423 rfl ?_
  refine r_cH3 (cu2 := CU + 1) (su2 := SU + 6) qL_law_424 kW_183 rfl (by decide +kernel) rfl rfl rfl (lbc (by omega)) (lbs (by omega)) ?_
  refine c_L_truncate x1 (fun K1 hK1 => c_X3_truncate (N := i n) hY e1 e3 (fun h0 => hK1 _ _ _ _ ⟨nI 1, rfl, ?_⟩) (fun h0 => hK1 _ _ _ _ ⟨o1.1, o1.2, fun j1 hj1 hj1n => ?_⟩))
  · show zR E _ _ X 427 _ _ _ _ _ _ _
    refine r_is_9_5 qL_law_427 rfl rfl ?_
    refine r_aload_n qL_law_429 rfl ?_
    refine r_aload_n qL_law_430 rfl ?_
    refine r_iload qL_law_431 rfl ?_
    refine r_iconst (v := nI 1) qL_law_433 (by decide) ?_
    first | with_reducible refine r_iaddN qL_law_434 ?_ | refine r_iadd qL_law_434 ?_
    refine r_sld hX qL_law_435 (by omega) hL ?_
    refine r_cv1 (cu2 := CU + 1) (su2 := SU + 6) qL_law_436 kW_186 rfl (by decide +kernel) (c := 4) (by assumption) (by decide) rfl rfl rfl rfl (lbc (by omega)) (lbs (by omega)) ?_
    refine c_X4_truncate hW e2 e3 (fun h i2 e2 p2 => ?_) (fun h => absurd h h0)
    show zR E _ _ X 439 _ _ _ _ _ _ _
    refine r_is_9_6 qL_law_439 rfl rfl ?_
    refine r_aload_n qL_law_441 rfl ?_
    refine r_cv0 (cu2 := CU + 1) (su2 := SU + 6) qL_law_442 kW_180 rfl (by decide +kernel) (c := 4) (by assumption) (by decide) rfl rfl rfl rfl (lbc (by omega)) (lbs (by omega)) ?_
    refine c_X4_thrown w1 ?_
    rw [e2, pk_us, c3, if_pos h0]
    show zR E _ _ X 445 _ _ _ _ _ _ _
    refine r_iload qL_law_445 rfl ?_
    refine r_icmp_eq (t := 452) qL_law_447 (by decide) (fun hc447 => ?_) (fun hc447 => absurd hc447 (fun h => h rfl))
    refine r_iload qL_law_452 rfl ?_
    refine r_if_ne (t := 469) qL_law_454 (by decide) (fun hc454 => ?_) (fun hc454 => absurd hc454 (by decide))
    refine r_goto (t := 3557) qL_law_469 (by decide) ?_
    exact KN _ _ _ _ _ _ _ _ _ (by omega) (by omega) ⟨hS, _, _, _, _, hN.ask hS (fun r h1 _ _ => p2 r h1) (fun m hm => by rw [e2, pk_un hm]) (fun z hz => by rw [p2 _ (Ne.symm ((hS.di dM_x).2.2.2.2.2.2 1 _ (by decide) (by omega)))]; exact hN.1.2.2 1 (by decide) z hz) rfl⟩
  · show zR E _ _ X 427 _ _ _ _ _ _ _
    generalize hi1 : wA i rd (upd (i rd) 2 (xs (q + 1))) = i1
    have r1 : i1 rd = upd (i rd) 2 (xs (q + 1)) := by rw [← hi1, wA_s]
    have p1 : ∀ r, r ≠ rd → i1 r = i r := fun r hr => by rw [← hi1, wA_n hr]
    clear hi1
    have e1x : i1 x = i x := p1 x (hS.di dM_x).2.1
    obtain ⟨ev, hv⟩ := nn_nat h0
    refine r_is_9_5 qL_law_427 rfl rfl ?_
    refine r_aload_n qL_law_429 rfl ?_
    refine r_aload_n qL_law_430 rfl ?_
    refine r_iload qL_law_431 rfl ?_
    refine r_iconst (v := nI 1) qL_law_433 (by decide) ?_
    first | with_reducible refine r_iaddN qL_law_434 ?_ | refine r_iadd qL_law_434 ?_
    refine r_sld hX qL_law_435 (by omega) hL ?_
    refine r_cv1 (cu2 := CU + 1) (su2 := SU + 6) qL_law_436 kW_186 rfl (by decide +kernel) (c := 4) (by assumption) (by decide) rfl rfl rfl rfl (lbc (by omega)) (lbs (by omega)) ?_
    refine c_X4_truncate (f := L) hW (by rw [e1x]; exact e2) e3 (fun h => absurd h0 h) (fun h i2 e2' p2 => ?_)
    show zR E _ _ X 439 _ _ _ _ _ _ _
    refine r_is_9_6 qL_law_439 rfl rfl ?_
    refine r_aload_n qL_law_441 rfl ?_
    refine r_cv0 (cu2 := CU + 1) (su2 := SU + 6) qL_law_442 kW_180 rfl (by decide +kernel) (c := 4) (by assumption) (by decide) rfl rfl rfl rfl (lbc (by omega)) (lbs (by omega)) ?_
    refine c_X4_thrown w1 ?_
    rw [e2', pk_un (by decide), pk_us]
    show zR E _ _ X 445 _ _ _ _ _ _ _
    refine r_iload qL_law_445 rfl ?_
    refine r_icmp_eq (t := 452) qL_law_447 (by decide) (fun hc447 => ?_) (fun hc447 => absurd hc447 (fun h => h rfl))
    refine r_iload qL_law_452 rfl ?_
    refine r_if_ne (t := 469) qL_law_454 (by decide) (fun hc454 => absurd hc454 (by decide)) (fun hc454 => ?_)
    refine r_aload_n qL_law_457 rfl ?_
    refine r_iconst (v := nI 0) qL_law_458 (by decide) ?_
    refine r_lald qL_law_459 (by assumption) (in_0 o1.2) ?_
    refine r_iload qL_law_460 rfl ?_
    refine r_i2l qL_law_462 ?_
    refine r_lcmp qL_law_463 ?_
    refine r_if_eq (t := 469) qL_law_464 (by decide) (fun hc464 => ?_) (fun hc464 => absurd hc464 (fun h => h ((lg_cmp_eq _ _).mpr hj1)))
    refine r_goto (t := 3557) qL_law_469 (by decide) ?_
    exact KN _ _ _ _ _ _ _ _ _ (by omega) (by omega) ⟨hS, _, _, _, _, hN.txt hS (fun r h1 h2 h3 h4 => (p2 r h1).trans (p1 r h3)) (fun m hm0 hm5 => by rw [e2', pk_un hm5, pk_un hm0, e1x]) (hj1n _ jx) (L2 := zn (xs (q + 1))) ⟨by rw [p2 rd (Ne.symm (hS.di dM_x).2.1), r1, pk_us]; exact ev, by rw [e2', pk_us]; exact ev, by omega, by rw [p2 tx (Ne.symm (hS.di dM_x).2.2.1), p1 tx (k_ne hS.ktx hS.krd (by decide))]; exact e4, by rw [p2 b (k_ne hW.2.2.2.2.2.2.2.2.2.1.1 w1 (by decide)), p1 b (hS.di dM_b).2.1]; exact e5, by rw [p2 tx (Ne.symm (hS.di dM_x).2.2.1), p1 tx (k_ne hS.ktx hS.krd (by decide)), p2 b (k_ne hW.2.2.2.2.2.2.2.2.2.1.1 w1 (by decide)), p1 b (hS.di dM_b).2.1]; exact fun k hk => e6 k (by omega)⟩⟩

