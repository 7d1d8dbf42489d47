/-! ===== P67: LOADING ===== -/
theorem zBs.new {g g' : Sh} {i i' : Ni} {j j' : Nj} {r : Nat} {W : List Int32} (gz : gT g 0 = 0) (r0 : r ≠ 0) (rf : gT g r = 0) (hB : zBu g' i' r W) (hF : zBf r (wN g r 6 0) (wA i r (fun _ => 0)) (wB j r (fun _ => 0)) g' i' j') : zBs g i j g' i' j' r W := by
  have gz2 : gT (wN g r 6 0) 0 = 0 := by rw [gT_wN, if_neg (Ne.symm r0)]; exact gz
  exact ⟨zNa2.of rf ((zNf.new rf).trans (zBf.nf gz2 hF)), hB, rf, zBf.nb gz2 hF⟩
theorem zBs.outer {g g5 g6 : Sh} {i i5 i6 : Ni} {j j5 j6 : Nj} {b : Nat} {W : List Int32} (bf : gT g b = 0) (F : zNa2 (wN g b 6 0) (wA i b (fun _ => 0)) (wB j b (fun _ => 0)) g5 i5 j5) (hB : zBu g6 i6 b W) (hN : zBn b g5 i5 j5 g6 i6 j6) : zBs g i j g6 i6 j6 b W := by
  refine ⟨zNa2.of bf (((zNf.new bf).trans (F b)).trans hN.2), hB, bf, ?_⟩
  have h1 := (F 0).fr hN.1
  rw [gT_wN] at h1
  split at h1
  · exact absurd h1 (by decide)
  · exact h1
theorem lit_nm {q : Nat} : lit (24 + q) = nm7 q := by
  rw [lit, if_neg (by omega), if_neg (by omega), if_neg (by omega), if_neg (by omega), if_neg (by omega), if_neg (by omega), if_neg (by omega), if_neg (by omega), if_neg (by omega), show 24 + q - 24 = q by omega]
theorem lit_nb {q : Nat} : lit (27 + q) = nm7 (3 + q) := by rw [show 27 + q = 24 + (3 + q) by omega, lit_nm]
theorem e_gal (E : Ev) {n : Nat} (h : lit n = if vRm E < 0 then [nI 45] else []) : [] ++ lit 15 ++ lit n ++ dig (vRm E).toInt.natAbs ++ lit 18 ++ dig (vLg E) ++ lit 19 = xS E 0 := by
  have h2 := vLg_in E
  have e : (nI (vLg E)).toInt.natAbs = vLg E := by rw [nI_toInt (by omega)]; rfl
  rw [xS, gT_, dgP, h, e, show lit 15 = wGal ++ [nI 32] from rfl, show lit 18 = [nI 32] from rfl, show lit 19 = [nI 59] from rfl]
  simp only [List.append_assoc, List.cons_append, List.nil_append]
theorem e_spi (E : Ev) (k : Nat) : xS E k ++ lit 20 ++ lit (24 + k) ++ lit 18 ++ dig (vEx E k) ++ lit 19 = xS E (k + 1) := by
  rw [xS, sT_, lit_nm, show lit 20 = wSpi ++ [nI 32] from rfl, show lit 18 = [nI 32] from rfl, show lit 19 = [nI 59] from rfl]
  simp only [List.append_assoc, List.cons_append, List.nil_append]
theorem e_bat (E : Ev) (k : Nat) {n : Nat} (h : lit n = if vDg E k < 0 then [nI 32, nI 45, nI 32] else [nI 32]) : xB E k ++ lit 21 ++ lit (27 + k) ++ lit n ++ dig (vDg E k).toInt.natAbs ++ lit 19 = xB E (k + 1) := by
  rw [xB, bT_, dgP, lit_nb, h, show lit 21 = wBat ++ [nI 32] from rfl, show lit 19 = [nI 59] from rfl]
  split <;> simp only [List.append_assoc, List.cons_append, List.nil_append]
theorem e_tub (E : Ev) (k : Nat) : xT E k ++ lit 23 ++ lit (24 + vSp E k) ++ lit 18 ++ dig (vBu E k) ++ lit 18 ++ dig (vBo E k) ++ lit 18 ++ dig (vLe E k) ++ lit 18 ++ dig (vFi E k) ++ lit 19 = xT E (k + 1) := by
  rw [xT, uT_, lit_nm, show lit 23 = wTub ++ [nI 32] from rfl, show lit 18 = [nI 32] from rfl, show lit 19 = [nI 59] from rfl]
  simp only [List.append_assoc, List.cons_append, List.nil_append]
theorem lit_8 {n : Nat} (h1 : 15 ≤ n) (h2 : n < 31) : (lit n).length ≤ 8 := (lit_ok h1 h2).1
theorem sIn_0 {N : Nat → Int32} {b : Int32} (hb : ¬ b = -1) : ∀ m, (∀ k, k < m → N (42 + 21 * k + 7) = -1) → sIn N b m = nI 0
  | 0, _ => rfl
  | m + 1, h => by rw [sIn, sIn_0 hb m (fun k hk => h k (by omega)), h m (by omega), if_neg (fun e => hb e.symm), add_nI0]
theorem nI_nm1 {b : Nat} (h : b < 100) : ¬ nI b = -1 := fun e => by
  have := congrArg Int32.toInt e
  rw [nI_toInt (by omega), show ((-1 : Int32)).toInt = -1 by decide] at this
  omega
theorem kn_ne {g : Sh} {r q t v : Nat} (hr : gT g r = t) (hq : gT g q = v) (h : t ≠ v) : r ≠ q := fun e => h (by rw [← hr, ← hq, e])
set_option maxHeartbeats 4000000 in
set_option maxRecDepth 20000 in
theorem c_L_load {E : Ev} {g : Sh} {i : Ni} {j : Nj} {K : Kp} {c rd tx ur sl sf sb : Nat} {A : Nat → Nat → Nat} {N : Nat → Int32} (hY : zY g c rd tx ur sl sf sb A) (hH : zH i (A 0) N) (hu : i c 7 = nI 0) (hw : i c 8 = nI 0) (hN : ∀ n, n < 11 → zNo i (A n)) (hL : i rd 2 = nI 0) (hBy : zByt (i tx)) (hK : ∀ (g' : Sh) (i' : Ni) (j' : Nj), zY g' c rd tx ur sl sf sb A → zH i' (A 0) (rowL E) → i' c 7 = nI 1 → i' c 8 = nI 1 → (∀ n, n < 11 → zNo i' (A n)) → K (.inl (some (.int (nI 1)))) g' i' j') : zCon E mL_load [.ref c, .ref (eS E 4 + 1)] g i j K := by
  refine zcon_of (by decide +kernel) rfl rfl (lo := [.ref c, .ref (eS E 4 + 1), zJ, zJ]) rfl (fun X => ?_)
  have hS3 := vS_lt E
  have hB4 := vB_lt E
  have hT5 := vT_lt E
  have hD := rowL_d E
  have eT := hD.T
  have eSS := hD.S
  have eBB : zn (rowL E 4) = vB E := by rw [hD.2.1, zn_nI (by omega)]
  have KC : ∀ (g1 : Sh) (i3 : Ni) (j1 : Nj), zX3 g1 c (A 0) → zH i3 (A 0) (rowL E) → K (.inl (some (.int (nI 1)))) g1 i3 j1 → ∀ (b : Nat) (z : Value), ∀ CU SU : Nat, CU ≤ 160 → SU ≤ 74000 → zR E mL_load (zZ E mL_load K) X 342 [.ref c, .ref (eS E 4 + 1), .ref b, z] [] g1 i3 j1 CU SU := by
    intro g1 i3 j1 hX hH hK9 b z CU SU hCU hSU
    have x1 := hX.1
    have K409 : ∀ n k : Nat, k + n = vT E → ∀ CU SU : Nat, CU + 6 * n ≤ 220 → SU + 36 * n ≤ 75000 → zR E mL_load (zZ E mL_load K) X 409 [.ref c, .ref (eS E 4 + 1), .ref b, .int (nI k)] [] g1 i3 j1 CU SU := by
      intro n
      induction n with
      | zero =>
        intro k hk CU SU hCU hSU
        obtain rfl : k = vT E := by omega
        refine r_iload_n qL_load_409 rfl ?_
        refine r_aload_n qL_load_410 rfl ?_
        refine r_cs1 (cu2 := CU) (su2 := SU) qL_load_411 kL_106 rfl (by decide +kernel) rfl rfl rfl (lbx (m := 250) rfl (by omega)) (lbx (m := 80000) rfl (by omega)) ?_
        refine c_L_tubes ?_
        show zR E _ _ X 414 _ _ _ _ _ _ _
        refine r_icmp_ge (t := 491) qL_load_414 (by decide) (fun hc414 => ?_) (fun hc414 => absurd hc414 (fun h => h (Int32.le_refl _)))
        refine r_iconst (v := nI 1) qL_load_491 (by decide) ?_
        refine r_iret qL_load_492 rfl (by first | decide | exact zb_nar _ | assumption) (lbx (m := 250) rfl (by omega)) (lbx (m := 80000) rfl (by omega)) ?_
        exact hK9
      | succ n ih =>
        intro k hk CU SU hCU hSU
        have hkN : k < zn (rowL E 5) := by omega
        have ta : zTn E (rowL E) k := rT_tube E (by omega)
        obtain ⟨a0, a1, a2, a3, a4, a5, a6, a7, a8⟩ := ta
        have hS0 := vT_S (E := E) (k := k) (by omega)
        have m0 : sMany (rowL E) k = 0 := by rw [sMany, a8, zn0]
        refine r_iload_n qL_load_409 rfl ?_
        refine r_aload_n qL_load_410 rfl ?_
        refine r_cs1 (cu2 := CU) (su2 := SU) qL_load_411 kL_106 rfl (by decide +kernel) rfl rfl rfl (lbx (m := 250) rfl (by omega)) (lbx (m := 80000) rfl (by omega)) ?_
        refine c_L_tubes ?_
        show zR E _ _ X 414 _ _ _ _ _ _ _
        refine r_icmp_ge (t := 491) qL_load_414 (by decide) (fun hc414 => absurd hc414 (nI_ge (show k < vT E by omega) (by omega))) (fun hc414 => ?_)
        refine r_aload_n qL_load_417 rfl ?_
        refine r_iload_n qL_load_418 rfl ?_
        refine r_cv1 (cu2 := CU + 1) (su2 := SU + 6) qL_load_419 kL_159 rfl (by decide +kernel) (c := 3) (by assumption) (by decide) rfl rfl rfl rfl (lbx (m := 250) rfl (by omega)) (lbx (m := 80000) rfl (by omega)) ?_
        refine q_spiritOf hX hH hkN ?_
        rw [a0]
        show zR E _ _ X 422 _ _ _ _ _ _ _
        refine r_aload_n qL_load_422 rfl ?_
        refine r_iload_n qL_load_423 rfl ?_
        refine r_cs2 (cu2 := CU + 1) (su2 := SU + 6) qL_load_424 kL_111 rfl (by decide +kernel) rfl rfl rfl (lbx (m := 250) rfl (by omega)) (lbx (m := 80000) rfl (by omega)) ?_
        refine c_L_spirit (by omega) hS0 ?_
        show zR E _ _ X 427 _ _ _ _ _ _ _
        refine r_icmp_ne (t := 483) qL_load_427 (by decide) (fun hc427 => absurd hc427 (fun h => h rfl)) (fun hc427 => ?_)
        refine r_aload_n qL_load_430 rfl ?_
        refine r_iload_n qL_load_431 rfl ?_
        refine r_cv1 (cu2 := CU + 2) (su2 := SU + 12) qL_load_432 kL_162 rfl (by decide +kernel) (c := 3) (by assumption) (by decide) rfl rfl rfl rfl (lbx (m := 250) rfl (by omega)) (lbx (m := 80000) rfl (by omega)) ?_
        refine q_fillOf hX hH hkN ?_
        rw [a4]
        show zR E _ _ X 435 _ _ _ _ _ _ _
        refine r_aload_n qL_load_435 rfl ?_
        refine r_iload_n qL_load_436 rfl ?_
        refine r_cs2 (cu2 := CU + 2) (su2 := SU + 12) qL_load_437 kL_122 rfl (by decide +kernel) rfl rfl rfl (lbx (m := 250) rfl (by omega)) (lbx (m := 80000) rfl (by omega)) ?_
        refine c_L_fill (by omega) ?_
        show zR E _ _ X 440 _ _ _ _ _ _ _
        refine r_icmp_ne (t := 483) qL_load_440 (by decide) (fun hc440 => absurd hc440 (fun h => h rfl)) (fun hc440 => ?_)
        refine r_aload_n qL_load_443 rfl ?_
        refine r_iload_n qL_load_444 rfl ?_
        refine r_cv1 (cu2 := CU + 3) (su2 := SU + 18) qL_load_445 kL_165 rfl (by decide +kernel) (c := 3) (by assumption) (by decide) rfl rfl rfl rfl (lbx (m := 250) rfl (by omega)) (lbx (m := 80000) rfl (by omega)) ?_
        refine q_temperatureOf hX hH hkN ?_
        rw [a5]
        show zR E _ _ X 448 _ _ _ _ _ _ _
        refine r_bipush (v := nI 10) qL_load_448 (by decide) ?_
        refine r_aload_n qL_load_450 rfl ?_
        refine r_cs1 (cu2 := CU + 3) (su2 := SU + 18) qL_load_451 kL_56 rfl (by decide +kernel) rfl rfl rfl (lbx (m := 250) rfl (by omega)) (lbx (m := 80000) rfl (by omega)) ?_
        refine c_L_room ?_
        show zR E _ _ X 454 _ _ _ _ _ _ _
        first | with_reducible refine r_imulN qL_load_454 ?_ | refine r_imul qL_load_454 ?_
        refine r_icmp_ne (t := 483) qL_load_455 (by decide) (fun hc455 => absurd hc455 (fun h => h rfl)) (fun hc455 => ?_)
        refine r_aload_n qL_load_458 rfl ?_
        refine r_iload_n qL_load_459 rfl ?_
        refine r_cv1 (cu2 := CU + 4) (su2 := SU + 24) qL_load_460 kL_168 rfl (by decide +kernel) (c := 3) (by assumption) (by decide) rfl rfl rfl rfl (lbx (m := 250) rfl (by omega)) (lbx (m := 80000) rfl (by omega)) ?_
        refine q_bathOf hX hH hkN ?_
        rw [a7]
        show zR E _ _ X 463 _ _ _ _ _ _ _
        refine r_iconst (v := (-1)) qL_load_463 (by decide) ?_
        refine r_icmp_ne (t := 483) qL_load_464 (by decide) (fun hc464 => absurd hc464 (fun h => h rfl)) (fun hc464 => ?_)
        refine r_aload_n qL_load_467 rfl ?_
        refine r_iload_n qL_load_468 rfl ?_
        refine r_cv1 (cu2 := CU + 5) (su2 := SU + 30) qL_load_469 kL_171 rfl (by decide +kernel) (c := 3) (by assumption) (by decide) rfl rfl rfl rfl (lbx (m := 250) rfl (by omega)) (lbx (m := 80000) rfl (by omega)) ?_
        refine q_isLeaky hX hH hkN ?_
        rw [a6, zb_f (show ¬ nI 0 = nI 1 by decide)]
        show zR E _ _ X 472 _ _ _ _ _ _ _
        refine r_if_ne (t := 483) qL_load_472 (by decide) (fun hc472 => absurd hc472 (fun h => h rfl)) (fun hc472 => ?_)
        refine r_aload_n qL_load_475 rfl ?_
        refine r_iload_n qL_load_476 rfl ?_
        refine r_cv1 (cu2 := CU + 6) (su2 := SU + 36) qL_load_477 kL_175 rfl (by decide +kernel) (c := 3) (by assumption) (by decide) rfl rfl rfl rfl (lbx (m := 250) rfl (by omega)) (lbx (m := 80000) rfl (by omega)) ?_
        refine q_pointCount hX hH hkN ?_
        rw [m0]
        show zR E _ _ X 480 _ _ _ _ _ _ _
        refine r_if_eq (t := 485) qL_load_480 (by decide) (fun hc480 => ?_) (fun hc480 => absurd hc480 (fun h => h rfl))
        refine r_ii_4_3 qL_load_485 rfl rfl (nI_inc k) ?_
        refine r_goto (t := 409) qL_load_488 (by decide) ?_
        exact ih (k + 1) (by omega) _ _ (by omega) (by omega)
    have K383 : ∀ n k : Nat, k + n = vS E → ∀ CU SU : Nat, CU + n ≤ 185 → SU + 6 * n ≤ 74500 → zR E mL_load (zZ E mL_load K) X 383 [.ref c, .ref (eS E 4 + 1), .ref b, .int (nI k)] [] g1 i3 j1 CU SU := by
      intro n
      induction n with
      | zero =>
        intro k hk CU SU hCU hSU
        obtain rfl : k = vS E := by omega
        refine r_iload_n qL_load_383 rfl ?_
        refine r_aload_n qL_load_384 rfl ?_
        refine r_cs1 (cu2 := CU) (su2 := SU) qL_load_385 kL_44 rfl (by decide +kernel) rfl rfl rfl (lbx (m := 250) rfl (by omega)) (lbx (m := 80000) rfl (by omega)) ?_
        refine c_L_spirits ?_
        show zR E _ _ X 388 _ _ _ _ _ _ _
        refine r_icmp_ge (t := 407) qL_load_388 (by decide) (fun hc388 => ?_) (fun hc388 => absurd hc388 (fun h => h (Int32.le_refl _)))
        refine r_iconst (v := nI 0) qL_load_407 (by decide) ?_
        refine r_is_4_3 qL_load_408 rfl rfl ?_
        exact K409 (vT E) 0 (by omega) _ _ (by omega) (by omega)
      | succ n ih =>
        intro k hk CU SU hCU hSU
        refine r_iload_n qL_load_383 rfl ?_
        refine r_aload_n qL_load_384 rfl ?_
        refine r_cs1 (cu2 := CU) (su2 := SU) qL_load_385 kL_44 rfl (by decide +kernel) rfl rfl rfl (lbx (m := 250) rfl (by omega)) (lbx (m := 80000) rfl (by omega)) ?_
        refine c_L_spirits ?_
        show zR E _ _ X 388 _ _ _ _ _ _ _
        refine r_icmp_ge (t := 407) qL_load_388 (by decide) (fun hc388 => absurd hc388 (nI_ge (show k < vS E by omega) (by omega))) (fun hc388 => ?_)
        refine r_aload_n qL_load_391 rfl ?_
        refine r_iload_n qL_load_392 rfl ?_
        refine r_cv1 (cu2 := CU + 1) (su2 := SU + 6) qL_load_393 kL_156 rfl (by decide +kernel) (c := 3) (by assumption) (by decide) rfl rfl rfl rfl (lbx (m := 250) rfl (by omega)) (lbx (m := 80000) rfl (by omega)) ?_
        refine q_spiritLost hX hH (by omega) ?_
        rw [rowL_lost E k (by omega)]
        show zR E _ _ X 396 _ _ _ _ _ _ _
        refine r_if_eq (t := 401) qL_load_396 (by decide) (fun hc396 => ?_) (fun hc396 => absurd hc396 (fun h => h rfl))
        refine r_ii_4_3 qL_load_401 rfl rfl (nI_inc k) ?_
        refine r_goto (t := 383) qL_load_404 (by decide) ?_
        exact ih (k + 1) (by omega) _ _ (by omega) (by omega)
    have K344 : ∀ n k : Nat, k + n = vB E → ∀ CU SU : Nat, CU + 2 * n ≤ 180 → SU + 12 * n ≤ 74300 → zR E mL_load (zZ E mL_load K) X 344 [.ref c, .ref (eS E 4 + 1), .ref b, .int (nI k)] [] g1 i3 j1 CU SU := by
      intro n
      induction n with
      | zero =>
        intro k hk CU SU hCU hSU
        obtain rfl : k = vB E := by omega
        refine r_iload_n qL_load_344 rfl ?_
        refine r_aload_n qL_load_345 rfl ?_
        refine r_cs1 (cu2 := CU) (su2 := SU) qL_load_346 kL_93 rfl (by decide +kernel) rfl rfl rfl (lbx (m := 250) rfl (by omega)) (lbx (m := 80000) rfl (by omega)) ?_
        refine c_L_baths ?_
        show zR E _ _ X 349 _ _ _ _ _ _ _
        refine r_icmp_ge (t := 381) qL_load_349 (by decide) (fun hc349 => ?_) (fun hc349 => absurd hc349 (fun h => h (Int32.le_refl _)))
        refine r_iconst (v := nI 0) qL_load_381 (by decide) ?_
        refine r_is_4_3 qL_load_382 rfl rfl ?_
        exact K383 (vS E) 0 (by omega) _ _ (by omega) (by omega)
      | succ n ih =>
        intro k hk CU SU hCU hSU
        have e7 : sIn (rowL E) (nI k) (zn (rowL E 5)) = nI 0 := sIn_0 (nI_nm1 (by omega)) _ (fun q hq => (rT_tube E (q := q) (k := vT E) (by omega)).2.2.2.2.2.2.2.1)
        refine r_iload_n qL_load_344 rfl ?_
        refine r_aload_n qL_load_345 rfl ?_
        refine r_cs1 (cu2 := CU) (su2 := SU) qL_load_346 kL_93 rfl (by decide +kernel) rfl rfl rfl (lbx (m := 250) rfl (by omega)) (lbx (m := 80000) rfl (by omega)) ?_
        refine c_L_baths ?_
        show zR E _ _ X 349 _ _ _ _ _ _ _
        refine r_icmp_ge (t := 381) qL_load_349 (by decide) (fun hc349 => absurd hc349 (nI_ge (show k < vB E by omega) (by omega))) (fun hc349 => ?_)
        refine r_aload_n qL_load_352 rfl ?_
        refine r_iload_n qL_load_353 rfl ?_
        refine r_cv1 (cu2 := CU + 1) (su2 := SU + 6) qL_load_354 kL_150 rfl (by decide +kernel) (c := 3) (by assumption) (by decide) rfl rfl rfl rfl (lbx (m := 250) rfl (by omega)) (lbx (m := 80000) rfl (by omega)) ?_
        refine q_bathDegrees hX hH (by omega) ?_
        rw [hD.2.2.2.2.1 k (by omega)]
        show zR E _ _ X 357 _ _ _ _ _ _ _
        refine r_aload_n qL_load_357 rfl ?_
        refine r_iload_n qL_load_358 rfl ?_
        refine r_cs2 (cu2 := CU + 1) (su2 := SU + 6) qL_load_359 kL_101 rfl (by decide +kernel) rfl rfl rfl (lbx (m := 250) rfl (by omega)) (lbx (m := 80000) rfl (by omega)) ?_
        refine c_L_degrees (by omega) ?_
        show zR E _ _ X 362 _ _ _ _ _ _ _
        refine r_icmp_ne (t := 373) qL_load_362 (by decide) (fun hc362 => absurd hc362 (fun h => h rfl)) (fun hc362 => ?_)
        refine r_aload_n qL_load_365 rfl ?_
        refine r_iload_n qL_load_366 rfl ?_
        refine r_cv1 (cu2 := CU + 2) (su2 := SU + 12) qL_load_367 kL_153 rfl (by decide +kernel) (c := 3) (by assumption) (by decide) rfl rfl rfl rfl (lbx (m := 250) rfl (by omega)) (lbx (m := 80000) rfl (by omega)) ?_
        refine q_tubesIn hX hH (by omega) ?_
        rw [e7]
        show zR E _ _ X 370 _ _ _ _ _ _ _
        refine r_if_eq (t := 375) qL_load_370 (by decide) (fun hc370 => ?_) (fun hc370 => absurd hc370 (fun h => h rfl))
        refine r_ii_4_3 qL_load_375 rfl rfl (nI_inc k) ?_
        refine r_goto (t := 344) qL_load_378 (by decide) ?_
        exact ih (k + 1) (by omega) _ _ (by omega) (by omega)
    refine r_iconst (v := nI 0) qL_load_342 (by decide) ?_
    refine r_is_4_3 qL_load_343 rfl rfl ?_
    exact K344 (vB E) 0 (by omega) _ _ (by omega) (by omega)
  have KF : ∀ (b : Nat) (g2 : Sh) (i2 : Ni) (j2 : Nj), zBs g i j g2 i2 j2 b (txL E) → ∀ z : Value, ∀ CU SU : Nat, CU ≤ 110 → SU ≤ 72000 → zR E mL_load (zZ E mL_load K) X 273 [.ref c, .ref (eS E 4 + 1), .ref b, z] [] g2 i2 j2 CU SU := by
    intro b g2 i2 j2 hZ z CU SU hCU hSU
    obtain ⟨l1, l2⟩ := xT_ok E (vT E) (Nat.le_refl _)
    have l3 := xT_12 E (vT E)
    have hW : (txL E).length = (xT E (vT E)).length := rfl
    refine r_aload_n qL_load_273 rfl ?_
    refine r_aload_n qL_load_274 rfl ?_
    refine r_cv0 (cu2 := CU + 2) (su2 := SU + 730) qL_load_275 kL_76 rfl (by decide +kernel) (c := 5) hZ.t (by decide) rfl rfl rfl rfl (lbx (m := 250) rfl (by omega)) (lbx (m := 80000) rfl (by omega)) ?_
    refine c_J4_toString_0e30d hZ.2.1 (fun u g1 i1 j1 u0 hM uf vf F5 => ?_)
    have F1 := hZ.1.trans F5
    have hY1 := hY.na2 F1
    have fc := F1.at (q := c) (by rw [hY.1]; decide)
    have frd := F1.at (q := rd) (by rw [hY.rdd.2.1]; decide)
    have ftx := F1.at (q := tx) (by rw [hY.rdd.2.2.2.2.1]; decide)
    have ne1 : gR g1 u 0 ≠ tx := fun e => by
      rw [e, (hZ.1.at (q := tx) (by rw [hY.rdd.2.2.2.2.1]; decide)).1, hY.rdd.2.2.2.2.1] at vf
      exact absurd vf (by decide)
    show zR E _ _ X 278 _ _ _ _ _ _ _
    refine r_cs2 (cu2 := CU + 42) (su2 := SU + 970) qL_load_278 kL_125 rfl (by decide +kernel) rfl rfl rfl (lbx (m := 250) rfl (by omega)) (lbx (m := 80000) rfl (by omega)) ?_
    refine c_L_feed hY1 (by rw [frd.2.2.2.2]; exact hL) hM ne1 (by omega) (by omega) l2 (by rw [ftx.2.2.2.2]; exact hBy) (fun i3 a1 a2 a3 a4 a5 => ?_)
    show zR E _ _ X 281 _ _ _ _ _ _ _
    refine r_aload_n qL_load_281 rfl ?_
    refine r_g0 (fun gz => ?_)
    have hc3 : i3 c = i c := (a5 c (kn_ne hY.1 hY.rdd.2.1 (by decide)) (kn_ne hY.1 hY.rdd.2.2.2.2.1 (by decide))).trans fc.2.2.2.2
    have hA3 : ∀ n, n < 11 → ∀ q, q < 30 → i3 (A n q) = i (A n q) := fun n hn q hq => (a5 _ (hY.an hn hq hY.rdd.2.1 (by decide)) (hY.an hn hq hY.rdd.2.2.2.2.1 (by decide))).trans (F1.at ((hY.cc hn).ty hq)).2.2.2.2
    have hH3 : zH i3 (A 0) N := hH.ou (hA3 0 (by decide))
    have hN3 : ∀ n, n < 11 → zNo i3 (A n) := fun n hn z hz => by rw [hA3 n hn _ (by omega)]; exact hN n hn z hz
    have hu3 : i3 c 7 = nI 0 := by rw [hc3]; exact hu
    have hw3 : i3 c 8 = nI 0 := by rw [hc3]; exact hw
    obtain ⟨t0, et⟩ := text_L (E := E) (B := i3 tx) (L := (txL E).length) ⟨Nat.zero_add _, fun k hk => by rw [Nat.zero_add]; exact a2 k hk⟩
    refine r_cv0 (cu2 := CU + 42) (su2 := SU + 970) qL_load_282 kL_129 rfl (by decide +kernel) (c := 3) hY1.1 (by decide) rfl rfl rfl rfl (lbx (m := 250) rfl (by omega)) (lbx (m := 80000) rfl (by omega)) ?_
    refine c_X3_load (u := 0) (w := 0) hY1 gz hH3 hu3 (by decide) hw3 (by decide) (hN3 (3 + 0) (by decide)) (hN3 2 (by decide)) a1 (by omega) rfl a3 (fun c' w' e => absurd (et.symm.trans e) (by intro h; cases h)) (fun t1 N2 e i4 z1 z2 z3 z4 z5 z6 z7 z8 z9 => ?_)
    have e9 : N2 = rowL E := by
      have := et.symm.trans e
      injection this with h
      injection h with h1 h2
      exact h2.symm
    subst e9
    have x1 := hY1.1
    have hX1 := hY1.x
    rw [show rowL E 5 = nI (vT E) from rT_5 E _]
    show zR E _ _ X 285 _ _ _ _ _ _ _
    refine r_aload_n qL_load_285 rfl ?_
    refine r_cs1 (cu2 := CU + 42) (su2 := SU + 970) qL_load_286 kL_106 rfl (by decide +kernel) rfl rfl rfl (lbx (m := 250) rfl (by omega)) (lbx (m := 80000) rfl (by omega)) ?_
    refine c_L_tubes ?_
    show zR E _ _ X 289 _ _ _ _ _ _ _
    refine r_icmp_ne (t := 340) qL_load_289 (by decide) (fun hc289 => absurd hc289 (fun h => h rfl)) (fun hc289 => ?_)
    refine r_aload_n qL_load_292 rfl ?_
    refine r_cv0 (cu2 := CU + 42) (su2 := SU + 970) qL_load_293 kL_132 rfl (by decide +kernel) (c := 3) x1 (by decide) rfl rfl rfl rfl (lbx (m := 250) rfl (by omega)) (lbx (m := 80000) rfl (by omega)) ?_
    refine c_X3_errorCode x1 ?_
    rw [z5]
    show zR E _ _ X 296 _ _ _ _ _ _ _
    refine r_if_ne (t := 340) qL_load_296 (by decide) (fun hc296 => absurd hc296 (fun h => h rfl)) (fun hc296 => ?_)
    refine r_aload_n qL_load_299 rfl ?_
    refine r_cv0 (cu2 := CU + 42) (su2 := SU + 970) qL_load_300 kL_135 rfl (by decide +kernel) (c := 3) x1 (by decide) rfl rfl rfl rfl (lbx (m := 250) rfl (by omega)) (lbx (m := 80000) rfl (by omega)) ?_
    refine c_X3_errorOffset x1 ?_
    rw [z6]
    show zR E _ _ X 303 _ _ _ _ _ _ _
    refine r_iconst (v := (-1)) qL_load_303 (by decide) ?_
    refine r_icmp_ne (t := 340) qL_load_304 (by decide) (fun hc304 => absurd hc304 (fun h => h rfl)) (fun hc304 => ?_)
    refine r_aload_n qL_load_307 rfl ?_
    refine r_cv0 (cu2 := CU + 42) (su2 := SU + 970) qL_load_308 kL_138 rfl (by decide +kernel) (c := 3) x1 (by decide) rfl rfl rfl rfl (lbx (m := 250) rfl (by omega)) (lbx (m := 80000) rfl (by omega)) ?_
    refine c_X3_minute hX1 z1 ?_
    rw [show rowL E 2 = nI 0 from (rT_lo E (by decide) (by decide) (by decide) (by decide) (by decide) _).trans (aGal_n (by decide) (by decide) (by decide))]
    show zR E _ _ X 311 _ _ _ _ _ _ _
    refine r_if_ne (t := 340) qL_load_311 (by decide) (fun hc311 => absurd hc311 (fun h => h rfl)) (fun hc311 => ?_)
    refine r_aload_n qL_load_314 rfl ?_
    refine r_cv0 (cu2 := CU + 42) (su2 := SU + 970) qL_load_315 kL_141 rfl (by decide +kernel) (c := 3) x1 (by decide) rfl rfl rfl rfl (lbx (m := 250) rfl (by omega)) (lbx (m := 80000) rfl (by omega)) ?_
    refine c_X3_roomDegrees hX1 z1 ?_
    rw [show rowL E 0 = vRm E from rT_room E _]
    show zR E _ _ X 318 _ _ _ _ _ _ _
    refine r_aload_n qL_load_318 rfl ?_
    refine r_cs1 (cu2 := CU + 42) (su2 := SU + 970) qL_load_319 kL_56 rfl (by decide +kernel) rfl rfl rfl (lbx (m := 250) rfl (by omega)) (lbx (m := 80000) rfl (by omega)) ?_
    refine c_L_room ?_
    show zR E _ _ X 322 _ _ _ _ _ _ _
    refine r_icmp_ne (t := 340) qL_load_322 (by decide) (fun hc322 => absurd hc322 (fun h => h rfl)) (fun hc322 => ?_)
    refine r_aload_n qL_load_325 rfl ?_
    refine r_cv0 (cu2 := CU + 42) (su2 := SU + 970) qL_load_326 kL_144 rfl (by decide +kernel) (c := 3) x1 (by decide) rfl rfl rfl rfl (lbx (m := 250) rfl (by omega)) (lbx (m := 80000) rfl (by omega)) ?_
    refine c_X3_thumbedTube hX1 z1 ?_
    rw [show rowL E 6 = -1 from (rT_lo E (by decide) (by decide) (by decide) (by decide) (by decide) _).trans (by rw [aGal, pk_un (by decide), pk_un (by decide), pk_us])]
    show zR E _ _ X 329 _ _ _ _ _ _ _
    refine r_iconst (v := (-1)) qL_load_329 (by decide) ?_
    refine r_icmp_ne (t := 340) qL_load_330 (by decide) (fun hc330 => absurd hc330 (fun h => h rfl)) (fun hc330 => ?_)
    refine r_aload_n qL_load_333 rfl ?_
    refine r_cv0 (cu2 := CU + 42) (su2 := SU + 970) qL_load_334 kL_147 rfl (by decide +kernel) (c := 3) x1 (by decide) rfl rfl rfl rfl (lbx (m := 250) rfl (by omega)) (lbx (m := 80000) rfl (by omega)) ?_
    refine c_X3_thumbLeft hX1 z1 ?_
    rw [show rowL E 7 = nI 0 from (rT_lo E (by decide) (by decide) (by decide) (by decide) (by decide) _).trans (aGal_n (by decide) (by decide) (by decide))]
    show zR E _ _ X 337 _ _ _ _ _ _ _
    refine r_if_eq (t := 342) qL_load_337 (by decide) (fun hc337 => ?_) (fun hc337 => absurd hc337 (fun h => h rfl))
    refine KC g1 i4 j1 hX1 z1 (hK g1 i4 j1 hY1 z1 z3 z4 (fun n hn => ?_)) _ _ _ _ (by omega) (by omega)
    by_cases n0 : n = 0
    · subst n0; exact z1.no
    by_cases n3 : n = 3 + 0
    · subst n3; exact z2.no
    by_cases n2 : n = 2
    · subst n2; exact z8
    intro z hz
    rw [z9 _ (hY.cn hn (by omega)) (hY.an hn (by omega) hY.rdd.2.1 (by decide)) (fun q hq => hY.ne hn (by decide) n2 (by omega) hq) (fun q hq => hY.ne hn (by decide) n0 (by omega) hq) (fun q hq => hY.ne hn (by decide) n3 (by omega) hq)]
    exact hN3 n hn z hz
  have KT : ∀ (n k : Nat), k + n = vT E → ∀ (b : Nat) (g2 : Sh) (i2 : Ni) (j2 : Nj), zBs g i j g2 i2 j2 b (xT E k) → ∀ CU SU : Nat, CU + 11 * n ≤ 110 → SU + 7920 * n ≤ 72000 → zR E mL_load (zZ E mL_load K) X 183 [.ref c, .ref (eS E 4 + 1), .ref b, .int (nI k)] [] g2 i2 j2 CU SU := by
    intro n
    induction n with
    | zero =>
      intro k hk b g2 i2 j2 hZ CU SU hCU hSU
      obtain rfl : k = vT E := by omega
      refine r_iload_n qL_load_183 rfl ?_
      refine r_aload_n qL_load_184 rfl ?_
      refine r_cs1 (cu2 := CU) (su2 := SU) qL_load_185 kL_106 rfl (by decide +kernel) rfl rfl rfl (lbx (m := 250) rfl (by omega)) (lbx (m := 80000) rfl (by omega)) ?_
      refine c_L_tubes ?_
      show zR E _ _ X 188 _ _ _ _ _ _ _
      refine r_icmp_ge (t := 273) qL_load_188 (by decide) (fun hc188 => ?_) (fun hc188 => absurd hc188 (fun h => h (Int32.le_refl _)))
      exact KF b _ _ _ hZ _ _ _ (by omega) (by omega)
    | succ n ih =>
      intro k hk b g2 i2 j2 hZ CU SU hCU hSU
      have hS0 := vT_S (E := E) (k := k) (by omega)
      have h4 := vSp_lt (k := k) hS0
      have l0 := (xT_ok E k (by omega)).1
      have l23 := lit_8 (n := 23) (by decide) (by decide)
      have l24 := lit_8 (n := 24 + vSp E k) (by omega) (by omega)
      have l18 := lit_8 (n := 18) (by decide) (by decide)
      have b1 := vBu_in E k
      have b2 := vBo_in E k
      have b3 := vLe_in E k
      have b4 := vFi_in E k
      have d1 := (dig_3 (n := vBu E k) (by omega)).1
      have d2 := (dig_3 (n := vBo E k) (by omega)).1
      have d3 := (dig_3 (n := vLe E k) (by omega)).1
      have d4 := (dig_3 (n := vFi E k) (by omega)).1
      have ee := e_tub E k
      refine r_iload_n qL_load_183 rfl ?_
      refine r_aload_n qL_load_184 rfl ?_
      refine r_cs1 (cu2 := CU) (su2 := SU) qL_load_185 kL_106 rfl (by decide +kernel) rfl rfl rfl (lbx (m := 250) rfl (by omega)) (lbx (m := 80000) rfl (by omega)) ?_
      refine c_L_tubes ?_
      show zR E _ _ X 188 _ _ _ _ _ _ _
      refine r_icmp_ge (t := 273) qL_load_188 (by decide) (fun hc188 => absurd hc188 (nI_ge (show k < vT E by omega) (by omega))) (fun hc188 => ?_)
      refine r_aload_n qL_load_191 rfl ?_
      refine r_ldcs (n := 23) qL_load_192 rfl ?_
      refine r_cv1 (cu2 := CU + 1) (su2 := SU + 720) qL_load_194 kL_53 rfl (by decide +kernel) (c := 5) hZ.t (by decide) rfl rfl rfl rfl (lbx (m := 250) rfl (by omega)) (lbx (m := 80000) rfl (by omega)) ?_
      refine c_lit (n := 23) (by decide) (by decide) hZ (by omega) (fun g2 i2 j2 hZ => ?_)
      show zR E _ _ X 197 _ _ _ _ _ _ _
      refine r_gSP qL_load_197 fL_85 ?_
      refine r_aload_n qL_load_200 rfl ?_
      refine r_iload_n qL_load_201 rfl ?_
      refine r_cs2 (cu2 := CU + 1) (su2 := SU + 720) qL_load_202 kL_111 rfl (by decide +kernel) rfl rfl rfl (lbx (m := 250) rfl (by omega)) (lbx (m := 80000) rfl (by omega)) ?_
      refine c_L_spirit (by omega) hS0 ?_
      show zR E _ _ X 205 _ _ _ _ _ _ _
      refine r_aSP qL_load_205 (by omega) ?_
      refine r_cv1 (cu2 := CU + 2) (su2 := SU + 1440) qL_load_206 kL_53 rfl (by decide +kernel) (c := 5) hZ.t (by decide) rfl rfl rfl rfl (lbx (m := 250) rfl (by omega)) (lbx (m := 80000) rfl (by omega)) ?_
      refine c_lit (n := 24 + vSp E k) (by omega) (by omega) hZ (by simp only [List.length_append]; omega) (fun g2 i2 j2 hZ => ?_)
      show zR E _ _ X 209 _ _ _ _ _ _ _
      refine r_ldcs (n := 18) qL_load_209 rfl ?_
      refine r_cv1 (cu2 := CU + 3) (su2 := SU + 2160) qL_load_211 kL_53 rfl (by decide +kernel) (c := 5) hZ.t (by decide) rfl rfl rfl rfl (lbx (m := 250) rfl (by omega)) (lbx (m := 80000) rfl (by omega)) ?_
      refine c_lit (n := 18) (by decide) (by decide) hZ (by simp only [List.length_append]; omega) (fun g2 i2 j2 hZ => ?_)
      show zR E _ _ X 214 _ _ _ _ _ _ _
      refine r_aload_n qL_load_214 rfl ?_
      refine r_iload_n qL_load_215 rfl ?_
      refine r_cs2 (cu2 := CU + 3) (su2 := SU + 2160) qL_load_216 kL_114 rfl (by decide +kernel) rfl rfl rfl (lbx (m := 250) rfl (by omega)) (lbx (m := 80000) rfl (by omega)) ?_
      refine c_L_bulb (by omega) ?_
      show zR E _ _ X 219 _ _ _ _ _ _ _
      refine r_cv1 (cu2 := CU + 4) (su2 := SU + 2880) qL_load_219 kL_66 rfl (by decide +kernel) (c := 5) hZ.t (by decide) rfl rfl rfl rfl (lbx (m := 250) rfl (by omega)) (lbx (m := 80000) rfl (by omega)) ?_
      refine c_nat (n := vBu E k) (by omega) hZ (by simp only [List.length_append]; omega) (fun g2 i2 j2 hZ => ?_)
      show zR E _ _ X 222 _ _ _ _ _ _ _
      refine r_ldcs (n := 18) qL_load_222 rfl ?_
      refine r_cv1 (cu2 := CU + 5) (su2 := SU + 3600) qL_load_224 kL_53 rfl (by decide +kernel) (c := 5) hZ.t (by decide) rfl rfl rfl rfl (lbx (m := 250) rfl (by omega)) (lbx (m := 80000) rfl (by omega)) ?_
      refine c_lit (n := 18) (by decide) (by decide) hZ (by simp only [List.length_append]; omega) (fun g2 i2 j2 hZ => ?_)
      show zR E _ _ X 227 _ _ _ _ _ _ _
      refine r_aload_n qL_load_227 rfl ?_
      refine r_iload_n qL_load_228 rfl ?_
      refine r_cs2 (cu2 := CU + 5) (su2 := SU + 3600) qL_load_229 kL_117 rfl (by decide +kernel) rfl rfl rfl (lbx (m := 250) rfl (by omega)) (lbx (m := 80000) rfl (by omega)) ?_
      refine c_L_bore (by omega) ?_
      show zR E _ _ X 232 _ _ _ _ _ _ _
      refine r_cv1 (cu2 := CU + 6) (su2 := SU + 4320) qL_load_232 kL_66 rfl (by decide +kernel) (c := 5) hZ.t (by decide) rfl rfl rfl rfl (lbx (m := 250) rfl (by omega)) (lbx (m := 80000) rfl (by omega)) ?_
      refine c_nat (n := vBo E k) (by omega) hZ (by simp only [List.length_append]; omega) (fun g2 i2 j2 hZ => ?_)
      show zR E _ _ X 235 _ _ _ _ _ _ _
      refine r_ldcs (n := 18) qL_load_235 rfl ?_
      refine r_cv1 (cu2 := CU + 7) (su2 := SU + 5040) qL_load_237 kL_53 rfl (by decide +kernel) (c := 5) hZ.t (by decide) rfl rfl rfl rfl (lbx (m := 250) rfl (by omega)) (lbx (m := 80000) rfl (by omega)) ?_
      refine c_lit (n := 18) (by decide) (by decide) hZ (by simp only [List.length_append]; omega) (fun g2 i2 j2 hZ => ?_)
      show zR E _ _ X 240 _ _ _ _ _ _ _
      refine r_aload_n qL_load_240 rfl ?_
      refine r_iload_n qL_load_241 rfl ?_
      refine r_cs2 (cu2 := CU + 7) (su2 := SU + 5040) qL_load_242 kL_120 rfl (by decide +kernel) rfl rfl rfl (lbx (m := 250) rfl (by omega)) (lbx (m := 80000) rfl (by omega)) ?_
      refine c_L_length (by omega) ?_
      show zR E _ _ X 245 _ _ _ _ _ _ _
      refine r_cv1 (cu2 := CU + 8) (su2 := SU + 5760) qL_load_245 kL_66 rfl (by decide +kernel) (c := 5) hZ.t (by decide) rfl rfl rfl rfl (lbx (m := 250) rfl (by omega)) (lbx (m := 80000) rfl (by omega)) ?_
      refine c_nat (n := vLe E k) (by omega) hZ (by simp only [List.length_append]; omega) (fun g2 i2 j2 hZ => ?_)
      show zR E _ _ X 248 _ _ _ _ _ _ _
      refine r_ldcs (n := 18) qL_load_248 rfl ?_
      refine r_cv1 (cu2 := CU + 9) (su2 := SU + 6480) qL_load_250 kL_53 rfl (by decide +kernel) (c := 5) hZ.t (by decide) rfl rfl rfl rfl (lbx (m := 250) rfl (by omega)) (lbx (m := 80000) rfl (by omega)) ?_
      refine c_lit (n := 18) (by decide) (by decide) hZ (by simp only [List.length_append]; omega) (fun g2 i2 j2 hZ => ?_)
      show zR E _ _ X 253 _ _ _ _ _ _ _
      refine r_aload_n qL_load_253 rfl ?_
      refine r_iload_n qL_load_254 rfl ?_
      refine r_cs2 (cu2 := CU + 9) (su2 := SU + 6480) qL_load_255 kL_122 rfl (by decide +kernel) rfl rfl rfl (lbx (m := 250) rfl (by omega)) (lbx (m := 80000) rfl (by omega)) ?_
      refine c_L_fill (by omega) ?_
      show zR E _ _ X 258 _ _ _ _ _ _ _
      refine r_cv1 (cu2 := CU + 10) (su2 := SU + 7200) qL_load_258 kL_66 rfl (by decide +kernel) (c := 5) hZ.t (by decide) rfl rfl rfl rfl (lbx (m := 250) rfl (by omega)) (lbx (m := 80000) rfl (by omega)) ?_
      refine c_nat (n := vFi E k) (by omega) hZ (by simp only [List.length_append]; omega) (fun g2 i2 j2 hZ => ?_)
      show zR E _ _ X 261 _ _ _ _ _ _ _
      refine r_ldcs (n := 19) qL_load_261 rfl ?_
      refine r_cv1 (cu2 := CU + 11) (su2 := SU + 7920) qL_load_263 kL_53 rfl (by decide +kernel) (c := 5) hZ.t (by decide) rfl rfl rfl rfl (lbx (m := 250) rfl (by omega)) (lbx (m := 80000) rfl (by omega)) ?_
      refine c_lit (n := 19) (by decide) (by decide) hZ (by simp only [List.length_append]; omega) (fun g2 i2 j2 hZ => ?_)
      rw [ee] at hZ
      show zR E _ _ X 266 _ _ _ _ _ _ _
      refine r_pop qL_load_266 rfl ?_
      refine r_ii_4_3 qL_load_267 rfl rfl (nI_inc k) ?_
      refine r_goto (t := 183) qL_load_270 (by decide) ?_
      exact ih (k + 1) (by omega) b _ _ _ hZ _ _ (by omega) (by omega)
  have KB : ∀ (n k : Nat), k + n = vB E → ∀ (b : Nat) (g2 : Sh) (i2 : Ni) (j2 : Nj), zBs g i j g2 i2 j2 b (xB E k) → ∀ CU SU : Nat, CU + 5 * n ≤ 55 → SU + 3600 * n ≤ 32400 → zR E mL_load (zZ E mL_load K) X 118 [.ref c, .ref (eS E 4 + 1), .ref b, .int (nI k)] [] g2 i2 j2 CU SU := by
    intro n
    induction n with
    | zero =>
      intro k hk b g2 i2 j2 hZ CU SU hCU hSU
      obtain rfl : k = vB E := by omega
      refine r_iload_n qL_load_118 rfl ?_
      refine r_aload_n qL_load_119 rfl ?_
      refine r_cs1 (cu2 := CU) (su2 := SU) qL_load_120 kL_93 rfl (by decide +kernel) rfl rfl rfl (lbx (m := 250) rfl (by omega)) (lbx (m := 80000) rfl (by omega)) ?_
      refine c_L_baths ?_
      show zR E _ _ X 123 _ _ _ _ _ _ _
      refine r_icmp_ge (t := 181) qL_load_123 (by decide) (fun hc123 => ?_) (fun hc123 => absurd hc123 (fun h => h (Int32.le_refl _)))
      refine r_iconst (v := nI 0) qL_load_181 (by decide) ?_
      refine r_is_4_3 qL_load_182 rfl rfl ?_
      exact KT (vT E) 0 (by omega) b _ _ _ hZ _ _ (by omega) (by omega)
    | succ n ih =>
      intro k hk b g2 i2 j2 hZ CU SU hCU hSU
      have l0 := (xB_ok E k (by omega)).1
      have l21 := lit_8 (n := 21) (by decide) (by decide)
      have l27 := lit_8 (n := 27 + k) (by omega) (by omega)
      have hv := vDg_in E k
      have d1 := (dig_3 (n := (vDg E k).toInt.natAbs) (by have := hv.1; have := hv.2; omega)).1
      have ej := jabs_n (v := vDg E k) ⟨by have := hv.1; omega, by have := hv.2; omega⟩
      have K155 : ∀ (p : Nat) (g2 : Sh) (i2 : Ni) (j2 : Nj), zBs g i j g2 i2 j2 b (xB E k ++ lit 21 ++ lit (27 + k)) → 15 ≤ p → p < 31 → lit p = (if vDg E k < 0 then [nI 32, nI 45, nI 32] else [nI 32]) → zR E mL_load (zZ E mL_load K) X 155 [.ref c, .ref (eS E 4 + 1), .ref b, .int (nI k)] [.ref (eK E p + 1), .ref b] g2 i2 j2 (CU + 2) (SU + 1440) := by
        intro p g2 i2 j2 hZ p1 p2 ep
        have lp := lit_8 p1 p2
        have ee := e_bat E k ep
        refine r_cv1 (cu2 := CU + 3) (su2 := SU + 2160) qL_load_155 kL_53 rfl (by decide +kernel) (c := 5) hZ.t (by decide) rfl rfl rfl rfl (lbx (m := 250) rfl (by omega)) (lbx (m := 80000) rfl (by omega)) ?_
        refine c_lit (n := p) p1 p2 hZ (by simp only [List.length_append]; omega) (fun g2 i2 j2 hZ => ?_)
        show zR E _ _ X 158 _ _ _ _ _ _ _
        refine r_aload_n qL_load_158 rfl ?_
        refine r_iload_n qL_load_159 rfl ?_
        refine r_cs2 (cu2 := CU + 3) (su2 := SU + 2160) qL_load_160 kL_101 rfl (by decide +kernel) rfl rfl rfl (lbx (m := 250) rfl (by omega)) (lbx (m := 80000) rfl (by omega)) ?_
        refine c_L_degrees (by omega) ?_
        show zR E _ _ X 163 _ _ _ _ _ _ _
        refine r_mabs qL_load_163 kL_63 rfl rfl (lbx (m := 250) rfl (by omega)) (lbx (m := 80000) rfl (by omega)) ?_
        rw [ej]
        refine r_cv1 (cu2 := CU + 4) (su2 := SU + 2880) qL_load_166 kL_66 rfl (by decide +kernel) (c := 5) hZ.t (by decide) rfl rfl rfl rfl (lbx (m := 250) rfl (by omega)) (lbx (m := 80000) rfl (by omega)) ?_
        refine c_nat (n := (vDg E k).toInt.natAbs) (by have := hv.1; have := hv.2; omega) hZ (by simp only [List.length_append]; omega) (fun g2 i2 j2 hZ => ?_)
        show zR E _ _ X 169 _ _ _ _ _ _ _
        refine r_ldcs (n := 19) qL_load_169 rfl ?_
        refine r_cv1 (cu2 := CU + 5) (su2 := SU + 3600) qL_load_171 kL_53 rfl (by decide +kernel) (c := 5) hZ.t (by decide) rfl rfl rfl rfl (lbx (m := 250) rfl (by omega)) (lbx (m := 80000) rfl (by omega)) ?_
        refine c_lit (n := 19) (by decide) (by decide) hZ (by simp only [List.length_append]; omega) (fun g2 i2 j2 hZ => ?_)
        rw [ee] at hZ
        show zR E _ _ X 174 _ _ _ _ _ _ _
        refine r_pop qL_load_174 rfl ?_
        refine r_ii_4_3 qL_load_175 rfl rfl (nI_inc k) ?_
        refine r_goto (t := 118) qL_load_178 (by decide) ?_
        exact ih (k + 1) (by omega) b _ _ _ hZ _ _ (by omega) (by omega)
      refine r_iload_n qL_load_118 rfl ?_
      refine r_aload_n qL_load_119 rfl ?_
      refine r_cs1 (cu2 := CU) (su2 := SU) qL_load_120 kL_93 rfl (by decide +kernel) rfl rfl rfl (lbx (m := 250) rfl (by omega)) (lbx (m := 80000) rfl (by omega)) ?_
      refine c_L_baths ?_
      show zR E _ _ X 123 _ _ _ _ _ _ _
      refine r_icmp_ge (t := 181) qL_load_123 (by decide) (fun hc123 => absurd hc123 (nI_ge (show k < vB E by omega) (by omega))) (fun hc123 => ?_)
      refine r_aload_n qL_load_126 rfl ?_
      refine r_ldcs (n := 21) qL_load_127 rfl ?_
      refine r_cv1 (cu2 := CU + 1) (su2 := SU + 720) qL_load_129 kL_53 rfl (by decide +kernel) (c := 5) hZ.t (by decide) rfl rfl rfl rfl (lbx (m := 250) rfl (by omega)) (lbx (m := 80000) rfl (by omega)) ?_
      refine c_lit (n := 21) (by decide) (by decide) hZ (by omega) (fun g2 i2 j2 hZ => ?_)
      show zR E _ _ X 132 _ _ _ _ _ _ _
      refine r_gBA qL_load_132 fL_98 ?_
      refine r_iload_n qL_load_135 rfl ?_
      refine r_aBA qL_load_136 (by omega) ?_
      refine r_cv1 (cu2 := CU + 2) (su2 := SU + 1440) qL_load_137 kL_53 rfl (by decide +kernel) (c := 5) hZ.t (by decide) rfl rfl rfl rfl (lbx (m := 250) rfl (by omega)) (lbx (m := 80000) rfl (by omega)) ?_
      refine c_lit (n := 27 + k) (by omega) (by omega) hZ (by simp only [List.length_append]; omega) (fun g2 i2 j2 hZ => ?_)
      show zR E _ _ X 140 _ _ _ _ _ _ _
      refine r_aload_n qL_load_140 rfl ?_
      refine r_iload_n qL_load_141 rfl ?_
      refine r_cs2 (cu2 := CU + 2) (su2 := SU + 1440) qL_load_142 kL_101 rfl (by decide +kernel) rfl rfl rfl (lbx (m := 250) rfl (by omega)) (lbx (m := 80000) rfl (by omega)) ?_
      refine c_L_degrees (by omega) ?_
      show zR E _ _ X 145 _ _ _ _ _ _ _
      refine r_if_ge (t := 153) qL_load_145 (by decide) (fun hc145 => ?_) (fun hc145 => ?_)
      · refine r_ldcs (n := 18) qL_load_153 rfl ?_
        first | exact K155 22 _ _ _ hZ (by decide) (by decide) (by rw [if_pos (Int32.not_le.mp hc145)]; rfl) | exact K155 18 _ _ _ hZ (by decide) (by decide) (by rw [if_neg (Int32.not_lt.mpr hc145)]; rfl)
      · refine r_ldcs (n := 22) qL_load_148 rfl ?_
        refine r_goto (t := 155) qL_load_150 (by decide) ?_
        first | exact K155 22 _ _ _ hZ (by decide) (by decide) (by rw [if_pos (Int32.not_le.mp hc145)]; rfl) | exact K155 18 _ _ _ hZ (by decide) (by decide) (by rw [if_neg (Int32.not_lt.mpr hc145)]; rfl)
  have KS : ∀ (n k : Nat), k + n = vS E → ∀ (b : Nat) (g2 : Sh) (i2 : Ni) (j2 : Nj), zBs g i j g2 i2 j2 b (xS E k) → ∀ CU SU : Nat, CU + 5 * n ≤ 35 → SU + 3600 * n ≤ 18000 → zR E mL_load (zZ E mL_load K) X 69 [.ref c, .ref (eS E 4 + 1), .ref b, .int (nI k)] [] g2 i2 j2 CU SU := by
    intro n
    induction n with
    | zero =>
      intro k hk b g2 i2 j2 hZ CU SU hCU hSU
      obtain rfl : k = vS E := by omega
      refine r_iload_n qL_load_69 rfl ?_
      refine r_aload_n qL_load_70 rfl ?_
      refine r_cs1 (cu2 := CU) (su2 := SU) qL_load_71 kL_44 rfl (by decide +kernel) rfl rfl rfl (lbx (m := 250) rfl (by omega)) (lbx (m := 80000) rfl (by omega)) ?_
      refine c_L_spirits ?_
      show zR E _ _ X 74 _ _ _ _ _ _ _
      refine r_icmp_ge (t := 116) qL_load_74 (by decide) (fun hc74 => ?_) (fun hc74 => absurd hc74 (fun h => h (Int32.le_refl _)))
      refine r_iconst (v := nI 0) qL_load_116 (by decide) ?_
      refine r_is_4_3 qL_load_117 rfl rfl ?_
      exact KB (vB E) 0 (by omega) b _ _ _ hZ _ _ (by omega) (by omega)
    | succ n ih =>
      intro k hk b g2 i2 j2 hZ CU SU hCU hSU
      have l0 := (xS_ok E k (by omega)).1
      have l20 := lit_8 (n := 20) (by decide) (by decide)
      have l24 := lit_8 (n := 24 + k) (by omega) (by omega)
      have l18 := lit_8 (n := 18) (by decide) (by decide)
      have b1 := vEx_in E k
      have d1 := (dig_3 (n := vEx E k) (by omega)).1
      have ee := e_spi E k
      refine r_iload_n qL_load_69 rfl ?_
      refine r_aload_n qL_load_70 rfl ?_
      refine r_cs1 (cu2 := CU) (su2 := SU) qL_load_71 kL_44 rfl (by decide +kernel) rfl rfl rfl (lbx (m := 250) rfl (by omega)) (lbx (m := 80000) rfl (by omega)) ?_
      refine c_L_spirits ?_
      show zR E _ _ X 74 _ _ _ _ _ _ _
      refine r_icmp_ge (t := 116) qL_load_74 (by decide) (fun hc74 => absurd hc74 (nI_ge (show k < vS E by omega) (by omega))) (fun hc74 => ?_)
      refine r_aload_n qL_load_77 rfl ?_
      refine r_ldcs (n := 20) qL_load_78 rfl ?_
      refine r_cv1 (cu2 := CU + 1) (su2 := SU + 720) qL_load_80 kL_53 rfl (by decide +kernel) (c := 5) hZ.t (by decide) rfl rfl rfl rfl (lbx (m := 250) rfl (by omega)) (lbx (m := 80000) rfl (by omega)) ?_
      refine c_lit (n := 20) (by decide) (by decide) hZ (by omega) (fun g2 i2 j2 hZ => ?_)
      show zR E _ _ X 83 _ _ _ _ _ _ _
      refine r_gSP qL_load_83 fL_85 ?_
      refine r_iload_n qL_load_86 rfl ?_
      refine r_aSP qL_load_87 (by omega) ?_
      refine r_cv1 (cu2 := CU + 2) (su2 := SU + 1440) qL_load_88 kL_53 rfl (by decide +kernel) (c := 5) hZ.t (by decide) rfl rfl rfl rfl (lbx (m := 250) rfl (by omega)) (lbx (m := 80000) rfl (by omega)) ?_
      refine c_lit (n := 24 + k) (by omega) (by omega) hZ (by simp only [List.length_append]; omega) (fun g2 i2 j2 hZ => ?_)
      show zR E _ _ X 91 _ _ _ _ _ _ _
      refine r_ldcs (n := 18) qL_load_91 rfl ?_
      refine r_cv1 (cu2 := CU + 3) (su2 := SU + 2160) qL_load_93 kL_53 rfl (by decide +kernel) (c := 5) hZ.t (by decide) rfl rfl rfl rfl (lbx (m := 250) rfl (by omega)) (lbx (m := 80000) rfl (by omega)) ?_
      refine c_lit (n := 18) (by decide) (by decide) hZ (by simp only [List.length_append]; omega) (fun g2 i2 j2 hZ => ?_)
      show zR E _ _ X 96 _ _ _ _ _ _ _
      refine r_aload_n qL_load_96 rfl ?_
      refine r_iload_n qL_load_97 rfl ?_
      refine r_cs2 (cu2 := CU + 3) (su2 := SU + 2160) qL_load_98 kL_89 rfl (by decide +kernel) rfl rfl rfl (lbx (m := 250) rfl (by omega)) (lbx (m := 80000) rfl (by omega)) ?_
      refine c_L_expansion (by omega) ?_
      show zR E _ _ X 101 _ _ _ _ _ _ _
      refine r_cv1 (cu2 := CU + 4) (su2 := SU + 2880) qL_load_101 kL_66 rfl (by decide +kernel) (c := 5) hZ.t (by decide) rfl rfl rfl rfl (lbx (m := 250) rfl (by omega)) (lbx (m := 80000) rfl (by omega)) ?_
      refine c_nat (n := vEx E k) (by omega) hZ (by simp only [List.length_append]; omega) (fun g2 i2 j2 hZ => ?_)
      show zR E _ _ X 104 _ _ _ _ _ _ _
      refine r_ldcs (n := 19) qL_load_104 rfl ?_
      refine r_cv1 (cu2 := CU + 5) (su2 := SU + 3600) qL_load_106 kL_53 rfl (by decide +kernel) (c := 5) hZ.t (by decide) rfl rfl rfl rfl (lbx (m := 250) rfl (by omega)) (lbx (m := 80000) rfl (by omega)) ?_
      refine c_lit (n := 19) (by decide) (by decide) hZ (by simp only [List.length_append]; omega) (fun g2 i2 j2 hZ => ?_)
      rw [ee] at hZ
      show zR E _ _ X 109 _ _ _ _ _ _ _
      refine r_pop qL_load_109 rfl ?_
      refine r_ii_4_3 qL_load_110 rfl rfl (nI_inc k) ?_
      refine r_goto (t := 69) qL_load_113 (by decide) ?_
      exact ih (k + 1) (by omega) b _ _ _ hZ _ _ (by omega) (by omega)
  have hr := vRm_in E
  have er := jabs_n (v := vRm E) ⟨by have := hr.1; omega, by have := hr.2; omega⟩
  have hl := vLg_in E
  have l15 := lit_8 (n := 15) (by decide) (by decide)
  have l18 := lit_8 (n := 18) (by decide) (by decide)
  have d1 := (dig_3 (n := (vRm E).toInt.natAbs) (by have := hr.1; have := hr.2; omega)).1
  have d2 := (dig_3 (n := vLg E) (by omega)).1
  have lx := xS_ok E 0 (by decide)
  have K30 : ∀ (b r p : Nat) (g2 : Sh) (i2 : Ni) (j2 : Nj), b ≠ 0 → gT g b = 0 → zBs (wN g b 6 0) (wA i b (fun _ => 0)) (wB j b (fun _ => 0)) g2 i2 j2 r ([] ++ lit 15) → 15 ≤ p → p < 31 → lit p = (if vRm E < 0 then [nI 45] else []) → ∀ CU SU : Nat, CU ≤ 8 → SU ≤ 2000 → zR E mL_load (zZ E mL_load K) X 30 [.ref c, .ref (eS E 4 + 1), zJ, zJ] [.ref (eK E p + 1), .ref r, .ref b, .ref b] g2 i2 j2 CU SU := by
    intro b r p g2 i2 j2 b0 bf hZ p1 p2 ep CU SU hCU hSU
    have lp := lit_8 p1 p2
    have ee := e_gal E ep
    refine r_cv1 (cu2 := CU + 1) (su2 := SU + 720) qL_load_30 kL_53 rfl (by decide +kernel) (c := 5) hZ.t (by decide) rfl rfl rfl rfl (lbx (m := 250) rfl (by omega)) (lbx (m := 80000) rfl (by omega)) ?_
    refine c_lit (n := p) p1 p2 hZ (by simp only [List.length_append, List.length_nil]; omega) (fun g2 i2 j2 hZ => ?_)
    show zR E _ _ X 33 _ _ _ _ _ _ _
    refine r_aload_n qL_load_33 rfl ?_
    refine r_cs1 (cu2 := CU + 1) (su2 := SU + 720) qL_load_34 kL_56 rfl (by decide +kernel) rfl rfl rfl (lbx (m := 250) rfl (by omega)) (lbx (m := 80000) rfl (by omega)) ?_
    refine c_L_room ?_
    show zR E _ _ X 37 _ _ _ _ _ _ _
    refine r_mabs qL_load_37 kL_63 rfl rfl (lbx (m := 250) rfl (by omega)) (lbx (m := 80000) rfl (by omega)) ?_
    rw [er]
    refine r_cv1 (cu2 := CU + 2) (su2 := SU + 1440) qL_load_40 kL_66 rfl (by decide +kernel) (c := 5) hZ.t (by decide) rfl rfl rfl rfl (lbx (m := 250) rfl (by omega)) (lbx (m := 80000) rfl (by omega)) ?_
    refine c_nat (n := (vRm E).toInt.natAbs) (by have := hr.1; have := hr.2; omega) hZ (by simp only [List.length_append, List.length_nil]; omega) (fun g2 i2 j2 hZ => ?_)
    show zR E _ _ X 43 _ _ _ _ _ _ _
    refine r_ldcs (n := 18) qL_load_43 rfl ?_
    refine r_cv1 (cu2 := CU + 3) (su2 := SU + 2160) qL_load_45 kL_53 rfl (by decide +kernel) (c := 5) hZ.t (by decide) rfl rfl rfl rfl (lbx (m := 250) rfl (by omega)) (lbx (m := 80000) rfl (by omega)) ?_
    refine c_lit (n := 18) (by decide) (by decide) hZ (by simp only [List.length_append, List.length_nil]; omega) (fun g2 i2 j2 hZ => ?_)
    show zR E _ _ X 48 _ _ _ _ _ _ _
    refine r_aload_n qL_load_48 rfl ?_
    refine r_cs1 (cu2 := CU + 3) (su2 := SU + 2160) qL_load_49 kL_71 rfl (by decide +kernel) rfl rfl rfl (lbx (m := 250) rfl (by omega)) (lbx (m := 80000) rfl (by omega)) ?_
    refine c_L_lag ?_
    show zR E _ _ X 52 _ _ _ _ _ _ _
    refine r_cv1 (cu2 := CU + 4) (su2 := SU + 2880) qL_load_52 kL_66 rfl (by decide +kernel) (c := 5) hZ.t (by decide) rfl rfl rfl rfl (lbx (m := 250) rfl (by omega)) (lbx (m := 80000) rfl (by omega)) ?_
    refine c_nat (n := vLg E) (by omega) hZ (by simp only [List.length_append, List.length_nil]; omega) (fun g2 i2 j2 hZ => ?_)
    show zR E _ _ X 55 _ _ _ _ _ _ _
    refine r_ldcs (n := 19) qL_load_55 rfl ?_
    refine r_cv1 (cu2 := CU + 5) (su2 := SU + 3600) qL_load_57 kL_53 rfl (by decide +kernel) (c := 5) hZ.t (by decide) rfl rfl rfl rfl (lbx (m := 250) rfl (by omega)) (lbx (m := 80000) rfl (by omega)) ?_
    refine c_lit (n := 19) (by decide) (by decide) hZ (by simp only [List.length_append, List.length_nil]; omega) (fun g2 i2 j2 hZ => ?_)
    rw [ee] at hZ
    show zR E _ _ X 60 _ _ _ _ _ _ _
    refine r_cv0 (cu2 := CU + 7) (su2 := SU + 4330) qL_load_60 kL_76 rfl (by decide +kernel) (c := 5) hZ.t (by decide) rfl rfl rfl rfl (lbx (m := 250) rfl (by omega)) (lbx (m := 80000) rfl (by omega)) ?_
    refine c_J4_toString_0e30d hZ.2.1 (fun u g5 i5 j5 u0 hM uf vf F5 => ?_)
    have FA := hZ.1.trans F5
    have fb := FA.at (q := b) (by rw [gT_wN, if_pos rfl]; decide)
    have hT5 : gT g5 b = 6 := fb.1.trans (by rw [gT_wN, if_pos rfl])
    show zR E _ _ X 63 _ _ _ _ _ _ _
    refine r_ci1 (cu2 := CU + 9) (su2 := SU + 5130) qL_load_63 kL_80 rfl (by decide +kernel) (by assumption) rfl rfl rfl (lbx (m := 250) rfl (by omega)) (lbx (m := 80000) rfl (by omega)) ?_
    refine c_J4_init_a7421 b0 hT5 (fun k => by rw [fb.2.2.2.2, wA_s]) hM.q u0 lx.2 (by have := lx.1; omega) (fun g6 i6 j6 hB6 hN6 => ?_)
    have hZ6 := zBs.outer bf FA hB6 hN6
    show zR E _ _ X 66 _ _ _ _ _ _ _
    refine r_as_4_2 qL_load_66 rfl rfl ?_
    refine r_iconst (v := nI 0) qL_load_67 (by decide) ?_
    refine r_is_4_3 qL_load_68 rfl rfl ?_
    exact KS (vS E) 0 (by omega) b _ _ _ hZ6 _ _ (by omega) (by omega)
  refine r_g0 (fun gz => ?_)
  refine r_new qL_load_0 nL_48 rfl rfl (fun b b0 bf => ?_)
  refine r_dup qL_load_3 rfl ?_
  refine r_new qL_load_4 nL_48 rfl rfl (fun r r0 rf => ?_)
  refine r_dup qL_load_7 rfl ?_
  refine r_ci0 (cu2 := 3) (su2 := 24) qL_load_8 kL_50 rfl (by decide +kernel) (by assumption) rfl rfl rfl rfl rfl ?_
  refine c_J4_init_da8c8 r0 (by rw [gT_wN, if_pos rfl]) (fun k => by rw [wA_s]) (fun q hB hF => ?_)
  have hZ := zBs.new (show gT (wN g b 6 0) 0 = 0 by rw [gT_wN, if_neg (Ne.symm b0)]; exact gz) r0 rf hB hF
  show zR E _ _ X 11 _ _ _ _ _ _ _
  refine r_ldcs (n := 15) qL_load_11 rfl ?_
  refine r_cv1 (cu2 := 4) (su2 := 744) qL_load_13 kL_53 rfl (by decide +kernel) (c := 5) hZ.t (by decide) rfl rfl rfl rfl rfl rfl ?_
  refine c_lit (n := 15) (by decide) (by decide) hZ (by decide) (fun g2 i2 j2 hZ => ?_)
  show zR E _ _ X 16 _ _ _ _ _ _ _
  refine r_aload_n qL_load_16 rfl ?_
  refine r_cs1 (cu2 := 4) (su2 := 744) qL_load_17 kL_56 rfl (by decide +kernel) rfl rfl rfl rfl rfl ?_
  refine c_L_room ?_
  show zR E _ _ X 20 _ _ _ _ _ _ _
  refine r_if_ge (t := 28) qL_load_20 (by decide) (fun hc20 => ?_) (fun hc20 => ?_)
  · refine r_ldcs (n := 17) qL_load_28 rfl ?_
    first | exact K30 b r 16 _ _ _ b0 bf hZ (by decide) (by decide) (by rw [if_pos (Int32.not_le.mp hc20)]; rfl) _ _ (by decide) (by decide) | exact K30 b r 17 _ _ _ b0 bf hZ (by decide) (by decide) (by rw [if_neg (Int32.not_lt.mpr hc20)]; rfl) _ _ (by decide) (by decide)
  · refine r_ldcs (n := 16) qL_load_23 rfl ?_
    refine r_goto (t := 30) qL_load_25 (by decide) ?_
    first | exact K30 b r 16 _ _ _ b0 bf hZ (by decide) (by decide) (by rw [if_pos (Int32.not_le.mp hc20)]; rfl) _ _ (by decide) (by decide) | exact K30 b r 17 _ _ _ b0 bf hZ (by decide) (by decide) (by rw [if_neg (Int32.not_lt.mpr hc20)]; rfl) _ _ (by decide) (by decide)

