theorem lc_2 {E : Ev} {Z : Fx → State → Prop} {X : Fx} {g : Sh} {i : Ni} {j : Nj} {CU SU q bb L0 : Nat} {xs : Nat → Int32} {c rd tx ur sl sf sb : Nat} {A : Nat → Nat → Nat} {x n d b p s o ol : Nat} (hX : zScr E X bb L0 xs) (hq : q + 6 ≤ L0) (hL : L0 ≤ 3072) (hCU : CU + 14 ≤ 601024) (hSU : SU + 1046 ≤ 7293034) (hI : iInv g i j c rd tx ur sl sf sb A x n d b p s o ol) (KN : lawN E Z X CU SU q bb c rd tx ur sl sf sb A x n d b p s o ol) : zR E mL_law Z X 472 [.ref (bb + 1), .ref c, .ref x, .ref ol, .int (nI q), zJ, zJ, zJ, zJ] [] g i j CU SU := by
  obtain ⟨hS, u, w, L, O, hN⟩ := hI
  have hY := hS.y
  have hW := hS.ww
  have hX3 : zX3 g c (A 0) := hY.x
  have hB : zB g i x n d b p s o := ⟨hW, hS.r3, hN.1.1⟩
  have hH : zH i (A 0) (i n) := hN.1.2.1
  have w1 := hW.1
  have x1 := hS.kc
  have o1 := hS.oo
  have o11 := o1.1
  have jx := hS.jx
  obtain ⟨hu, hu6, hw, hw6, hc, -⟩ := id hN.2.1
  have hNo := hN.1.2.2 (3 + u) (by omega)
  obtain ⟨e1, e2, e3, e4, e5, e6⟩ := id hN.2.2.2.2.1
  have hN2 := hN.1.2.2 2 (by decide)
  refine r_aload_n qL_law_472 rfl ?_
  refine r_g0 (fun g0 => ?_)
  refine r_cv0 (cu2 := CU) (su2 := SU) qL_law_473 kW_187 rfl (by decide +kernel) (c := 3) (by assumption) (by decide) rfl rfl rfl rfl (lbc (by omega)) (lbs (by omega)) ?_
  refine c_X3_load hY g0 hH hu hu6 hw hw6 hNo hN2 e1 e3 rfl e4 (fun c' w' he hc' i1 q1 q2 q3 q4 q5 q6 => ?_) (fun t' N2 he i1 a1 a2 a3 a4 a5 a6 a7 a8 q9 => ?_)
  · show zR E _ _ X 476 _ _ _ _ _ _ _
    have e1b : i1 b = i b := q6 b (hS.di dM_b).1 (hS.di dM_b).2.1 (fun q hq => (hS.di dM_b).2.2.2.2.2.2 2 q (by decide) hq)
    have e1n : i1 n = i n := q6 n (hS.di dM_n).1 (hS.di dM_n).2.1 (fun q hq => (hS.di dM_n).2.2.2.2.2.2 2 q (by decide) hq)
    have e1x : i1 x = i x := q6 x (hS.di dM_x).1 (hS.di dM_x).2.1 (fun q hq => (hS.di dM_x).2.2.2.2.2.2 2 q (by decide) hq)
    have hB1 : zB g i1 x n d b p s o := ⟨hW, hS.r3, by rw [e1n]; exact hN.1.1⟩
    have hT1 : mText (i1 b) L = mText (i tx) L := by rw [e1b]; exact (mText_cg e6).symm
    refine r_aload_n qL_law_476 rfl ?_
    refine r_cv0 (cu2 := CU) (su2 := SU) qL_law_477 kW_190 rfl (by decide +kernel) (c := 4) (by assumption) (by decide) rfl rfl rfl rfl (lbc (by omega)) (lbs (by omega)) ?_
    refine c_X4_load hB1 (by rw [e1x]; exact hc) hw6 (by rw [e1x]; exact e2) e3 (by rw [e1b]; exact e5) hN.2.2.2.2.2.1 (fun c2 w2 h2 hc2 i2 j2 z h29 p2 => ?_) (fun t2 N2 h2 => by rw [hT1, he] at h2; cases h2)
    rw [hT1, he] at h2
    cases h2
    show zR E _ _ X 480 _ _ _ _ _ _ _
    refine r_icmp_eq (t := 3557) qL_law_480 (by decide) (fun hc480 => ?_) (fun hc480 => absurd hc480 (fun h => h rfl))
    exact KN _ _ _ _ _ _ _ _ _ (by omega) (by omega) ⟨hS, _, _, _, _, hN.ld0 hS q1 q2 q3 q4 q5 q6 z h29 p2⟩
  · show zR E _ _ X 476 _ _ _ _ _ _ _
    have e1b : i1 b = i b := q9 b (hS.di dM_b).1 (hS.di dM_b).2.1 (fun q hq => (hS.di dM_b).2.2.2.2.2.2 2 q (by decide) hq) (fun q hq => (hS.di dM_b).2.2.2.2.2.2 0 q (by decide) hq) (fun q hq => (hS.di dM_b).2.2.2.2.2.2 (3 + u) q (by omega) hq)
    have e1n : i1 n = i n := q9 n (hS.di dM_n).1 (hS.di dM_n).2.1 (fun q hq => (hS.di dM_n).2.2.2.2.2.2 2 q (by decide) hq) (fun q hq => (hS.di dM_n).2.2.2.2.2.2 0 q (by decide) hq) (fun q hq => (hS.di dM_n).2.2.2.2.2.2 (3 + u) q (by omega) hq)
    have e1x : i1 x = i x := q9 x (hS.di dM_x).1 (hS.di dM_x).2.1 (fun q hq => (hS.di dM_x).2.2.2.2.2.2 2 q (by decide) hq) (fun q hq => (hS.di dM_x).2.2.2.2.2.2 0 q (by decide) hq) (fun q hq => (hS.di dM_x).2.2.2.2.2.2 (3 + u) q (by omega) hq)
    have hB1 : zB g i1 x n d b p s o := ⟨hW, hS.r3, by rw [e1n]; exact hN.1.1⟩
    have hT1 : mText (i1 b) L = mText (i tx) L := by rw [e1b]; exact (mText_cg e6).symm
    refine r_aload_n qL_law_476 rfl ?_
    refine r_cv0 (cu2 := CU) (su2 := SU) qL_law_477 kW_190 rfl (by decide +kernel) (c := 4) (by assumption) (by decide) rfl rfl rfl rfl (lbc (by omega)) (lbs (by omega)) ?_
    refine c_X4_load hB1 (by rw [e1x]; exact hc) hw6 (by rw [e1x]; exact e2) e3 (by rw [e1b]; exact e5) hN.2.2.2.2.2.1 (fun c2 w2 h2 => by rw [hT1, he] at h2; cases h2) (fun t2 N3 h2 i2 j2 z h29 nn pp p2 => ?_)
    rw [hT1, he] at h2
    cases h2
    show zR E _ _ X 480 _ _ _ _ _ _ _
    refine r_icmp_eq (t := 3557) qL_law_480 (by decide) (fun hc480 => ?_) (fun hc480 => absurd hc480 (fun h => h rfl))
    exact KN _ _ _ _ _ _ _ _ _ (by omega) (by omega) ⟨hS, _, _, _, _, hN.ld1 hS a1 a2 a3 a4 a5 a6 a7 a8 q9 z h29 nn pp p2⟩
theorem lc_59 {E : Ev} {Z : Fx → State → Prop} {X : Fx} {g : Sh} {i : Ni} {j : Nj} {CU SU q bb L0 : Nat} {xs : Nat → Int32} {c rd tx ur sl sf sb : Nat} {A : Nat → Nat → Nat} {x n d b p s o ol : Nat} (hX : zScr E X bb L0 xs) (hq : q + 6 ≤ L0) (hL : L0 ≤ 3072) (hCU : CU + 14 ≤ 601024) (hSU : SU + 1046 ≤ 7293034) (hI : iInv g i j c rd tx ur sl sf sb A x n d b p s o ol) (KN : lawN E Z X CU SU q bb c rd tx ur sl sf sb A x n d b p s o ol) : zR E mL_law Z X 3289 [.ref (bb + 1), .ref c, .ref x, .ref ol, .int (nI q), zJ, zJ, zJ, zJ] [] g i j CU SU := by
  obtain ⟨hS, u, w, L, O, hN⟩ := hI
  have hY := hS.y
  have hW := hS.ww
  have hX3 : zX3 g c (A 0) := hY.x
  have hB : zB g i x n d b p s o := ⟨hW, hS.r3, hN.1.1⟩
  have hH : zH i (A 0) (i n) := hN.1.2.1
  have w1 := hW.1
  have x1 := hS.kc
  have o1 := hS.oo
  have o11 := o1.1
  have jx := hS.jx
  refine r_aload_n qL_law_3289 rfl ?_
  refine r_aload_n qL_law_3290 rfl ?_
  refine r_iload qL_law_3291 rfl ?_
  refine r_iconst (v := nI 1) qL_law_3293 (by decide) ?_
  first | with_reducible refine r_iaddN qL_law_3294 ?_ | refine r_iadd qL_law_3294 ?_
  refine r_sld hX qL_law_3295 (by omega) hL ?_
  refine r_aload_n qL_law_3296 rfl ?_
  refine r_cH3 (cu2 := CU + 1) (su2 := SU + 6) qL_law_3297 kW_377 rfl (by decide +kernel) rfl rfl rfl (lbc (by omega)) (lbs (by omega)) ?_
  refine c_L_save x1 (fun K1 hK1 => c_X3_save hY hH (fun q hq => hN.1.2.2 (9 + q) (by omega)) (fun h0 => hK1 _ _ _ _ ⟨nI 1, rfl, ?_⟩) (fun h0 i1 q1 q2 p1 => hK1 _ _ _ _ ⟨o1.1, o1.2, fun j1 hj1 hj1n => ?_⟩))
  · show zR E _ _ X 3300 _ _ _ _ _ _ _
    refine r_is_9_5 qL_law_3300 rfl rfl ?_
    refine r_aload_n qL_law_3302 rfl ?_
    refine r_aload_n qL_law_3303 rfl ?_
    refine r_iload qL_law_3304 rfl ?_
    refine r_iconst (v := nI 1) qL_law_3306 (by decide) ?_
    first | with_reducible refine r_iaddN qL_law_3307 ?_ | refine r_iadd qL_law_3307 ?_
    refine r_sld hX qL_law_3308 (by omega) hL ?_
    refine r_cv1 (cu2 := CU + 1) (su2 := SU + 6) qL_law_3309 kW_379 rfl (by decide +kernel) (c := 4) (by assumption) (by decide) rfl rfl rfl rfl (lbc (by omega)) (lbs (by omega)) ?_
    refine c_X4_save hB (fun h i2 e2 p2 => ?_) (fun h => absurd h h0)
    show zR E _ _ X 3312 _ _ _ _ _ _ _
    refine r_is_9_6 qL_law_3312 rfl rfl ?_
    refine r_aload_n qL_law_3314 rfl ?_
    refine r_cv0 (cu2 := CU + 1) (su2 := SU + 6) qL_law_3315 kW_180 rfl (by decide +kernel) (c := 4) (by assumption) (by decide) rfl rfl rfl rfl (lbc (by omega)) (lbs (by omega)) ?_
    refine c_X4_thrown w1 ?_
    rw [e2, pk_us, c3, if_pos h0]
    show zR E _ _ X 3318 _ _ _ _ _ _ _
    refine r_iload qL_law_3318 rfl ?_
    refine r_icmp_eq (t := 3325) qL_law_3320 (by decide) (fun hc3320 => ?_) (fun hc3320 => absurd hc3320 (fun h => h rfl))
    refine r_iload qL_law_3325 rfl ?_
    refine r_if_ne (t := 3342) qL_law_3327 (by decide) (fun hc3327 => ?_) (fun hc3327 => absurd hc3327 (by decide))
    refine r_goto (t := 3557) qL_law_3342 (by decide) ?_
    exact KN _ _ _ _ _ _ _ _ _ (by omega) (by omega) ⟨hS, _, _, _, _, hN.ask hS (fun r h1 _ _ => p2 r h1) (fun m hm => by rw [e2, pk_un hm]) (fun z hz => by rw [p2 _ (Ne.symm ((hS.di dM_x).2.2.2.2.2.2 1 _ (by decide) (by omega)))]; exact hN.1.2.2 1 (by decide) z hz) rfl⟩
  · show zR E _ _ X 3300 _ _ _ _ _ _ _
    obtain ⟨ev, hv⟩ := nn_nat (b := 1) h0
    have M1 : ∀ r, dM x n d b p s o r → i1 r = i r := fun r hr => p1 r (hS.di hr).2.2.2.1 (fun q9 hq9 => (hS.di hr).2.2.2.2.2.2 (9 + zn (xs (q + 1))) q9 (by omega) hq9)
    have e1n := M1 n dM_n
    have e1x := M1 x dM_x
    have hB1 : zB g i1 x n d b p s o := ⟨hW, hS.r3, by rw [e1n]; exact hN.1.1⟩
    refine r_is_9_5 qL_law_3300 rfl rfl ?_
    refine r_aload_n qL_law_3302 rfl ?_
    refine r_aload_n qL_law_3303 rfl ?_
    refine r_iload qL_law_3304 rfl ?_
    refine r_iconst (v := nI 1) qL_law_3306 (by decide) ?_
    first | with_reducible refine r_iaddN qL_law_3307 ?_ | refine r_iadd qL_law_3307 ?_
    refine r_sld hX qL_law_3308 (by omega) hL ?_
    refine r_cv1 (cu2 := CU + 1) (su2 := SU + 6) qL_law_3309 kW_379 rfl (by decide +kernel) (c := 4) (by assumption) (by decide) rfl rfl rfl rfl (lbc (by omega)) (lbs (by omega)) ?_
    refine c_X4_save hB1 (fun h => absurd h0 h) (fun h i2 e2 ss p2 => ?_)
    rw [e1n]
    show zR E _ _ X 3312 _ _ _ _ _ _ _
    refine r_is_9_6 qL_law_3312 rfl rfl ?_
    refine r_aload_n qL_law_3314 rfl ?_
    refine r_cv0 (cu2 := CU + 1) (su2 := SU + 6) qL_law_3315 kW_180 rfl (by decide +kernel) (c := 4) (by assumption) (by decide) rfl rfl rfl rfl (lbc (by omega)) (lbs (by omega)) ?_
    refine c_X4_thrown w1 ?_
    rw [e2, pk_un (by decide), pk_us]
    show zR E _ _ X 3318 _ _ _ _ _ _ _
    refine r_iload qL_law_3318 rfl ?_
    refine r_icmp_eq (t := 3325) qL_law_3320 (by decide) (fun hc3320 => ?_) (fun hc3320 => absurd hc3320 (fun h => h rfl))
    refine r_iload qL_law_3325 rfl ?_
    refine r_if_ne (t := 3342) qL_law_3327 (by decide) (fun hc3327 => absurd hc3327 (by decide)) (fun hc3327 => ?_)
    refine r_aload_n qL_law_3330 rfl ?_
    refine r_iconst (v := nI 0) qL_law_3331 (by decide) ?_
    refine r_lald qL_law_3332 (by assumption) (in_0 o1.2) ?_
    refine r_iload qL_law_3333 rfl ?_
    refine r_i2l qL_law_3335 ?_
    refine r_lcmp qL_law_3336 ?_
    refine r_if_eq (t := 3342) qL_law_3337 (by decide) (fun hc3337 => ?_) (fun hc3337 => absurd hc3337 (fun h => h ((lg_cmp_eq _ _).mpr hj1)))
    refine r_goto (t := 3557) qL_law_3342 (by decide) ?_
    exact KN _ _ _ _ _ _ _ _ _ (by omega) (by omega) ⟨hS, _, _, _, _, hN.save (a := zn (xs (q + 1))) (by omega) hS q1 q2 p1 (fun m hm0 hm31 => by rw [e2, pk_un hm31, pk_un hm0]) (by rw [e2, pk_us, ← ev]) ss p2 (hj1n _ jx)⟩
theorem lc_60 {E : Ev} {Z : Fx → State → Prop} {X : Fx} {g : Sh} {i : Ni} {j : Nj} {CU SU q bb L0 : Nat} {xs : Nat → Int32} {c rd tx ur sl sf sb : Nat} {A : Nat → Nat → Nat} {x n d b p s o ol : Nat} (hX : zScr E X bb L0 xs) (hq : q + 6 ≤ L0) (hL : L0 ≤ 3072) (hCU : CU + 14 ≤ 601024) (hSU : SU + 1046 ≤ 7293034) (hI : iInv g i j c rd tx ur sl sf sb A x n d b p s o ol) (KN : lawN E Z X CU SU q bb c rd tx ur sl sf sb A x n d b p s o ol) : zR E mL_law Z X 3345 [.ref (bb + 1), .ref c, .ref x, .ref ol, .int (nI q), zJ, zJ, zJ, zJ] [] g i j CU SU := by
  obtain ⟨hS, u, w, L, O, hN⟩ := hI
  have hY := hS.y
  have hW := hS.ww
  have hX3 : zX3 g c (A 0) := hY.x
  have hB : zB g i x n d b p s o := ⟨hW, hS.r3, hN.1.1⟩
  have hH : zH i (A 0) (i n) := hN.1.2.1
  have w1 := hW.1
  have x1 := hS.kc
  have o1 := hS.oo
  have o11 := o1.1
  have jx := hS.jx
  obtain ⟨hu, hu6, hw, hw6, hc, -⟩ := id hN.2.1
  have hNo := hN.1.2.2 (3 + u) (by omega)
  refine r_aload_n qL_law_3345 rfl ?_
  refine r_aload_n qL_law_3346 rfl ?_
  refine r_iload qL_law_3347 rfl ?_
  refine r_iconst (v := nI 1) qL_law_3349 (by decide) ?_
  first | with_reducible refine r_iaddN qL_law_3350 ?_ | refine r_iadd qL_law_3350 ?_
  refine r_sld hX qL_law_3351 (by omega) hL ?_
  refine r_aload_n qL_law_3352 rfl ?_
  refine r_cH3 (cu2 := CU + 2) (su2 := SU + 12) qL_law_3353 kW_380 rfl (by decide +kernel) rfl rfl rfl (lbc (by omega)) (lbs (by omega)) ?_
  refine c_L_restore x1 (fun K1 hK1 => c_X3_restore (N2 := fun a => i s (210 * zn (xs (q + 1)) + a)) hY hH hu hu6 hw hw6 hNo (fun q9 hq9 hz hne => by
      obtain ⟨f, r1, r2, r3, r4⟩ := hN.2.2.1 q9 hq9
      rcases r1 with rfl | rfl
      · exact absurd r2 hne
      · rw [hz]; exact r4 rfl) (fun h0 => hK1 _ _ _ _ ⟨nI 1, rfl, ?_⟩) (fun h0 hz => hK1 _ _ _ _ ⟨nI 2, rfl, ?_⟩) (fun h0 hz i1 ac => hK1 _ _ _ _ ⟨o1.1, o1.2, fun j1 hj1 hj1n => ?_⟩))
  · show zR E _ _ X 3356 _ _ _ _ _ _ _
    refine r_is_9_5 qL_law_3356 rfl rfl ?_
    refine r_aload_n qL_law_3358 rfl ?_
    refine r_aload_n qL_law_3359 rfl ?_
    refine r_iload qL_law_3360 rfl ?_
    refine r_iconst (v := nI 1) qL_law_3362 (by decide) ?_
    first | with_reducible refine r_iaddN qL_law_3363 ?_ | refine r_iadd qL_law_3363 ?_
    refine r_sld hX qL_law_3364 (by omega) hL ?_
    refine r_cv1 (cu2 := CU + 2) (su2 := SU + 12) qL_law_3365 kW_382 rfl (by decide +kernel) (c := 4) (by assumption) (by decide) rfl rfl rfl rfl (lbc (by omega)) (lbs (by omega)) ?_
    refine c_X4_restore hB hc hw6 (fun h i2 e2 p2 => ?_) (fun h => absurd h.1 h0)
    show zR E _ _ X 3368 _ _ _ _ _ _ _
    refine r_is_9_6 qL_law_3368 rfl rfl ?_
    refine r_aload_n qL_law_3370 rfl ?_
    refine r_cv0 (cu2 := CU + 2) (su2 := SU + 12) qL_law_3371 kW_180 rfl (by decide +kernel) (c := 4) (by assumption) (by decide) rfl rfl rfl rfl (lbc (by omega)) (lbs (by omega)) ?_
    refine c_X4_thrown w1 ?_
    rw [e2, pk_us, c3, if_pos h0]
    show zR E _ _ X 3374 _ _ _ _ _ _ _
    refine r_iload qL_law_3374 rfl ?_
    refine r_icmp_eq (t := 3381) qL_law_3376 (by decide) (fun hc3376 => ?_) (fun hc3376 => absurd hc3376 (fun h => h rfl))
    refine r_iload qL_law_3381 rfl ?_
    refine r_if_ne (t := 3398) qL_law_3383 (by decide) (fun hc3383 => ?_) (fun hc3383 => absurd hc3383 (by decide))
    refine r_goto (t := 3557) qL_law_3398 (by decide) ?_
    exact KN _ _ _ _ _ _ _ _ _ (by omega) (by omega) ⟨hS, _, _, _, _, hN.ask hS (fun r h1 _ _ => p2 r h1) (fun m hm => by rw [e2, pk_un hm]) (fun z hz => by rw [p2 _ (Ne.symm ((hS.di dM_x).2.2.2.2.2.2 1 _ (by decide) (by omega)))]; exact hN.1.2.2 1 (by decide) z hz) rfl⟩
  · show zR E _ _ X 3356 _ _ _ _ _ _ _
    have hb := (hN.2.2.1.bit h0).2
    have hnb : ¬ ((0 ≤ (xs (q + 1)).toInt ∧ (xs (q + 1)).toInt ≤ 1) ∧ (i x 31 >>> (xs (q + 1) &&& 31)) &&& nI 1 = nI 1) := fun h => hb.mpr h.2 hz
    refine r_is_9_5 qL_law_3356 rfl rfl ?_
    refine r_aload_n qL_law_3358 rfl ?_
    refine r_aload_n qL_law_3359 rfl ?_
    refine r_iload qL_law_3360 rfl ?_
    refine r_iconst (v := nI 1) qL_law_3362 (by decide) ?_
    first | with_reducible refine r_iaddN qL_law_3363 ?_ | refine r_iadd qL_law_3363 ?_
    refine r_sld hX qL_law_3364 (by omega) hL ?_
    refine r_cv1 (cu2 := CU + 2) (su2 := SU + 12) qL_law_3365 kW_382 rfl (by decide +kernel) (c := 4) (by assumption) (by decide) rfl rfl rfl rfl (lbc (by omega)) (lbs (by omega)) ?_
    refine c_X4_restore hB hc hw6 (fun h i2 e2 p2 => ?_) (fun h => absurd h.2 hnb)
    show zR E _ _ X 3368 _ _ _ _ _ _ _
    refine r_is_9_6 qL_law_3368 rfl rfl ?_
    refine r_aload_n qL_law_3370 rfl ?_
    refine r_cv0 (cu2 := CU + 2) (su2 := SU + 12) qL_law_3371 kW_180 rfl (by decide +kernel) (c := 4) (by assumption) (by decide) rfl rfl rfl rfl (lbc (by omega)) (lbs (by omega)) ?_
    refine c_X4_thrown w1 ?_
    rw [e2, pk_us, c3, if_neg (fun z => z h0), if_pos hnb]
    show zR E _ _ X 3374 _ _ _ _ _ _ _
    refine r_iload qL_law_3374 rfl ?_
    refine r_icmp_eq (t := 3381) qL_law_3376 (by decide) (fun hc3376 => ?_) (fun hc3376 => absurd hc3376 (fun h => h rfl))
    refine r_iload qL_law_3381 rfl ?_
    refine r_if_ne (t := 3398) qL_law_3383 (by decide) (fun hc3383 => ?_) (fun hc3383 => absurd hc3383 (by decide))
    refine r_goto (t := 3557) qL_law_3398 (by decide) ?_
    exact KN _ _ _ _ _ _ _ _ _ (by omega) (by omega) ⟨hS, _, _, _, _, hN.ask hS (fun r h1 _ _ => p2 r h1) (fun m hm => by rw [e2, pk_un hm]) (fun z hz => by rw [p2 _ (Ne.symm ((hS.di dM_x).2.2.2.2.2.2 1 _ (by decide) (by omega)))]; exact hN.1.2.2 1 (by decide) z hz) rfl⟩
  · show zR E _ _ X 3356 _ _ _ _ _ _ _
    have hb := (hN.2.2.1.bit h0).2.mp hz
    have e1n : i1 n = i n := ac.2.2.2.2.2 n (hS.di dM_n).1 (fun q hq => (hS.di dM_n).2.2.2.2.2.2 0 q (by decide) hq) (fun q hq => (hS.di dM_n).2.2.2.2.2.2 (3 + u) q (by omega) hq)
    have e1x : i1 x = i x := ac.2.2.2.2.2 x (hS.di dM_x).1 (fun q hq => (hS.di dM_x).2.2.2.2.2.2 0 q (by decide) hq) (fun q hq => (hS.di dM_x).2.2.2.2.2.2 (3 + u) q (by omega) hq)
    have hB1 : zB g i1 x n d b p s o := ⟨hW, hS.r3, by rw [e1n]; exact hN.1.1⟩
    have hc1 : i1 x 29 = nI w := by rw [e1x]; exact hc
    have e1s : i1 s = i s := ac.2.2.2.2.2 s (hS.di dM_s).1 (fun q hq => (hS.di dM_s).2.2.2.2.2.2 0 q (by decide) hq) (fun q hq => (hS.di dM_s).2.2.2.2.2.2 (3 + u) q (by omega) hq)
    refine r_is_9_5 qL_law_3356 rfl rfl ?_
    refine r_aload_n qL_law_3358 rfl ?_
    refine r_aload_n qL_law_3359 rfl ?_
    refine r_iload qL_law_3360 rfl ?_
    refine r_iconst (v := nI 1) qL_law_3362 (by decide) ?_
    first | with_reducible refine r_iaddN qL_law_3363 ?_ | refine r_iadd qL_law_3363 ?_
    refine r_sld hX qL_law_3364 (by omega) hL ?_
    refine r_cv1 (cu2 := CU + 2) (su2 := SU + 12) qL_law_3365 kW_382 rfl (by decide +kernel) (c := 4) (by assumption) (by decide) rfl rfl rfl rfl (lbc (by omega)) (lbs (by omega)) ?_
    refine c_X4_restore hB1 hc1 hw6 (fun h => absurd ⟨h0, h0, by rw [e1x]; exact hb⟩ h) (fun h i2 e2 pp nn p2 => ?_)
    rw [e1s] at nn
    rw [e1s]
    show zR E _ _ X 3368 _ _ _ _ _ _ _
    refine r_is_9_6 qL_law_3368 rfl rfl ?_
    refine r_aload_n qL_law_3370 rfl ?_
    refine r_cv0 (cu2 := CU + 2) (su2 := SU + 12) qL_law_3371 kW_180 rfl (by decide +kernel) (c := 4) (by assumption) (by decide) rfl rfl rfl rfl (lbc (by omega)) (lbs (by omega)) ?_
    refine c_X4_thrown w1 ?_
    rw [e2, pk_un (by decide), pk_us]
    show zR E _ _ X 3374 _ _ _ _ _ _ _
    refine r_iload qL_law_3374 rfl ?_
    refine r_icmp_eq (t := 3381) qL_law_3376 (by decide) (fun hc3376 => ?_) (fun hc3376 => absurd hc3376 (fun h => h rfl))
    refine r_iload qL_law_3381 rfl ?_
    refine r_if_ne (t := 3398) qL_law_3383 (by decide) (fun hc3383 => absurd hc3383 (by decide)) (fun hc3383 => ?_)
    refine r_aload_n qL_law_3386 rfl ?_
    refine r_iconst (v := nI 0) qL_law_3387 (by decide) ?_
    refine r_lald qL_law_3388 (by assumption) (in_0 o1.2) ?_
    refine r_iload qL_law_3389 rfl ?_
    refine r_i2l qL_law_3391 ?_
    refine r_lcmp qL_law_3392 ?_
    refine r_if_eq (t := 3398) qL_law_3393 (by decide) (fun hc3393 => ?_) (fun hc3393 => absurd hc3393 (fun h => h ((lg_cmp_eq _ _).mpr hj1)))
    refine r_goto (t := 3557) qL_law_3398 (by decide) ?_
    exact KN _ _ _ _ _ _ _ _ _ (by omega) (by omega) ⟨hS, _, _, _, _, hN.act hS ac (fun m h0 h29 => by rw [e2, pk_un h29, pk_un h0]) (by rw [e2, pk_us]) pp nn p2 (hj1n _ jx)⟩
theorem lc_61 {E : Ev} {Z : Fx → State → Prop} {X : Fx} {g : Sh} {i : Ni} {j : Nj} {CU SU q bb L0 : Nat} {xs : Nat → Int32} {c rd tx ur sl sf sb : Nat} {A : Nat → Nat → Nat} {x n d b p s o ol : Nat} (hX : zScr E X bb L0 xs) (hq : q + 6 ≤ L0) (hL : L0 ≤ 3072) (hCU : CU + 14 ≤ 601024) (hSU : SU + 1046 ≤ 7293034) (hI : iInv g i j c rd tx ur sl sf sb A x n d b p s o ol) (KN : lawN E Z X CU SU q bb c rd tx ur sl sf sb A x n d b p s o ol) : zR E mL_law Z X 3401 [.ref (bb + 1), .ref c, .ref x, .ref ol, .int (nI q), zJ, zJ, zJ, zJ] [] g i j CU SU := by
  obtain ⟨hS, u, w, L, O, hN⟩ := hI
  have hY := hS.y
  have hW := hS.ww
  have hX3 : zX3 g c (A 0) := hY.x
  have hB : zB g i x n d b p s o := ⟨hW, hS.r3, hN.1.1⟩
  have hH : zH i (A 0) (i n) := hN.1.2.1
  have w1 := hW.1
  have x1 := hS.kc
  have o1 := hS.oo
  have o11 := o1.1
  have jx := hS.jx
  obtain ⟨hu, hu6, hw, hw6, hc, -⟩ := id hN.2.1
  have hNo := hN.1.2.2 (3 + u) (by omega)
  refine r_aload_n qL_law_3401 rfl ?_
  refine r_aload_n qL_law_3402 rfl ?_
  refine r_cH2 (cu2 := CU + 1) (su2 := SU + 6) qL_law_3403 kW_383 rfl (by decide +kernel) rfl rfl rfl (lbc (by omega)) (lbs (by omega)) ?_
  refine c_L_undo x1 (fun K1 hK1 => c_X3_undo (N2 := fun a => i p (210 * (w - 1) + a)) hY hH hu hu6 hw hw6 (fun h0 => by
      have z := hN.2.1.2.2.2.2.2 0 (by omega)
      rw [show 3 + (u + 5 - 0) % 6 = 3 + (if u = 0 then 5 else u - 1) by split <;> omega] at z
      exact z) (fun h0 => hK1 _ _ _ _ ⟨nI 1, rfl, ?_⟩) (fun h0 i1 q1 q2 q3 q4 q5 => hK1 _ _ _ _ ⟨o1.1, o1.2, fun j1 hj1 hj1n => ?_⟩))
  · show zR E _ _ X 3406 _ _ _ _ _ _ _
    refine r_is_9_5 qL_law_3406 rfl rfl ?_
    refine r_aload_n qL_law_3408 rfl ?_
    refine r_cv0 (cu2 := CU + 1) (su2 := SU + 6) qL_law_3409 kW_386 rfl (by decide +kernel) (c := 4) (by assumption) (by decide) rfl rfl rfl rfl (lbc (by omega)) (lbs (by omega)) ?_
    refine c_X4_undo hB hc hw6 (fun h i2 e2 p2 => ?_) (fun h => absurd h (by omega))
    show zR E _ _ X 3412 _ _ _ _ _ _ _
    refine r_is_9_6 qL_law_3412 rfl rfl ?_
    refine r_aload_n qL_law_3414 rfl ?_
    refine r_cv0 (cu2 := CU + 1) (su2 := SU + 6) qL_law_3415 kW_180 rfl (by decide +kernel) (c := 4) (by assumption) (by decide) rfl rfl rfl rfl (lbc (by omega)) (lbs (by omega)) ?_
    refine c_X4_thrown w1 ?_
    rw [e2, pk_us, c3, if_pos (show ¬ 0 < w by omega)]
    show zR E _ _ X 3418 _ _ _ _ _ _ _
    refine r_iload qL_law_3418 rfl ?_
    refine r_icmp_eq (t := 3425) qL_law_3420 (by decide) (fun hc3420 => ?_) (fun hc3420 => absurd hc3420 (fun h => h rfl))
    refine r_iload qL_law_3425 rfl ?_
    refine r_if_ne (t := 3442) qL_law_3427 (by decide) (fun hc3427 => ?_) (fun hc3427 => absurd hc3427 (by decide))
    refine r_goto (t := 3557) qL_law_3442 (by decide) ?_
    exact KN _ _ _ _ _ _ _ _ _ (by omega) (by omega) ⟨hS, _, _, _, _, hN.ask hS (fun r h1 _ _ => p2 r h1) (fun m hm => by rw [e2, pk_un hm]) (fun z hz => by rw [p2 _ (Ne.symm ((hS.di dM_x).2.2.2.2.2.2 1 _ (by decide) (by omega)))]; exact hN.1.2.2 1 (by decide) z hz) rfl⟩
  · show zR E _ _ X 3406 _ _ _ _ _ _ _
    have M1 : ∀ r, dM x n d b p s o r → i1 r = i r := fun r hr => q5 r (hS.di hr).1 (fun q9 hq9 => (hS.di hr).2.2.2.2.2.2 0 q9 (by decide) hq9)
    have e1n := M1 n dM_n
    have e1x := M1 x dM_x
    have hB1 : zB g i1 x n d b p s o := ⟨hW, hS.r3, by rw [e1n]; exact hN.1.1⟩
    refine r_is_9_5 qL_law_3406 rfl rfl ?_
    refine r_aload_n qL_law_3408 rfl ?_
    refine r_cv0 (cu2 := CU + 1) (su2 := SU + 6) qL_law_3409 kW_386 rfl (by decide +kernel) (c := 4) (by assumption) (by decide) rfl rfl rfl rfl (lbc (by omega)) (lbs (by omega)) ?_
    refine c_X4_undo hB1 (by rw [e1x]; exact hc) hw6 (fun h => absurd (show 0 < w by omega) h) (fun h i2 e2 nn p2 => ?_)
    show zR E _ _ X 3412 _ _ _ _ _ _ _
    refine r_is_9_6 qL_law_3412 rfl rfl ?_
    refine r_aload_n qL_law_3414 rfl ?_
    refine r_cv0 (cu2 := CU + 1) (su2 := SU + 6) qL_law_3415 kW_180 rfl (by decide +kernel) (c := 4) (by assumption) (by decide) rfl rfl rfl rfl (lbc (by omega)) (lbs (by omega)) ?_
    refine c_X4_thrown w1 ?_
    rw [e2, pk_un (by decide), pk_us]
    show zR E _ _ X 3418 _ _ _ _ _ _ _
    refine r_iload qL_law_3418 rfl ?_
    refine r_icmp_eq (t := 3425) qL_law_3420 (by decide) (fun hc3420 => ?_) (fun hc3420 => absurd hc3420 (fun h => h rfl))
    refine r_iload qL_law_3425 rfl ?_
    refine r_if_ne (t := 3442) qL_law_3427 (by decide) (fun hc3427 => absurd hc3427 (by decide)) (fun hc3427 => ?_)
    refine r_aload_n qL_law_3430 rfl ?_
    refine r_iconst (v := nI 0) qL_law_3431 (by decide) ?_
    refine r_lald qL_law_3432 (by assumption) (in_0 o1.2) ?_
    refine r_iload qL_law_3433 rfl ?_
    refine r_i2l qL_law_3435 ?_
    refine r_lcmp qL_law_3436 ?_
    refine r_if_eq (t := 3442) qL_law_3437 (by decide) (fun hc3437 => ?_) (fun hc3437 => absurd hc3437 (fun h => h ((lg_cmp_eq _ _).mpr hj1)))
    refine r_goto (t := 3557) qL_law_3442 (by decide) ?_
    exact KN _ _ _ _ _ _ _ _ _ (by omega) (by omega) ⟨hS, _, _, _, _, hN.undo hS h0 q1 q2 q3 q4 q5 rfl (fun m hm0 hm29 => by rw [e2, pk_un hm29, pk_un hm0]) (by rw [e2, pk_us]) nn p2 (hj1n _ jx)⟩

