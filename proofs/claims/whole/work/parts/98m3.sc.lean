theorem lc_62 {E : Ev} {Z : Fx → State → Prop} {X : Fx} {g : Sh} {i : Ni} {j : Nj} {CU SU q bb L0 : Nat} {xs : Nat → Int32} {c rd tx ur sl sf sb : Nat} {A : Nat → Nat → Nat} {x n d b p s o ol : Nat} (hX : zScr E X bb L0 xs) (hq : q + 6 ≤ L0) (hL : L0 ≤ 3072) (hCU : CU + 14 ≤ 601024) (hSU : SU + 1046 ≤ 7293034) (hI : iInv g i j c rd tx ur sl sf sb A x n d b p s o ol) (KN : lawN E Z X CU SU q bb c rd tx ur sl sf sb A x n d b p s o ol) : zR E mL_law Z X 3445 [.ref (bb + 1), .ref c, .ref x, .ref ol, .int (nI q), zJ, zJ, zJ, zJ] [] g i j CU SU := by
  obtain ⟨hS, u, w, L, O, hN⟩ := hI
  have hY := hS.y
  have hW := hS.ww
  have hX3 : zX3 g c (A 0) := hY.x
  have hB : zB g i x n d b p s o := ⟨hW, hS.r3, hN.1.1⟩
  have hH : zH i (A 0) (i n) := hN.1.2.1
  have w1 := hW.1
  have x1 := hS.kc
  have o1 := hS.oo
  have o11 := o1.1
  have jx := hS.jx
  obtain ⟨f1, hBu, -⟩ := id hN.2.2.2.2.2
  have hO6 : gR g c 6 = sb := hY.2.2.2.2.2.2.2.1
  refine r_aload_n qL_law_3445 rfl ?_
  refine r_aload_n qL_law_3446 rfl ?_
  refine r_iload qL_law_3447 rfl ?_
  refine r_iconst (v := nI 1) qL_law_3449 (by decide) ?_
  first | with_reducible refine r_iaddN qL_law_3450 ?_ | refine r_iadd qL_law_3450 ?_
  refine r_sld hX qL_law_3451 (by omega) hL ?_
  refine r_aload_n qL_law_3452 rfl ?_
  refine r_cH3 (cu2 := CU + 14) (su2 := SU + 1046) qL_law_3453 kW_387 rfl (by decide +kernel) rfl rfl rfl (lbc (by omega)) (lbs (by omega)) ?_
  refine c_L_printTube x1 (fun K1 hK1 => c_X3_printTube hX3 hO6 hH hBu (fun h0 => hK1 _ _ _ _ ⟨nI 1, rfl, ?_⟩) (fun h0 g1 i1 jj1 bu bf => hK1 _ _ _ _ ⟨pr_ol bf o1.1 hS.ksb, (pr_oL bf o1.1 hS.ksb).trans o1.2, fun j1 hj1 hj1n => ?_⟩))
  · show zR E _ _ X 3456 _ _ _ _ _ _ _
    refine r_is_9_5 qL_law_3456 rfl rfl ?_
    refine r_aload_n qL_law_3458 rfl ?_
    refine r_aload_n qL_law_3459 rfl ?_
    refine r_iload qL_law_3460 rfl ?_
    refine r_iconst (v := nI 1) qL_law_3462 (by decide) ?_
    first | with_reducible refine r_iaddN qL_law_3463 ?_ | refine r_iadd qL_law_3463 ?_
    refine r_sld hX qL_law_3464 (by omega) hL ?_
    refine r_cv1 (cu2 := CU + 14) (su2 := SU + 1046) qL_law_3465 kW_389 rfl (by decide +kernel) (c := 4) (by assumption) (by decide) rfl rfl rfl rfl (lbc (by omega)) (lbs (by omega)) ?_
    refine c_X4_printTube hB hH.nms (fun h i2 e2 p2 => ?_) (fun h => absurd h h0)
    show zR E _ _ X 3468 _ _ _ _ _ _ _
    refine r_is_9_6 qL_law_3468 rfl rfl ?_
    refine r_aload_n qL_law_3470 rfl ?_
    refine r_cv0 (cu2 := CU + 14) (su2 := SU + 1046) qL_law_3471 kW_180 rfl (by decide +kernel) (c := 4) (by assumption) (by decide) rfl rfl rfl rfl (lbc (by omega)) (lbs (by omega)) ?_
    refine c_X4_thrown w1 ?_
    rw [e2, pk_us, c3, if_pos h0]
    show zR E _ _ X 3474 _ _ _ _ _ _ _
    refine r_iload qL_law_3474 rfl ?_
    refine r_icmp_eq (t := 3481) qL_law_3476 (by decide) (fun hc3476 => ?_) (fun hc3476 => absurd hc3476 (fun h => h rfl))
    refine r_iload qL_law_3481 rfl ?_
    refine r_if_ne (t := 3498) qL_law_3483 (by decide) (fun hc3483 => ?_) (fun hc3483 => absurd hc3483 (by decide))
    refine r_goto (t := 3557) qL_law_3498 (by decide) ?_
    exact KN _ _ _ _ _ _ _ _ _ (by omega) (by omega) ⟨hS, _, _, _, _, hN.ask hS (fun r h1 _ _ => p2 r h1) (fun m hm => by rw [e2, pk_un hm]) (fun z hz => by rw [p2 _ (Ne.symm ((hS.di dM_x).2.2.2.2.2.2 1 _ (by decide) (by omega)))]; exact hN.1.2.2 1 (by decide) z hz) rfl⟩
  · show zR E _ _ X 3456 _ _ _ _ _ _ _
    obtain ⟨hS1, hr1, hjr⟩ := hS.bf hBu bf
    have e1n : i1 n = i n := hr1 n (by rw [hW.2.2.2.2.2.2.2.1.1]; decide) (hS.di dM_n).2.2.2.2.1 (hS.di dM_n).2.2.2.2.2.1
    have hB1 : zB g1 i1 x n d b p s o := ⟨hS1.ww, hS1.r3, by rw [e1n]; exact hN.1.1⟩
    have o1' := hS1.oo
    have w1' := hS1.ww.1
    have j1x : j1 x = j x := (hj1n _ jx).trans (hjr x (by rw [w1]; decide))
    have o11 := o1'.1
    obtain ⟨hS1, hr1, hjr⟩ := hS.bf hBu bf
    have e1n : i1 n = i n := hr1 n (by rw [hW.2.2.2.2.2.2.2.1.1]; decide) (hS.di dM_n).2.2.2.2.1 (hS.di dM_n).2.2.2.2.2.1
    have hB1 : zB g1 i1 x n d b p s o := ⟨hS1.ww, hS1.r3, by rw [e1n]; exact hN.1.1⟩
    have o1' := hS1.oo
    have w1' := hS1.ww.1
    have j1x : j1 x = j x := (hj1n _ jx).trans (hjr x (by rw [w1]; decide))
  
    refine r_is_9_5 qL_law_3456 rfl rfl ?_
    refine r_aload_n qL_law_3458 rfl ?_
    refine r_aload_n qL_law_3459 rfl ?_
    refine r_iload qL_law_3460 rfl ?_
    refine r_iconst (v := nI 1) qL_law_3462 (by decide) ?_
    first | with_reducible refine r_iaddN qL_law_3463 ?_ | refine r_iadd qL_law_3463 ?_
    refine r_sld hX qL_law_3464 (by omega) hL ?_
    refine r_cv1 (cu2 := CU + 14) (su2 := SU + 1046) qL_law_3465 kW_389 rfl (by decide +kernel) (c := 4) w1' (by decide) rfl rfl rfl rfl (lbc (by omega)) (lbs (by omega)) ?_
    refine c_X4_printTube hB1 (by rw [e1n]; exact hH.nms) (fun h => absurd (by rw [e1n]; exact h0) h) (fun h i2 zl e0 ex p2 => ?_)
    rw [e1n] at zl
    rw [e1n]
    show zR E _ _ X 3468 _ _ _ _ _ _ _
    refine r_is_9_6 qL_law_3468 rfl rfl ?_
    refine r_aload_n qL_law_3470 rfl ?_
    refine r_cv0 (cu2 := CU + 14) (su2 := SU + 1046) qL_law_3471 kW_180 rfl (by decide +kernel) (c := 4) w1' (by decide) rfl rfl rfl rfl (lbc (by omega)) (lbs (by omega)) ?_
    refine c_X4_thrown w1' ?_
    rw [e0]
    show zR E _ _ X 3474 _ _ _ _ _ _ _
    refine r_iload qL_law_3474 rfl ?_
    refine r_icmp_eq (t := 3481) qL_law_3476 (by decide) (fun hc3476 => ?_) (fun hc3476 => absurd hc3476 (fun h => h rfl))
    refine r_iload qL_law_3481 rfl ?_
    refine r_if_ne (t := 3498) qL_law_3483 (by decide) (fun hc3483 => absurd hc3483 (by decide)) (fun hc3483 => ?_)
    refine r_aload_n qL_law_3486 rfl ?_
    refine r_iconst (v := nI 0) qL_law_3487 (by decide) ?_
    refine r_lald qL_law_3488 (by assumption) (in_0 o1'.2) ?_
    refine r_iload qL_law_3489 rfl ?_
    refine r_i2l qL_law_3491 ?_
    refine r_lcmp qL_law_3492 ?_
    refine r_if_eq (t := 3498) qL_law_3493 (by decide) (fun hc3493 => ?_) (fun hc3493 => absurd hc3493 (fun h => h ((lg_cmp_eq _ _).mpr hj1)))
    refine r_goto (t := 3557) qL_law_3498 (by decide) ?_
    exact KN _ _ _ _ _ _ _ _ _ (by omega) (by omega) ⟨hS1, _, _, _, _, hN.prt hS hr1 bu (fun r hr => (hS1.di hr).2.2.2.2.2.1) ex p2 zl j1x⟩
theorem lc_57 {E : Ev} {Z : Fx → State → Prop} {X : Fx} {g : Sh} {i : Ni} {j : Nj} {CU SU q bb L0 : Nat} {xs : Nat → Int32} {c rd tx ur sl sf sb : Nat} {A : Nat → Nat → Nat} {x n d b p s o ol : Nat} (hX : zScr E X bb L0 xs) (hq : q + 6 ≤ L0) (hL : L0 ≤ 3072) (hCU : CU + 14 ≤ 601024) (hSU : SU + 1046 ≤ 7293034) (hI : iInv g i j c rd tx ur sl sf sb A x n d b p s o ol) (KN : lawN E Z X CU SU q bb c rd tx ur sl sf sb A x n d b p s o ol) : zR E mL_law Z X 3142 [.ref (bb + 1), .ref c, .ref x, .ref ol, .int (nI q), zJ, zJ, zJ, zJ] [] g i j CU SU := by
  obtain ⟨hS, u, w, L, O, hN⟩ := hI
  have hY := hS.y
  have hW := hS.ww
  have hX3 : zX3 g c (A 0) := hY.x
  have hB : zB g i x n d b p s o := ⟨hW, hS.r3, hN.1.1⟩
  have hH : zH i (A 0) (i n) := hN.1.2.1
  have w1 := hW.1
  have x1 := hS.kc
  have o1 := hS.oo
  have o11 := o1.1
  have jx := hS.jx
  obtain ⟨hu, hu6, hw, hw6, hc, -⟩ := id hN.2.1
  have hNo := hN.1.2.2 (3 + u) (by omega)
  have KP : ∀ (P : Prop) (dP : Decidable P), (P ↔ ¬ xs (q + 2) = 0) → zR E mL_law Z X 3163 [.ref (bb + 1), .ref c, .ref x, .ref ol, .int (nI q), zJ, zJ, zJ, zJ] [.int (zb P), .int (xs (q + 1)), .ref c] g i j CU SU := by
    intro P dP hPx
    refine r_aload_n qL_law_3163 rfl ?_
    refine r_cH4 (cu2 := CU + 1) (su2 := SU + 6) qL_law_3164 kW_370 rfl (by decide +kernel) rfl rfl rfl (lbc (by omega)) (lbs (by omega)) ?_
    refine c_L_setLeaky x1 (fun K1 hK1 => c_X3_setLeaky hY hH hu hu6 hw hw6 hNo (fun hne => hK1 _ _ _ _ (lkb0 hne rfl ?_)) (fun h1 i1 ac => hK1 _ _ _ _ ⟨zb_01 _, o1.1, o1.2, fun j1 hj1 hj1n => ?_⟩))
    · show zR E _ _ X 3167 _ _ _ _ _ _ _
      refine r_is_9_5 qL_law_3167 rfl rfl ?_
      refine r_aload_n qL_law_3169 rfl ?_
      refine r_aload_n qL_law_3170 rfl ?_
      refine r_iload qL_law_3171 rfl ?_
      refine r_iconst (v := nI 1) qL_law_3173 (by decide) ?_
      first | with_reducible refine r_iaddN qL_law_3174 ?_ | refine r_iadd qL_law_3174 ?_
      refine r_sld hX qL_law_3175 (by omega) hL ?_
      refine r_aload_n qL_law_3176 rfl ?_
      refine r_iload qL_law_3177 rfl ?_
      refine r_iconst (v := nI 2) qL_law_3179 (by decide) ?_
      first | with_reducible refine r_iaddN qL_law_3180 ?_ | refine r_iadd qL_law_3180 ?_
      refine r_sld hX qL_law_3181 (by omega) hL ?_
      refine r_if_eq (t := 3189) qL_law_3182 (by decide) (fun hc3182 => ?_) (fun hc3182 => ?_)
      · refine r_iconst (v := nI 0) qL_law_3189 (by decide) ?_
        refine r_cv2 (cu2 := CU + 1) (su2 := SU + 6) qL_law_3190 kW_373 rfl (by decide +kernel) (c := 4) (by assumption) (by decide) rfl rfl rfl rfl (lbc (by omega)) (lbs (by omega)) ?_
        first | refine c_X4_setLeaky (B := True) hB hc hw6 (fun h i2 e2 p2 => ?_) (fun h => absurd h hne) | refine c_X4_setLeaky (B := False) hB hc hw6 (fun h i2 e2 p2 => ?_) (fun h => absurd h hne)
        show zR E _ _ X 3193 _ _ _ _ _ _ _
        refine r_is_9_6 qL_law_3193 rfl rfl ?_
        refine r_aload_n qL_law_3195 rfl ?_
        refine r_cv0 (cu2 := CU + 1) (su2 := SU + 6) qL_law_3196 kW_180 rfl (by decide +kernel) (c := 4) (by assumption) (by decide) rfl rfl rfl rfl (lbc (by omega)) (lbs (by omega)) ?_
        refine c_X4_thrown w1 ?_
        rw [e2, pk_us, c3, if_pos hne]
        show zR E _ _ X 3199 _ _ _ _ _ _ _
        refine r_iload qL_law_3199 rfl ?_
        refine r_icmp_eq (t := 3206) qL_law_3201 (by decide) (fun hc3201 => ?_) (fun hc3201 => absurd hc3201 (fun h => h rfl))
        refine r_iload qL_law_3206 rfl ?_
        refine r_if_ne (t := 3230) qL_law_3208 (by decide) (fun hc3208 => ?_) (fun hc3208 => absurd hc3208 (by decide))
        refine r_goto (t := 3557) qL_law_3230 (by decide) ?_
        exact KN _ _ _ _ _ _ _ _ _ (by omega) (by omega) ⟨hS, _, _, _, _, hN.ask hS (fun r h1 _ _ => p2 r h1) (fun m hm => by rw [e2, pk_un hm]) (fun z hz => by rw [p2 _ (Ne.symm ((hS.di dM_x).2.2.2.2.2.2 1 _ (by decide) (by omega)))]; exact hN.1.2.2 1 (by decide) z hz) rfl⟩
      · refine r_iconst (v := nI 1) qL_law_3185 (by decide) ?_
        refine r_goto (t := 3190) qL_law_3186 (by decide) ?_
        refine r_cv2 (cu2 := CU + 1) (su2 := SU + 6) qL_law_3190 kW_373 rfl (by decide +kernel) (c := 4) (by assumption) (by decide) rfl rfl rfl rfl (lbc (by omega)) (lbs (by omega)) ?_
        first | refine c_X4_setLeaky (B := True) hB hc hw6 (fun h i2 e2 p2 => ?_) (fun h => absurd h hne) | refine c_X4_setLeaky (B := False) hB hc hw6 (fun h i2 e2 p2 => ?_) (fun h => absurd h hne)
        show zR E _ _ X 3193 _ _ _ _ _ _ _
        refine r_is_9_6 qL_law_3193 rfl rfl ?_
        refine r_aload_n qL_law_3195 rfl ?_
        refine r_cv0 (cu2 := CU + 1) (su2 := SU + 6) qL_law_3196 kW_180 rfl (by decide +kernel) (c := 4) (by assumption) (by decide) rfl rfl rfl rfl (lbc (by omega)) (lbs (by omega)) ?_
        refine c_X4_thrown w1 ?_
        rw [e2, pk_us, c3, if_pos hne]
        show zR E _ _ X 3199 _ _ _ _ _ _ _
        refine r_iload qL_law_3199 rfl ?_
        refine r_icmp_eq (t := 3206) qL_law_3201 (by decide) (fun hc3201 => ?_) (fun hc3201 => absurd hc3201 (fun h => h rfl))
        refine r_iload qL_law_3206 rfl ?_
        refine r_if_ne (t := 3230) qL_law_3208 (by decide) (fun hc3208 => ?_) (fun hc3208 => absurd hc3208 (by decide))
        refine r_goto (t := 3557) qL_law_3230 (by decide) ?_
        exact KN _ _ _ _ _ _ _ _ _ (by omega) (by omega) ⟨hS, _, _, _, _, hN.ask hS (fun r h1 _ _ => p2 r h1) (fun m hm => by rw [e2, pk_un hm]) (fun z hz => by rw [p2 _ (Ne.symm ((hS.di dM_x).2.2.2.2.2.2 1 _ (by decide) (by omega)))]; exact hN.1.2.2 1 (by decide) z hz) rfl⟩
    · show zR E _ _ X 3167 _ _ _ _ _ _ _
      refine r_is_9_5 qL_law_3167 rfl rfl ?_
      refine r_aload_n qL_law_3169 rfl ?_
      refine r_aload_n qL_law_3170 rfl ?_
      refine r_iload qL_law_3171 rfl ?_
      refine r_iconst (v := nI 1) qL_law_3173 (by decide) ?_
      first | with_reducible refine r_iaddN qL_law_3174 ?_ | refine r_iadd qL_law_3174 ?_
      refine r_sld hX qL_law_3175 (by omega) hL ?_
      refine r_aload_n qL_law_3176 rfl ?_
      refine r_iload qL_law_3177 rfl ?_
      refine r_iconst (v := nI 2) qL_law_3179 (by decide) ?_
      first | with_reducible refine r_iaddN qL_law_3180 ?_ | refine r_iadd qL_law_3180 ?_
      refine r_sld hX qL_law_3181 (by omega) hL ?_
      refine r_if_eq (t := 3189) qL_law_3182 (by decide) (fun hc3182 => ?_) (fun hc3182 => ?_)
      · have hP : ¬ P := fun p => (hPx.mp p) hc3182
        rw [show zb P = zb False by rw [zb_f hP]; rfl] at ac
        refine r_iconst (v := nI 0) qL_law_3189 (by decide) ?_
        refine r_cv2 (cu2 := CU + 1) (su2 := SU + 6) qL_law_3190 kW_373 rfl (by decide +kernel) (c := 4) (by assumption) (by decide) rfl rfl rfl rfl (lbc (by omega)) (lbs (by omega)) ?_
        have e1n : i1 n = i n := ac.2.2.2.2.2 n (hS.di dM_n).1 (fun q hq => (hS.di dM_n).2.2.2.2.2.2 0 q (by decide) hq) (fun q hq => (hS.di dM_n).2.2.2.2.2.2 (3 + u) q (by omega) hq)
        have e1x : i1 x = i x := ac.2.2.2.2.2 x (hS.di dM_x).1 (fun q hq => (hS.di dM_x).2.2.2.2.2.2 0 q (by decide) hq) (fun q hq => (hS.di dM_x).2.2.2.2.2.2 (3 + u) q (by omega) hq)
        have hB1 : zB g i1 x n d b p s o := ⟨hW, hS.r3, by rw [e1n]; exact hN.1.1⟩
        have hc1 : i1 x 29 = nI w := by rw [e1x]; exact hc
        first | refine c_X4_setLeaky (B := True) hB1 hc1 hw6 (fun h => absurd (by rw [e1n]; exact h1) h) (fun h i2 e2 pp nn p2 => ?_) | refine c_X4_setLeaky (B := False) hB1 hc1 hw6 (fun h => absurd (by rw [e1n]; exact h1) h) (fun h i2 e2 pp nn p2 => ?_)
        rw [e1n] at nn
        rw [e1n]
        show zR E _ _ X 3193 _ _ _ _ _ _ _
        refine r_is_9_6 qL_law_3193 rfl rfl ?_
        refine r_aload_n qL_law_3195 rfl ?_
        refine r_cv0 (cu2 := CU + 1) (su2 := SU + 6) qL_law_3196 kW_180 rfl (by decide +kernel) (c := 4) (by assumption) (by decide) rfl rfl rfl rfl (lbc (by omega)) (lbs (by omega)) ?_
        refine c_X4_thrown w1 ?_
        rw [e2, pk_un (by decide), pk_us]
        show zR E _ _ X 3199 _ _ _ _ _ _ _
        refine r_iload qL_law_3199 rfl ?_
        refine r_icmp_eq (t := 3206) qL_law_3201 (by decide) (fun hc3201 => ?_) (fun hc3201 => absurd hc3201 (fun h => h rfl))
        refine r_iload qL_law_3206 rfl ?_
        refine r_if_ne (t := 3230) qL_law_3208 (by decide) (fun hc3208 => absurd hc3208 (by decide)) (fun hc3208 => ?_)
        refine r_aload_n qL_law_3211 rfl ?_
        refine r_iconst (v := nI 0) qL_law_3212 (by decide) ?_
        refine r_lald qL_law_3213 (by assumption) (in_0 o1.2) ?_
        refine r_iload qL_law_3214 rfl ?_
        refine r_if_eq (t := 3223) qL_law_3216 (by decide) (fun hc3216 => ?_) (fun hc3216 => ?_)
        · refine r_lconst (v := 0) qL_law_3223 (by decide) ?_
          refine r_lcmp qL_law_3224 ?_
          refine r_if_eq (t := 3230) qL_law_3225 (by decide) (fun hc3225 => ?_) (fun hc3225 => absurd hc3225 (fun h => h ((lg_cmp_eq _ _).mpr (by first | exact bl_0 hj1 hc3216 | exact bl_1 (zb_01 _) hj1 hc3216))))
          refine r_goto (t := 3557) qL_law_3230 (by decide) ?_
          exact KN _ _ _ _ _ _ _ _ _ (by omega) (by omega) ⟨hS, _, _, _, _, hN.act hS ac (fun m h0 h29 => by rw [e2, pk_un h29, pk_un h0]) (by rw [e2, pk_us]) pp nn p2 (hj1n _ jx)⟩
        · refine r_lconst (v := 1) qL_law_3219 (by decide) ?_
          refine r_goto (t := 3224) qL_law_3220 (by decide) ?_
          refine r_lcmp qL_law_3224 ?_
          refine r_if_eq (t := 3230) qL_law_3225 (by decide) (fun hc3225 => ?_) (fun hc3225 => absurd hc3225 (fun h => h ((lg_cmp_eq _ _).mpr (by first | exact bl_0 hj1 hc3216 | exact bl_1 (zb_01 _) hj1 hc3216))))
          refine r_goto (t := 3557) qL_law_3230 (by decide) ?_
          exact KN _ _ _ _ _ _ _ _ _ (by omega) (by omega) ⟨hS, _, _, _, _, hN.act hS ac (fun m h0 h29 => by rw [e2, pk_un h29, pk_un h0]) (by rw [e2, pk_us]) pp nn p2 (hj1n _ jx)⟩
      · have hP : P := hPx.mpr hc3182
        rw [show zb P = zb True by rw [zb_t hP]; rfl] at ac
        refine r_iconst (v := nI 1) qL_law_3185 (by decide) ?_
        refine r_goto (t := 3190) qL_law_3186 (by decide) ?_
        refine r_cv2 (cu2 := CU + 1) (su2 := SU + 6) qL_law_3190 kW_373 rfl (by decide +kernel) (c := 4) (by assumption) (by decide) rfl rfl rfl rfl (lbc (by omega)) (lbs (by omega)) ?_
        have e1n : i1 n = i n := ac.2.2.2.2.2 n (hS.di dM_n).1 (fun q hq => (hS.di dM_n).2.2.2.2.2.2 0 q (by decide) hq) (fun q hq => (hS.di dM_n).2.2.2.2.2.2 (3 + u) q (by omega) hq)
        have e1x : i1 x = i x := ac.2.2.2.2.2 x (hS.di dM_x).1 (fun q hq => (hS.di dM_x).2.2.2.2.2.2 0 q (by decide) hq) (fun q hq => (hS.di dM_x).2.2.2.2.2.2 (3 + u) q (by omega) hq)
        have hB1 : zB g i1 x n d b p s o := ⟨hW, hS.r3, by rw [e1n]; exact hN.1.1⟩
        have hc1 : i1 x 29 = nI w := by rw [e1x]; exact hc
        first | refine c_X4_setLeaky (B := True) hB1 hc1 hw6 (fun h => absurd (by rw [e1n]; exact h1) h) (fun h i2 e2 pp nn p2 => ?_) | refine c_X4_setLeaky (B := False) hB1 hc1 hw6 (fun h => absurd (by rw [e1n]; exact h1) h) (fun h i2 e2 pp nn p2 => ?_)
        rw [e1n] at nn
        rw [e1n]
        show zR E _ _ X 3193 _ _ _ _ _ _ _
        refine r_is_9_6 qL_law_3193 rfl rfl ?_
        refine r_aload_n qL_law_3195 rfl ?_
        refine r_cv0 (cu2 := CU + 1) (su2 := SU + 6) qL_law_3196 kW_180 rfl (by decide +kernel) (c := 4) (by assumption) (by decide) rfl rfl rfl rfl (lbc (by omega)) (lbs (by omega)) ?_
        refine c_X4_thrown w1 ?_
        rw [e2, pk_un (by decide), pk_us]
        show zR E _ _ X 3199 _ _ _ _ _ _ _
        refine r_iload qL_law_3199 rfl ?_
        refine r_icmp_eq (t := 3206) qL_law_3201 (by decide) (fun hc3201 => ?_) (fun hc3201 => absurd hc3201 (fun h => h rfl))
        refine r_iload qL_law_3206 rfl ?_
        refine r_if_ne (t := 3230) qL_law_3208 (by decide) (fun hc3208 => absurd hc3208 (by decide)) (fun hc3208 => ?_)
        refine r_aload_n qL_law_3211 rfl ?_
        refine r_iconst (v := nI 0) qL_law_3212 (by decide) ?_
        refine r_lald qL_law_3213 (by assumption) (in_0 o1.2) ?_
        refine r_iload qL_law_3214 rfl ?_
        refine r_if_eq (t := 3223) qL_law_3216 (by decide) (fun hc3216 => ?_) (fun hc3216 => ?_)
        · refine r_lconst (v := 0) qL_law_3223 (by decide) ?_
          refine r_lcmp qL_law_3224 ?_
          refine r_if_eq (t := 3230) qL_law_3225 (by decide) (fun hc3225 => ?_) (fun hc3225 => absurd hc3225 (fun h => h ((lg_cmp_eq _ _).mpr (by first | exact bl_0 hj1 hc3216 | exact bl_1 (zb_01 _) hj1 hc3216))))
          refine r_goto (t := 3557) qL_law_3230 (by decide) ?_
          exact KN _ _ _ _ _ _ _ _ _ (by omega) (by omega) ⟨hS, _, _, _, _, hN.act hS ac (fun m h0 h29 => by rw [e2, pk_un h29, pk_un h0]) (by rw [e2, pk_us]) pp nn p2 (hj1n _ jx)⟩
        · refine r_lconst (v := 1) qL_law_3219 (by decide) ?_
          refine r_goto (t := 3224) qL_law_3220 (by decide) ?_
          refine r_lcmp qL_law_3224 ?_
          refine r_if_eq (t := 3230) qL_law_3225 (by decide) (fun hc3225 => ?_) (fun hc3225 => absurd hc3225 (fun h => h ((lg_cmp_eq _ _).mpr (by first | exact bl_0 hj1 hc3216 | exact bl_1 (zb_01 _) hj1 hc3216))))
          refine r_goto (t := 3557) qL_law_3230 (by decide) ?_
          exact KN _ _ _ _ _ _ _ _ _ (by omega) (by omega) ⟨hS, _, _, _, _, hN.act hS ac (fun m h0 h29 => by rw [e2, pk_un h29, pk_un h0]) (by rw [e2, pk_us]) pp nn p2 (hj1n _ jx)⟩
  refine r_aload_n qL_law_3142 rfl ?_
  refine r_aload_n qL_law_3143 rfl ?_
  refine r_iload qL_law_3144 rfl ?_
  refine r_iconst (v := nI 1) qL_law_3146 (by decide) ?_
  first | with_reducible refine r_iaddN qL_law_3147 ?_ | refine r_iadd qL_law_3147 ?_
  refine r_sld hX qL_law_3148 (by omega) hL ?_
  refine r_aload_n qL_law_3149 rfl ?_
  refine r_iload qL_law_3150 rfl ?_
  refine r_iconst (v := nI 2) qL_law_3152 (by decide) ?_
  first | with_reducible refine r_iaddN qL_law_3153 ?_ | refine r_iadd qL_law_3153 ?_
  refine r_sld hX qL_law_3154 (by omega) hL ?_
  refine r_if_eq (t := 3162) qL_law_3155 (by decide) (fun hc3155 => ?_) (fun hc3155 => ?_)
  · have z := KP False instDecidableFalse (iff_of_false (fun h => h) (fun h => h hc3155))
    refine r_iconst (v := nI 0) qL_law_3162 (by decide) ?_
    exact z
  · have z := KP True instDecidableTrue (iff_of_true trivial hc3155)
    refine r_iconst (v := nI 1) qL_law_3158 (by decide) ?_
    refine r_goto (t := 3163) qL_law_3159 (by decide) ?_
    exact z

