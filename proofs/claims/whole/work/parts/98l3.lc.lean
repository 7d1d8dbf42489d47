/-! ===== THE LAW'S CASES ===== -/
theorem lc_54 {E : Ev} {Z : Fx → State → Prop} {X : Fx} {g : Sh} {i : Ni} {j : Nj} {CU SU q bb L0 : Nat} {xs : Nat → Int32} {c rd tx ur sl sf sb : Nat} {A : Nat → Nat → Nat} {x n d b p s o ol : Nat} (hX : zScr E X bb L0 xs) (hq : q + 6 ≤ L0) (hL : L0 ≤ 3072) (hCU : CU + 14 ≤ 601024) (hSU : SU + 1046 ≤ 7293034) (hI : iInv g i j c rd tx ur sl sf sb A x n d b p s o ol) (KN : lawN E Z X CU SU q bb c rd tx ur sl sf sb A x n d b p s o ol) : zR E mL_law Z X 2950 [.ref (bb + 1), .ref c, .ref x, .ref ol, .int (nI q), zJ, zJ, zJ, zJ] [] g i j CU SU := by
  obtain ⟨hS, u, w, L, O, hN⟩ := hI
  have hY := hS.y
  have hW := hS.ww
  have hX3 : zX3 g c (A 0) := hY.x
  have hB : zB g i x n d b p s o := ⟨hW, hS.r3, hN.1.1⟩
  have hH : zH i (A 0) (i n) := hN.1.2.1
  have w1 := hW.1
  have x1 := hS.kc
  have o1 := hS.oo
  have o11 := o1.1
  have jx := hS.jx
  obtain ⟨hu, hu6, hw, hw6, hc, -⟩ := id hN.2.1
  have hNo := hN.1.2.2 (3 + u) (by omega)
  refine r_aload_n qL_law_2950 rfl ?_
  refine r_aload_n qL_law_2951 rfl ?_
  refine r_iload qL_law_2952 rfl ?_
  refine r_iconst (v := nI 1) qL_law_2954 (by decide) ?_
  first | with_reducible refine r_iaddN qL_law_2955 ?_ | refine r_iadd qL_law_2955 ?_
  refine r_sld hX qL_law_2956 (by omega) hL ?_
  refine r_aload_n qL_law_2957 rfl ?_
  refine r_iload qL_law_2958 rfl ?_
  refine r_iconst (v := nI 2) qL_law_2960 (by decide) ?_
  first | with_reducible refine r_iaddN qL_law_2961 ?_ | refine r_iadd qL_law_2961 ?_
  refine r_sld hX qL_law_2962 (by omega) hL ?_
  refine r_aload_n qL_law_2963 rfl ?_
  refine r_cH4 (cu2 := CU + 2) (su2 := SU + 12) qL_law_2964 kW_361 rfl (by decide +kernel) rfl rfl rfl (lbc (by omega)) (lbs (by omega)) ?_
  refine c_L_layThumb x1 (fun K1 hK1 => c_X3_layThumb hY hH hu hu6 hw hw6 hNo (fun hne => hK1 _ _ _ _ (lk3 o1 (by first | exact Or.inr rfl | exact Or.inl trivial) (by first | exact Or.inr rfl | exact Or.inl trivial) (by first | exact Or.inr rfl | exact Or.inl trivial) (fun j1 hj1 hj1n => ?_))) (fun h1 h2 i1 ac => hK1 _ _ _ _ ⟨o1.1, o1.2, fun j1 hj1 hj1n => ?_⟩))
  · show zR E _ _ X 2967 _ _ _ _ _ _ _
    refine r_is_9_5 qL_law_2967 rfl rfl ?_
    refine r_aload_n qL_law_2969 rfl ?_
    refine r_aload_n qL_law_2970 rfl ?_
    refine r_iload qL_law_2971 rfl ?_
    refine r_iconst (v := nI 1) qL_law_2973 (by decide) ?_
    first | with_reducible refine r_iaddN qL_law_2974 ?_ | refine r_iadd qL_law_2974 ?_
    refine r_sld hX qL_law_2975 (by omega) hL ?_
    refine r_aload_n qL_law_2976 rfl ?_
    refine r_iload qL_law_2977 rfl ?_
    refine r_iconst (v := nI 2) qL_law_2979 (by decide) ?_
    first | with_reducible refine r_iaddN qL_law_2980 ?_ | refine r_iadd qL_law_2980 ?_
    refine r_sld hX qL_law_2981 (by omega) hL ?_
    refine r_cv2 (cu2 := CU + 2) (su2 := SU + 12) qL_law_2982 kW_363 rfl (by decide +kernel) (c := 4) (by assumption) (by decide) rfl rfl rfl rfl (lbc (by omega)) (lbs (by omega)) ?_
    refine c_X4_layThumb hB hc hw6 (fun h i2 e2 p2 => ?_) (fun h => absurd h hne)
    show zR E _ _ X 2985 _ _ _ _ _ _ _
    refine r_is_9_6 qL_law_2985 rfl rfl ?_
    refine r_aload_n qL_law_2987 rfl ?_
    refine r_cv0 (cu2 := CU + 2) (su2 := SU + 12) qL_law_2988 kW_180 rfl (by decide +kernel) (c := 4) (by assumption) (by decide) rfl rfl rfl rfl (lbc (by omega)) (lbs (by omega)) ?_
    refine c_X4_thrown w1 ?_
    rw [e2, pk_us]
    show zR E _ _ X 2991 _ _ _ _ _ _ _
    refine r_iload qL_law_2991 rfl ?_
    refine r_icmp_eq (t := 2998) qL_law_2993 (by decide) (fun hc2993 => ?_) (fun hc2993 => absurd hc2993 (fun h => h rfl))
    refine r_iload qL_law_2998 rfl ?_
    refine r_if_ne (t := 3015) qL_law_3000 (by decide) (fun hc3000 => ?_) (fun hc3000 => absurd hc3000 (c3_zn (fun h => hne ⟨h.1, h.2.1⟩)))
    refine r_goto (t := 3557) qL_law_3015 (by decide) ?_
    exact KN _ _ _ _ _ _ _ _ _ (by omega) (by omega) ⟨hS, _, _, _, _, hN.ask hS (fun r h1 _ _ => p2 r h1) (fun m hm => by rw [e2, pk_un hm]) (fun z hz => by rw [p2 _ (Ne.symm ((hS.di dM_x).2.2.2.2.2.2 1 _ (by decide) (by omega)))]; exact hN.1.2.2 1 (by decide) z hz) (hj1n _ jx)⟩
  · show zR E _ _ X 2967 _ _ _ _ _ _ _
    refine r_is_9_5 qL_law_2967 rfl rfl ?_
    refine r_aload_n qL_law_2969 rfl ?_
    refine r_aload_n qL_law_2970 rfl ?_
    refine r_iload qL_law_2971 rfl ?_
    refine r_iconst (v := nI 1) qL_law_2973 (by decide) ?_
    first | with_reducible refine r_iaddN qL_law_2974 ?_ | refine r_iadd qL_law_2974 ?_
    refine r_sld hX qL_law_2975 (by omega) hL ?_
    refine r_aload_n qL_law_2976 rfl ?_
    refine r_iload qL_law_2977 rfl ?_
    refine r_iconst (v := nI 2) qL_law_2979 (by decide) ?_
    first | with_reducible refine r_iaddN qL_law_2980 ?_ | refine r_iadd qL_law_2980 ?_
    refine r_sld hX qL_law_2981 (by omega) hL ?_
    refine r_cv2 (cu2 := CU + 2) (su2 := SU + 12) qL_law_2982 kW_363 rfl (by decide +kernel) (c := 4) (by assumption) (by decide) rfl rfl rfl rfl (lbc (by omega)) (lbs (by omega)) ?_
    have e1n : i1 n = i n := ac.2.2.2.2.2 n (hS.di dM_n).1 (fun q hq => (hS.di dM_n).2.2.2.2.2.2 0 q (by decide) hq) (fun q hq => (hS.di dM_n).2.2.2.2.2.2 (3 + u) q (by omega) hq)
    have e1x : i1 x = i x := ac.2.2.2.2.2 x (hS.di dM_x).1 (fun q hq => (hS.di dM_x).2.2.2.2.2.2 0 q (by decide) hq) (fun q hq => (hS.di dM_x).2.2.2.2.2.2 (3 + u) q (by omega) hq)
    have hB1 : zB g i1 x n d b p s o := ⟨hW, hS.r3, by rw [e1n]; exact hN.1.1⟩
    have hc1 : i1 x 29 = nI w := by rw [e1x]; exact hc
    refine c_X4_layThumb hB1 hc1 hw6 (fun h => absurd (by first | (rw [e1n]; exact ⟨h1, h2⟩) | exact ⟨h1, h2⟩) h) (fun h i2 e2 pp nn p2 => ?_)
    try rw [e1n] at nn
    try rw [e1n]
    show zR E _ _ X 2985 _ _ _ _ _ _ _
    refine r_is_9_6 qL_law_2985 rfl rfl ?_
    refine r_aload_n qL_law_2987 rfl ?_
    refine r_cv0 (cu2 := CU + 2) (su2 := SU + 12) qL_law_2988 kW_180 rfl (by decide +kernel) (c := 4) (by assumption) (by decide) rfl rfl rfl rfl (lbc (by omega)) (lbs (by omega)) ?_
    refine c_X4_thrown w1 ?_
    rw [e2, pk_un (by decide), pk_us]
    show zR E _ _ X 2991 _ _ _ _ _ _ _
    refine r_iload qL_law_2991 rfl ?_
    refine r_icmp_eq (t := 2998) qL_law_2993 (by decide) (fun hc2993 => ?_) (fun hc2993 => absurd hc2993 (fun h => h rfl))
    refine r_iload qL_law_2998 rfl ?_
    refine r_if_ne (t := 3015) qL_law_3000 (by decide) (fun hc3000 => absurd hc3000 (by decide)) (fun hc3000 => ?_)
    refine r_aload_n qL_law_3003 rfl ?_
    refine r_iconst (v := nI 0) qL_law_3004 (by decide) ?_
    refine r_lald qL_law_3005 (by assumption) (in_0 o1.2) ?_
    refine r_iload qL_law_3006 rfl ?_
    refine r_i2l qL_law_3008 ?_
    refine r_lcmp qL_law_3009 ?_
    refine r_if_eq (t := 3015) qL_law_3010 (by decide) (fun hc3010 => ?_) (fun hc3010 => absurd hc3010 (fun h => h ((lg_cmp_eq _ _).mpr hj1)))
    refine r_goto (t := 3557) qL_law_3015 (by decide) ?_
    exact KN _ _ _ _ _ _ _ _ _ (by omega) (by omega) ⟨hS, _, _, _, _, hN.act hS ac (fun m h0 h29 => by rw [e2, pk_un h29, pk_un h0]) (by rw [e2, pk_us]) pp nn p2 (hj1n _ jx)⟩
theorem lc_55 {E : Ev} {Z : Fx → State → Prop} {X : Fx} {g : Sh} {i : Ni} {j : Nj} {CU SU q bb L0 : Nat} {xs : Nat → Int32} {c rd tx ur sl sf sb : Nat} {A : Nat → Nat → Nat} {x n d b p s o ol : Nat} (hX : zScr E X bb L0 xs) (hq : q + 6 ≤ L0) (hL : L0 ≤ 3072) (hCU : CU + 14 ≤ 601024) (hSU : SU + 1046 ≤ 7293034) (hI : iInv g i j c rd tx ur sl sf sb A x n d b p s o ol) (KN : lawN E Z X CU SU q bb c rd tx ur sl sf sb A x n d b p s o ol) : zR E mL_law Z X 3018 [.ref (bb + 1), .ref c, .ref x, .ref ol, .int (nI q), zJ, zJ, zJ, zJ] [] g i j CU SU := by
  obtain ⟨hS, u, w, L, O, hN⟩ := hI
  have hY := hS.y
  have hW := hS.ww
  have hX3 : zX3 g c (A 0) := hY.x
  have hB : zB g i x n d b p s o := ⟨hW, hS.r3, hN.1.1⟩
  have hH : zH i (A 0) (i n) := hN.1.2.1
  have w1 := hW.1
  have x1 := hS.kc
  have o1 := hS.oo
  have o11 := o1.1
  have jx := hS.jx
  obtain ⟨hu, hu6, hw, hw6, hc, -⟩ := id hN.2.1
  have hNo := hN.1.2.2 (3 + u) (by omega)
  refine r_aload_n qL_law_3018 rfl ?_
  refine r_aload_n qL_law_3019 rfl ?_
  refine r_iload qL_law_3020 rfl ?_
  refine r_iconst (v := nI 1) qL_law_3022 (by decide) ?_
  first | with_reducible refine r_iaddN qL_law_3023 ?_ | refine r_iadd qL_law_3023 ?_
  refine r_sld hX qL_law_3024 (by omega) hL ?_
  refine r_aload_n qL_law_3025 rfl ?_
  refine r_iload qL_law_3026 rfl ?_
  refine r_iconst (v := nI 2) qL_law_3028 (by decide) ?_
  first | with_reducible refine r_iaddN qL_law_3029 ?_ | refine r_iadd qL_law_3029 ?_
  refine r_sld hX qL_law_3030 (by omega) hL ?_
  refine r_aload_n qL_law_3031 rfl ?_
  refine r_cH4 (cu2 := CU + 3) (su2 := SU + 18) qL_law_3032 kW_364 rfl (by decide +kernel) rfl rfl rfl (lbc (by omega)) (lbs (by omega)) ?_
  refine c_L_topUp x1 (fun K1 hK1 => c_X3_topUp hY hH hu hu6 hw hw6 hNo (fun hne => hK1 _ _ _ _ (lk3 o1 (by first | exact Or.inr rfl | exact Or.inl trivial) (by first | exact Or.inr rfl | exact Or.inl trivial) (by first | exact Or.inr rfl | exact Or.inl trivial) (fun j1 hj1 hj1n => ?_))) (fun h1 h2 h3 i1 ac => hK1 _ _ _ _ ⟨o1.1, o1.2, fun j1 hj1 hj1n => ?_⟩))
  · show zR E _ _ X 3035 _ _ _ _ _ _ _
    refine r_is_9_5 qL_law_3035 rfl rfl ?_
    refine r_aload_n qL_law_3037 rfl ?_
    refine r_aload_n qL_law_3038 rfl ?_
    refine r_iload qL_law_3039 rfl ?_
    refine r_iconst (v := nI 1) qL_law_3041 (by decide) ?_
    first | with_reducible refine r_iaddN qL_law_3042 ?_ | refine r_iadd qL_law_3042 ?_
    refine r_sld hX qL_law_3043 (by omega) hL ?_
    refine r_aload_n qL_law_3044 rfl ?_
    refine r_iload qL_law_3045 rfl ?_
    refine r_iconst (v := nI 2) qL_law_3047 (by decide) ?_
    first | with_reducible refine r_iaddN qL_law_3048 ?_ | refine r_iadd qL_law_3048 ?_
    refine r_sld hX qL_law_3049 (by omega) hL ?_
    refine r_cv2 (cu2 := CU + 3) (su2 := SU + 18) qL_law_3050 kW_366 rfl (by decide +kernel) (c := 4) (by assumption) (by decide) rfl rfl rfl rfl (lbc (by omega)) (lbs (by omega)) ?_
    refine c_X4_topUp hB hc hw6 (fun h i2 e2 p2 => ?_) (fun h => absurd h hne)
    show zR E _ _ X 3053 _ _ _ _ _ _ _
    refine r_is_9_6 qL_law_3053 rfl rfl ?_
    refine r_aload_n qL_law_3055 rfl ?_
    refine r_cv0 (cu2 := CU + 3) (su2 := SU + 18) qL_law_3056 kW_180 rfl (by decide +kernel) (c := 4) (by assumption) (by decide) rfl rfl rfl rfl (lbc (by omega)) (lbs (by omega)) ?_
    refine c_X4_thrown w1 ?_
    rw [e2, pk_us]
    show zR E _ _ X 3059 _ _ _ _ _ _ _
    refine r_iload qL_law_3059 rfl ?_
    refine r_icmp_eq (t := 3066) qL_law_3061 (by decide) (fun hc3061 => ?_) (fun hc3061 => absurd hc3061 (fun h => h rfl))
    refine r_iload qL_law_3066 rfl ?_
    refine r_if_ne (t := 3083) qL_law_3068 (by decide) (fun hc3068 => ?_) (fun hc3068 => absurd hc3068 (c3_zn (fun h => hne h)))
    refine r_goto (t := 3557) qL_law_3083 (by decide) ?_
    exact KN _ _ _ _ _ _ _ _ _ (by omega) (by omega) ⟨hS, _, _, _, _, hN.ask hS (fun r h1 _ _ => p2 r h1) (fun m hm => by rw [e2, pk_un hm]) (fun z hz => by rw [p2 _ (Ne.symm ((hS.di dM_x).2.2.2.2.2.2 1 _ (by decide) (by omega)))]; exact hN.1.2.2 1 (by decide) z hz) (hj1n _ jx)⟩
  · show zR E _ _ X 3035 _ _ _ _ _ _ _
    refine r_is_9_5 qL_law_3035 rfl rfl ?_
    refine r_aload_n qL_law_3037 rfl ?_
    refine r_aload_n qL_law_3038 rfl ?_
    refine r_iload qL_law_3039 rfl ?_
    refine r_iconst (v := nI 1) qL_law_3041 (by decide) ?_
    first | with_reducible refine r_iaddN qL_law_3042 ?_ | refine r_iadd qL_law_3042 ?_
    refine r_sld hX qL_law_3043 (by omega) hL ?_
    refine r_aload_n qL_law_3044 rfl ?_
    refine r_iload qL_law_3045 rfl ?_
    refine r_iconst (v := nI 2) qL_law_3047 (by decide) ?_
    first | with_reducible refine r_iaddN qL_law_3048 ?_ | refine r_iadd qL_law_3048 ?_
    refine r_sld hX qL_law_3049 (by omega) hL ?_
    refine r_cv2 (cu2 := CU + 3) (su2 := SU + 18) qL_law_3050 kW_366 rfl (by decide +kernel) (c := 4) (by assumption) (by decide) rfl rfl rfl rfl (lbc (by omega)) (lbs (by omega)) ?_
    have e1n : i1 n = i n := ac.2.2.2.2.2 n (hS.di dM_n).1 (fun q hq => (hS.di dM_n).2.2.2.2.2.2 0 q (by decide) hq) (fun q hq => (hS.di dM_n).2.2.2.2.2.2 (3 + u) q (by omega) hq)
    have e1x : i1 x = i x := ac.2.2.2.2.2 x (hS.di dM_x).1 (fun q hq => (hS.di dM_x).2.2.2.2.2.2 0 q (by decide) hq) (fun q hq => (hS.di dM_x).2.2.2.2.2.2 (3 + u) q (by omega) hq)
    have hB1 : zB g i1 x n d b p s o := ⟨hW, hS.r3, by rw [e1n]; exact hN.1.1⟩
    have hc1 : i1 x 29 = nI w := by rw [e1x]; exact hc
    refine c_X4_topUp hB1 hc1 hw6 (fun h => absurd (by first | (rw [e1n]; exact ⟨h1, h2, h3⟩) | exact ⟨h1, h2, h3⟩) h) (fun h i2 e2 pp nn p2 => ?_)
    try rw [e1n] at nn
    try rw [e1n]
    show zR E _ _ X 3053 _ _ _ _ _ _ _
    refine r_is_9_6 qL_law_3053 rfl rfl ?_
    refine r_aload_n qL_law_3055 rfl ?_
    refine r_cv0 (cu2 := CU + 3) (su2 := SU + 18) qL_law_3056 kW_180 rfl (by decide +kernel) (c := 4) (by assumption) (by decide) rfl rfl rfl rfl (lbc (by omega)) (lbs (by omega)) ?_
    refine c_X4_thrown w1 ?_
    rw [e2, pk_un (by decide), pk_us]
    show zR E _ _ X 3059 _ _ _ _ _ _ _
    refine r_iload qL_law_3059 rfl ?_
    refine r_icmp_eq (t := 3066) qL_law_3061 (by decide) (fun hc3061 => ?_) (fun hc3061 => absurd hc3061 (fun h => h rfl))
    refine r_iload qL_law_3066 rfl ?_
    refine r_if_ne (t := 3083) qL_law_3068 (by decide) (fun hc3068 => absurd hc3068 (by decide)) (fun hc3068 => ?_)
    refine r_aload_n qL_law_3071 rfl ?_
    refine r_iconst (v := nI 0) qL_law_3072 (by decide) ?_
    refine r_lald qL_law_3073 (by assumption) (in_0 o1.2) ?_
    refine r_iload qL_law_3074 rfl ?_
    refine r_i2l qL_law_3076 ?_
    refine r_lcmp qL_law_3077 ?_
    refine r_if_eq (t := 3083) qL_law_3078 (by decide) (fun hc3078 => ?_) (fun hc3078 => absurd hc3078 (fun h => h ((lg_cmp_eq _ _).mpr hj1)))
    refine r_goto (t := 3557) qL_law_3083 (by decide) ?_
    exact KN _ _ _ _ _ _ _ _ _ (by omega) (by omega) ⟨hS, _, _, _, _, hN.act hS ac (fun m h0 h29 => by rw [e2, pk_un h29, pk_un h0]) (by rw [e2, pk_us]) pp nn p2 (hj1n _ jx)⟩
theorem lc_56 {E : Ev} {Z : Fx → State → Prop} {X : Fx} {g : Sh} {i : Ni} {j : Nj} {CU SU q bb L0 : Nat} {xs : Nat → Int32} {c rd tx ur sl sf sb : Nat} {A : Nat → Nat → Nat} {x n d b p s o ol : Nat} (hX : zScr E X bb L0 xs) (hq : q + 6 ≤ L0) (hL : L0 ≤ 3072) (hCU : CU + 14 ≤ 601024) (hSU : SU + 1046 ≤ 7293034) (hI : iInv g i j c rd tx ur sl sf sb A x n d b p s o ol) (KN : lawN E Z X CU SU q bb c rd tx ur sl sf sb A x n d b p s o ol) : zR E mL_law Z X 3086 [.ref (bb + 1), .ref c, .ref x, .ref ol, .int (nI q), zJ, zJ, zJ, zJ] [] g i j CU SU := by
  obtain ⟨hS, u, w, L, O, hN⟩ := hI
  have hY := hS.y
  have hW := hS.ww
  have hX3 : zX3 g c (A 0) := hY.x
  have hB : zB g i x n d b p s o := ⟨hW, hS.r3, hN.1.1⟩
  have hH : zH i (A 0) (i n) := hN.1.2.1
  have w1 := hW.1
  have x1 := hS.kc
  have o1 := hS.oo
  have o11 := o1.1
  have jx := hS.jx
  obtain ⟨hu, hu6, hw, hw6, hc, -⟩ := id hN.2.1
  have hNo := hN.1.2.2 (3 + u) (by omega)
  refine r_aload_n qL_law_3086 rfl ?_
  refine r_aload_n qL_law_3087 rfl ?_
  refine r_iload qL_law_3088 rfl ?_
  refine r_iconst (v := nI 1) qL_law_3090 (by decide) ?_
  first | with_reducible refine r_iaddN qL_law_3091 ?_ | refine r_iadd qL_law_3091 ?_
  refine r_sld hX qL_law_3092 (by omega) hL ?_
  refine r_aload_n qL_law_3093 rfl ?_
  refine r_cH3 (cu2 := CU + 1) (su2 := SU + 6) qL_law_3094 kW_367 rfl (by decide +kernel) rfl rfl rfl (lbc (by omega)) (lbs (by omega)) ?_
  refine c_L_setRoom x1 (fun K1 hK1 => c_X3_setRoom hY hH hu hu6 hw hw6 hNo (fun hne => hK1 _ _ _ _ (lk3 o1 (by first | exact Or.inr rfl | exact Or.inl trivial) (by first | exact Or.inr rfl | exact Or.inl trivial) (by first | exact Or.inr rfl | exact Or.inl trivial) (fun j1 hj1 hj1n => ?_))) (fun h1 i1 ac => hK1 _ _ _ _ ⟨o1.1, o1.2, fun j1 hj1 hj1n => ?_⟩))
  · show zR E _ _ X 3097 _ _ _ _ _ _ _
    refine r_is_9_5 qL_law_3097 rfl rfl ?_
    refine r_aload_n qL_law_3099 rfl ?_
    refine r_aload_n qL_law_3100 rfl ?_
    refine r_iload qL_law_3101 rfl ?_
    refine r_iconst (v := nI 1) qL_law_3103 (by decide) ?_
    first | with_reducible refine r_iaddN qL_law_3104 ?_ | refine r_iadd qL_law_3104 ?_
    refine r_sld hX qL_law_3105 (by omega) hL ?_
    refine r_cv1 (cu2 := CU + 1) (su2 := SU + 6) qL_law_3106 kW_369 rfl (by decide +kernel) (c := 4) (by assumption) (by decide) rfl rfl rfl rfl (lbc (by omega)) (lbs (by omega)) ?_
    refine c_X4_setRoom hB hc hw6 (fun h i2 e2 p2 => ?_) (fun h => absurd h hne)
    show zR E _ _ X 3109 _ _ _ _ _ _ _
    refine r_is_9_6 qL_law_3109 rfl rfl ?_
    refine r_aload_n qL_law_3111 rfl ?_
    refine r_cv0 (cu2 := CU + 1) (su2 := SU + 6) qL_law_3112 kW_180 rfl (by decide +kernel) (c := 4) (by assumption) (by decide) rfl rfl rfl rfl (lbc (by omega)) (lbs (by omega)) ?_
    refine c_X4_thrown w1 ?_
    rw [e2, pk_us]
    show zR E _ _ X 3115 _ _ _ _ _ _ _
    refine r_iload qL_law_3115 rfl ?_
    refine r_icmp_eq (t := 3122) qL_law_3117 (by decide) (fun hc3117 => ?_) (fun hc3117 => absurd hc3117 (fun h => h rfl))
    refine r_iload qL_law_3122 rfl ?_
    refine r_if_ne (t := 3139) qL_law_3124 (by decide) (fun hc3124 => ?_) (fun hc3124 => absurd hc3124 (c3_zn (fun h => hne h.1)))
    refine r_goto (t := 3557) qL_law_3139 (by decide) ?_
    exact KN _ _ _ _ _ _ _ _ _ (by omega) (by omega) ⟨hS, _, _, _, _, hN.ask hS (fun r h1 _ _ => p2 r h1) (fun m hm => by rw [e2, pk_un hm]) (fun z hz => by rw [p2 _ (Ne.symm ((hS.di dM_x).2.2.2.2.2.2 1 _ (by decide) (by omega)))]; exact hN.1.2.2 1 (by decide) z hz) (hj1n _ jx)⟩
  · show zR E _ _ X 3097 _ _ _ _ _ _ _
    refine r_is_9_5 qL_law_3097 rfl rfl ?_
    refine r_aload_n qL_law_3099 rfl ?_
    refine r_aload_n qL_law_3100 rfl ?_
    refine r_iload qL_law_3101 rfl ?_
    refine r_iconst (v := nI 1) qL_law_3103 (by decide) ?_
    first | with_reducible refine r_iaddN qL_law_3104 ?_ | refine r_iadd qL_law_3104 ?_
    refine r_sld hX qL_law_3105 (by omega) hL ?_
    refine r_cv1 (cu2 := CU + 1) (su2 := SU + 6) qL_law_3106 kW_369 rfl (by decide +kernel) (c := 4) (by assumption) (by decide) rfl rfl rfl rfl (lbc (by omega)) (lbs (by omega)) ?_
    have e1n : i1 n = i n := ac.2.2.2.2.2 n (hS.di dM_n).1 (fun q hq => (hS.di dM_n).2.2.2.2.2.2 0 q (by decide) hq) (fun q hq => (hS.di dM_n).2.2.2.2.2.2 (3 + u) q (by omega) hq)
    have e1x : i1 x = i x := ac.2.2.2.2.2 x (hS.di dM_x).1 (fun q hq => (hS.di dM_x).2.2.2.2.2.2 0 q (by decide) hq) (fun q hq => (hS.di dM_x).2.2.2.2.2.2 (3 + u) q (by omega) hq)
    have hB1 : zB g i1 x n d b p s o := ⟨hW, hS.r3, by rw [e1n]; exact hN.1.1⟩
    have hc1 : i1 x 29 = nI w := by rw [e1x]; exact hc
    refine c_X4_setRoom hB1 hc1 hw6 (fun h => absurd (by first | (rw [e1n]; exact h1) | exact h1) h) (fun h i2 e2 pp nn p2 => ?_)
    try rw [e1n] at nn
    try rw [e1n]
    show zR E _ _ X 3109 _ _ _ _ _ _ _
    refine r_is_9_6 qL_law_3109 rfl rfl ?_
    refine r_aload_n qL_law_3111 rfl ?_
    refine r_cv0 (cu2 := CU + 1) (su2 := SU + 6) qL_law_3112 kW_180 rfl (by decide +kernel) (c := 4) (by assumption) (by decide) rfl rfl rfl rfl (lbc (by omega)) (lbs (by omega)) ?_
    refine c_X4_thrown w1 ?_
    rw [e2, pk_un (by decide), pk_us]
    show zR E _ _ X 3115 _ _ _ _ _ _ _
    refine r_iload qL_law_3115 rfl ?_
    refine r_icmp_eq (t := 3122) qL_law_3117 (by decide) (fun hc3117 => ?_) (fun hc3117 => absurd hc3117 (fun h => h rfl))
    refine r_iload qL_law_3122 rfl ?_
    refine r_if_ne (t := 3139) qL_law_3124 (by decide) (fun hc3124 => absurd hc3124 (by decide)) (fun hc3124 => ?_)
    refine r_aload_n qL_law_3127 rfl ?_
    refine r_iconst (v := nI 0) qL_law_3128 (by decide) ?_
    refine r_lald qL_law_3129 (by assumption) (in_0 o1.2) ?_
    refine r_iload qL_law_3130 rfl ?_
    refine r_i2l qL_law_3132 ?_
    refine r_lcmp qL_law_3133 ?_
    refine r_if_eq (t := 3139) qL_law_3134 (by decide) (fun hc3134 => ?_) (fun hc3134 => absurd hc3134 (fun h => h ((lg_cmp_eq _ _).mpr hj1)))
    refine r_goto (t := 3557) qL_law_3139 (by decide) ?_
    exact KN _ _ _ _ _ _ _ _ _ (by omega) (by omega) ⟨hS, _, _, _, _, hN.act hS ac (fun m h0 h29 => by rw [e2, pk_un h29, pk_un h0]) (by rw [e2, pk_us]) pp nn p2 (hj1n _ jx)⟩
theorem lc_58 {E : Ev} {Z : Fx → State → Prop} {X : Fx} {g : Sh} {i : Ni} {j : Nj} {CU SU q bb L0 : Nat} {xs : Nat → Int32} {c rd tx ur sl sf sb : Nat} {A : Nat → Nat → Nat} {x n d b p s o ol : Nat} (hX : zScr E X bb L0 xs) (hq : q + 6 ≤ L0) (hL : L0 ≤ 3072) (hCU : CU + 14 ≤ 601024) (hSU : SU + 1046 ≤ 7293034) (hI : iInv g i j c rd tx ur sl sf sb A x n d b p s o ol) (KN : lawN E Z X CU SU q bb c rd tx ur sl sf sb A x n d b p s o ol) : zR E mL_law Z X 3233 [.ref (bb + 1), .ref c, .ref x, .ref ol, .int (nI q), zJ, zJ, zJ, zJ] [] g i j CU SU := by
  obtain ⟨hS, u, w, L, O, hN⟩ := hI
  have hY := hS.y
  have hW := hS.ww
  have hX3 : zX3 g c (A 0) := hY.x
  have hB : zB g i x n d b p s o := ⟨hW, hS.r3, hN.1.1⟩
  have hH : zH i (A 0) (i n) := hN.1.2.1
  have w1 := hW.1
  have x1 := hS.kc
  have o1 := hS.oo
  have o11 := o1.1
  have jx := hS.jx
  obtain ⟨hu, hu6, hw, hw6, hc, -⟩ := id hN.2.1
  have hNo := hN.1.2.2 (3 + u) (by omega)
  refine r_aload_n qL_law_3233 rfl ?_
  refine r_aload_n qL_law_3234 rfl ?_
  refine r_iload qL_law_3235 rfl ?_
  refine r_iconst (v := nI 1) qL_law_3237 (by decide) ?_
  first | with_reducible refine r_iaddN qL_law_3238 ?_ | refine r_iadd qL_law_3238 ?_
  refine r_sld hX qL_law_3239 (by omega) hL ?_
  refine r_aload_n qL_law_3240 rfl ?_
  refine r_cH3 (cu2 := CU + 1) (su2 := SU + 6) qL_law_3241 kW_374 rfl (by decide +kernel) rfl rfl rfl (lbc (by omega)) (lbs (by omega)) ?_
  refine c_L_pass x1 (fun K1 hK1 => c_X3_pass hY hH hu hu6 hw hw6 hNo (fun hne => hK1 _ _ _ _ (lk3 o1 (by first | exact Or.inr rfl | exact Or.inl trivial) (by first | exact Or.inr rfl | exact Or.inl trivial) (by first | exact Or.inr rfl | exact Or.inl trivial) (fun j1 hj1 hj1n => ?_))) (fun h1 i1 ac => hK1 _ _ _ _ ⟨o1.1, o1.2, fun j1 hj1 hj1n => ?_⟩))
  · show zR E _ _ X 3244 _ _ _ _ _ _ _
    refine r_is_9_5 qL_law_3244 rfl rfl ?_
    refine r_aload_n qL_law_3246 rfl ?_
    refine r_aload_n qL_law_3247 rfl ?_
    refine r_iload qL_law_3248 rfl ?_
    refine r_iconst (v := nI 1) qL_law_3250 (by decide) ?_
    first | with_reducible refine r_iaddN qL_law_3251 ?_ | refine r_iadd qL_law_3251 ?_
    refine r_sld hX qL_law_3252 (by omega) hL ?_
    refine r_cv1 (cu2 := CU + 1) (su2 := SU + 6) qL_law_3253 kW_376 rfl (by decide +kernel) (c := 4) (by assumption) (by decide) rfl rfl rfl rfl (lbc (by omega)) (lbs (by omega)) ?_
    refine c_X4_pass hB hc hw6 (fun h i2 e2 p2 => ?_) (fun h => absurd h hne)
    show zR E _ _ X 3256 _ _ _ _ _ _ _
    refine r_is_9_6 qL_law_3256 rfl rfl ?_
    refine r_aload_n qL_law_3258 rfl ?_
    refine r_cv0 (cu2 := CU + 1) (su2 := SU + 6) qL_law_3259 kW_180 rfl (by decide +kernel) (c := 4) (by assumption) (by decide) rfl rfl rfl rfl (lbc (by omega)) (lbs (by omega)) ?_
    refine c_X4_thrown w1 ?_
    rw [e2, pk_us]
    show zR E _ _ X 3262 _ _ _ _ _ _ _
    refine r_iload qL_law_3262 rfl ?_
    refine r_icmp_eq (t := 3269) qL_law_3264 (by decide) (fun hc3264 => ?_) (fun hc3264 => absurd hc3264 (fun h => h rfl))
    refine r_iload qL_law_3269 rfl ?_
    refine r_if_ne (t := 3286) qL_law_3271 (by decide) (fun hc3271 => ?_) (fun hc3271 => absurd hc3271 (c3_zn (fun h => hne h.1)))
    refine r_goto (t := 3557) qL_law_3286 (by decide) ?_
    exact KN _ _ _ _ _ _ _ _ _ (by omega) (by omega) ⟨hS, _, _, _, _, hN.ask hS (fun r h1 _ _ => p2 r h1) (fun m hm => by rw [e2, pk_un hm]) (fun z hz => by rw [p2 _ (Ne.symm ((hS.di dM_x).2.2.2.2.2.2 1 _ (by decide) (by omega)))]; exact hN.1.2.2 1 (by decide) z hz) (hj1n _ jx)⟩
  · show zR E _ _ X 3244 _ _ _ _ _ _ _
    refine r_is_9_5 qL_law_3244 rfl rfl ?_
    refine r_aload_n qL_law_3246 rfl ?_
    refine r_aload_n qL_law_3247 rfl ?_
    refine r_iload qL_law_3248 rfl ?_
    refine r_iconst (v := nI 1) qL_law_3250 (by decide) ?_
    first | with_reducible refine r_iaddN qL_law_3251 ?_ | refine r_iadd qL_law_3251 ?_
    refine r_sld hX qL_law_3252 (by omega) hL ?_
    refine r_cv1 (cu2 := CU + 1) (su2 := SU + 6) qL_law_3253 kW_376 rfl (by decide +kernel) (c := 4) (by assumption) (by decide) rfl rfl rfl rfl (lbc (by omega)) (lbs (by omega)) ?_
    have e1n : i1 n = i n := ac.2.2.2.2.2 n (hS.di dM_n).1 (fun q hq => (hS.di dM_n).2.2.2.2.2.2 0 q (by decide) hq) (fun q hq => (hS.di dM_n).2.2.2.2.2.2 (3 + u) q (by omega) hq)
    have e1x : i1 x = i x := ac.2.2.2.2.2 x (hS.di dM_x).1 (fun q hq => (hS.di dM_x).2.2.2.2.2.2 0 q (by decide) hq) (fun q hq => (hS.di dM_x).2.2.2.2.2.2 (3 + u) q (by omega) hq)
    have hB1 : zB g i1 x n d b p s o := ⟨hW, hS.r3, by rw [e1n]; exact hN.1.1⟩
    have hc1 : i1 x 29 = nI w := by rw [e1x]; exact hc
    refine c_X4_pass hB1 hc1 hw6 (fun h => absurd (by first | (rw [e1n]; exact h1) | exact h1) h) (fun h i2 e2 pp nn p2 => ?_)
    try rw [e1n] at nn
    try rw [e1n]
    show zR E _ _ X 3256 _ _ _ _ _ _ _
    refine r_is_9_6 qL_law_3256 rfl rfl ?_
    refine r_aload_n qL_law_3258 rfl ?_
    refine r_cv0 (cu2 := CU + 1) (su2 := SU + 6) qL_law_3259 kW_180 rfl (by decide +kernel) (c := 4) (by assumption) (by decide) rfl rfl rfl rfl (lbc (by omega)) (lbs (by omega)) ?_
    refine c_X4_thrown w1 ?_
    rw [e2, pk_un (by decide), pk_us]
    show zR E _ _ X 3262 _ _ _ _ _ _ _
    refine r_iload qL_law_3262 rfl ?_
    refine r_icmp_eq (t := 3269) qL_law_3264 (by decide) (fun hc3264 => ?_) (fun hc3264 => absurd hc3264 (fun h => h rfl))
    refine r_iload qL_law_3269 rfl ?_
    refine r_if_ne (t := 3286) qL_law_3271 (by decide) (fun hc3271 => absurd hc3271 (by decide)) (fun hc3271 => ?_)
    refine r_aload_n qL_law_3274 rfl ?_
    refine r_iconst (v := nI 0) qL_law_3275 (by decide) ?_
    refine r_lald qL_law_3276 (by assumption) (in_0 o1.2) ?_
    refine r_iload qL_law_3277 rfl ?_
    refine r_i2l qL_law_3279 ?_
    refine r_lcmp qL_law_3280 ?_
    refine r_if_eq (t := 3286) qL_law_3281 (by decide) (fun hc3281 => ?_) (fun hc3281 => absurd hc3281 (fun h => h ((lg_cmp_eq _ _).mpr hj1)))
    refine r_goto (t := 3557) qL_law_3286 (by decide) ?_
    exact KN _ _ _ _ _ _ _ _ _ (by omega) (by omega) ⟨hS, _, _, _, _, hN.act hS ac (fun m h0 h29 => by rw [e2, pk_un h29, pk_un h0]) (by rw [e2, pk_us]) pp nn p2 (hj1n _ jx)⟩

