/-! ===== THE LAW'S CASES ===== -/
theorem lc_50 {E : Ev} {Z : Fx → State → Prop} {X : Fx} {g : Sh} {i : Ni} {j : Nj} {CU SU q bb L0 : Nat} {xs : Nat → Int32} {c rd tx ur sl sf sb : Nat} {A : Nat → Nat → Nat} {x n d b p s o ol : Nat} (hX : zScr E X bb L0 xs) (hq : q + 6 ≤ L0) (hL : L0 ≤ 3072) (hCU : CU + 14 ≤ 601024) (hSU : SU + 1046 ≤ 7293034) (hI : iInv g i j c rd tx ur sl sf sb A x n d b p s o ol) (KN : lawN E Z X CU SU q bb c rd tx ur sl sf sb A x n d b p s o ol) : zR E mL_law Z X 2702 [.ref (bb + 1), .ref c, .ref x, .ref ol, .int (nI q), zJ, zJ, zJ, zJ] [] g i j CU SU := by
  obtain ⟨hS, u, w, L, O, hN⟩ := hI
  have hY := hS.y
  have hW := hS.ww
  have hX3 : zX3 g c (A 0) := hY.x
  have hB : zB g i x n d b p s o := ⟨hW, hS.r3, hN.1.1⟩
  have hH : zH i (A 0) (i n) := hN.1.2.1
  have w1 := hW.1
  have x1 := hS.kc
  have o1 := hS.oo
  have o11 := o1.1
  have jx := hS.jx
  obtain ⟨hu, hu6, hw, hw6, hc, -⟩ := id hN.2.1
  have hNo := hN.1.2.2 (3 + u) (by omega)
  refine r_aload_n qL_law_2702 rfl ?_
  refine r_aload_n qL_law_2703 rfl ?_
  refine r_iload qL_law_2704 rfl ?_
  refine r_iconst (v := nI 1) qL_law_2706 (by decide) ?_
  first | with_reducible refine r_iaddN qL_law_2707 ?_ | refine r_iadd qL_law_2707 ?_
  refine r_sld hX qL_law_2708 (by omega) hL ?_
  refine r_aload_n qL_law_2709 rfl ?_
  refine r_iload qL_law_2710 rfl ?_
  refine r_iconst (v := nI 2) qL_law_2712 (by decide) ?_
  first | with_reducible refine r_iaddN qL_law_2713 ?_ | refine r_iadd qL_law_2713 ?_
  refine r_sld hX qL_law_2714 (by omega) hL ?_
  refine r_aload_n qL_law_2715 rfl ?_
  refine r_cH4 (cu2 := CU + 3) (su2 := SU + 18) qL_law_2716 kW_349 rfl (by decide +kernel) rfl rfl rfl (lbc (by omega)) (lbs (by omega)) ?_
  refine c_L_dip x1 (fun K1 hK1 => c_X3_dip hY hH hu hu6 hw hw6 hNo (fun hne => hK1 _ _ _ _ (lk3 o1 (by first | exact Or.inr rfl | exact Or.inl trivial) (by first | exact Or.inr rfl | exact Or.inl trivial) (by first | exact Or.inr rfl | exact Or.inl trivial) (fun j1 hj1 hj1n => ?_))) (fun h1 h2 i1 ac => hK1 _ _ _ _ ⟨o1.1, o1.2, fun j1 hj1 hj1n => ?_⟩))
  · show zR E _ _ X 2719 _ _ _ _ _ _ _
    refine r_is_9_5 qL_law_2719 rfl rfl ?_
    refine r_aload_n qL_law_2721 rfl ?_
    refine r_aload_n qL_law_2722 rfl ?_
    refine r_iload qL_law_2723 rfl ?_
    refine r_iconst (v := nI 1) qL_law_2725 (by decide) ?_
    first | with_reducible refine r_iaddN qL_law_2726 ?_ | refine r_iadd qL_law_2726 ?_
    refine r_sld hX qL_law_2727 (by omega) hL ?_
    refine r_aload_n qL_law_2728 rfl ?_
    refine r_iload qL_law_2729 rfl ?_
    refine r_iconst (v := nI 2) qL_law_2731 (by decide) ?_
    first | with_reducible refine r_iaddN qL_law_2732 ?_ | refine r_iadd qL_law_2732 ?_
    refine r_sld hX qL_law_2733 (by omega) hL ?_
    refine r_cv2 (cu2 := CU + 3) (su2 := SU + 18) qL_law_2734 kW_351 rfl (by decide +kernel) (c := 4) (by assumption) (by decide) rfl rfl rfl rfl (lbc (by omega)) (lbs (by omega)) ?_
    refine c_X4_dip hB hc hw6 (fun h i2 e2 p2 => ?_) (fun h => absurd h hne)
    show zR E _ _ X 2737 _ _ _ _ _ _ _
    refine r_is_9_6 qL_law_2737 rfl rfl ?_
    refine r_aload_n qL_law_2739 rfl ?_
    refine r_cv0 (cu2 := CU + 3) (su2 := SU + 18) qL_law_2740 kW_180 rfl (by decide +kernel) (c := 4) (by assumption) (by decide) rfl rfl rfl rfl (lbc (by omega)) (lbs (by omega)) ?_
    refine c_X4_thrown w1 ?_
    rw [e2, pk_us]
    show zR E _ _ X 2743 _ _ _ _ _ _ _
    refine r_iload qL_law_2743 rfl ?_
    refine r_icmp_eq (t := 2750) qL_law_2745 (by decide) (fun hc2745 => ?_) (fun hc2745 => absurd hc2745 (fun h => h rfl))
    refine r_iload qL_law_2750 rfl ?_
    refine r_if_ne (t := 2767) qL_law_2752 (by decide) (fun hc2752 => ?_) (fun hc2752 => absurd hc2752 (c3_zn (fun h => hne ⟨h.1, h.2.1⟩)))
    refine r_goto (t := 3557) qL_law_2767 (by decide) ?_
    exact KN _ _ _ _ _ _ _ _ _ (by omega) (by omega) ⟨hS, _, _, _, _, hN.ask hS (fun r h1 _ _ => p2 r h1) (fun m hm => by rw [e2, pk_un hm]) (fun z hz => by rw [p2 _ (Ne.symm ((hS.di dM_x).2.2.2.2.2.2 1 _ (by decide) (by omega)))]; exact hN.1.2.2 1 (by decide) z hz) (hj1n _ jx)⟩
  · show zR E _ _ X 2719 _ _ _ _ _ _ _
    refine r_is_9_5 qL_law_2719 rfl rfl ?_
    refine r_aload_n qL_law_2721 rfl ?_
    refine r_aload_n qL_law_2722 rfl ?_
    refine r_iload qL_law_2723 rfl ?_
    refine r_iconst (v := nI 1) qL_law_2725 (by decide) ?_
    first | with_reducible refine r_iaddN qL_law_2726 ?_ | refine r_iadd qL_law_2726 ?_
    refine r_sld hX qL_law_2727 (by omega) hL ?_
    refine r_aload_n qL_law_2728 rfl ?_
    refine r_iload qL_law_2729 rfl ?_
    refine r_iconst (v := nI 2) qL_law_2731 (by decide) ?_
    first | with_reducible refine r_iaddN qL_law_2732 ?_ | refine r_iadd qL_law_2732 ?_
    refine r_sld hX qL_law_2733 (by omega) hL ?_
    refine r_cv2 (cu2 := CU + 3) (su2 := SU + 18) qL_law_2734 kW_351 rfl (by decide +kernel) (c := 4) (by assumption) (by decide) rfl rfl rfl rfl (lbc (by omega)) (lbs (by omega)) ?_
    have e1n : i1 n = i n := ac.2.2.2.2.2 n (hS.di dM_n).1 (fun q hq => (hS.di dM_n).2.2.2.2.2.2 0 q (by decide) hq) (fun q hq => (hS.di dM_n).2.2.2.2.2.2 (3 + u) q (by omega) hq)
    have e1x : i1 x = i x := ac.2.2.2.2.2 x (hS.di dM_x).1 (fun q hq => (hS.di dM_x).2.2.2.2.2.2 0 q (by decide) hq) (fun q hq => (hS.di dM_x).2.2.2.2.2.2 (3 + u) q (by omega) hq)
    have hB1 : zB g i1 x n d b p s o := ⟨hW, hS.r3, by rw [e1n]; exact hN.1.1⟩
    have hc1 : i1 x 29 = nI w := by rw [e1x]; exact hc
    refine c_X4_dip hB1 hc1 hw6 (fun h => absurd (by first | (rw [e1n]; exact ⟨h1, h2⟩) | exact ⟨h1, h2⟩) h) (fun h i2 e2 pp nn p2 => ?_)
    try rw [e1n] at nn
    try rw [e1n]
    show zR E _ _ X 2737 _ _ _ _ _ _ _
    refine r_is_9_6 qL_law_2737 rfl rfl ?_
    refine r_aload_n qL_law_2739 rfl ?_
    refine r_cv0 (cu2 := CU + 3) (su2 := SU + 18) qL_law_2740 kW_180 rfl (by decide +kernel) (c := 4) (by assumption) (by decide) rfl rfl rfl rfl (lbc (by omega)) (lbs (by omega)) ?_
    refine c_X4_thrown w1 ?_
    rw [e2, pk_un (by decide), pk_us]
    show zR E _ _ X 2743 _ _ _ _ _ _ _
    refine r_iload qL_law_2743 rfl ?_
    refine r_icmp_eq (t := 2750) qL_law_2745 (by decide) (fun hc2745 => ?_) (fun hc2745 => absurd hc2745 (fun h => h rfl))
    refine r_iload qL_law_2750 rfl ?_
    refine r_if_ne (t := 2767) qL_law_2752 (by decide) (fun hc2752 => absurd hc2752 (by decide)) (fun hc2752 => ?_)
    refine r_aload_n qL_law_2755 rfl ?_
    refine r_iconst (v := nI 0) qL_law_2756 (by decide) ?_
    refine r_lald qL_law_2757 (by assumption) (in_0 o1.2) ?_
    refine r_iload qL_law_2758 rfl ?_
    refine r_i2l qL_law_2760 ?_
    refine r_lcmp qL_law_2761 ?_
    refine r_if_eq (t := 2767) qL_law_2762 (by decide) (fun hc2762 => ?_) (fun hc2762 => absurd hc2762 (fun h => h ((lg_cmp_eq _ _).mpr hj1)))
    refine r_goto (t := 3557) qL_law_2767 (by decide) ?_
    exact KN _ _ _ _ _ _ _ _ _ (by omega) (by omega) ⟨hS, _, _, _, _, hN.act hS ac (fun m h0 h29 => by rw [e2, pk_un h29, pk_un h0]) (by rw [e2, pk_us]) pp nn p2 (hj1n _ jx)⟩
theorem lc_51 {E : Ev} {Z : Fx → State → Prop} {X : Fx} {g : Sh} {i : Ni} {j : Nj} {CU SU q bb L0 : Nat} {xs : Nat → Int32} {c rd tx ur sl sf sb : Nat} {A : Nat → Nat → Nat} {x n d b p s o ol : Nat} (hX : zScr E X bb L0 xs) (hq : q + 6 ≤ L0) (hL : L0 ≤ 3072) (hCU : CU + 14 ≤ 601024) (hSU : SU + 1046 ≤ 7293034) (hI : iInv g i j c rd tx ur sl sf sb A x n d b p s o ol) (KN : lawN E Z X CU SU q bb c rd tx ur sl sf sb A x n d b p s o ol) : zR E mL_law Z X 2770 [.ref (bb + 1), .ref c, .ref x, .ref ol, .int (nI q), zJ, zJ, zJ, zJ] [] g i j CU SU := by
  obtain ⟨hS, u, w, L, O, hN⟩ := hI
  have hY := hS.y
  have hW := hS.ww
  have hX3 : zX3 g c (A 0) := hY.x
  have hB : zB g i x n d b p s o := ⟨hW, hS.r3, hN.1.1⟩
  have hH : zH i (A 0) (i n) := hN.1.2.1
  have w1 := hW.1
  have x1 := hS.kc
  have o1 := hS.oo
  have o11 := o1.1
  have jx := hS.jx
  obtain ⟨hu, hu6, hw, hw6, hc, -⟩ := id hN.2.1
  have hNo := hN.1.2.2 (3 + u) (by omega)
  refine r_aload_n qL_law_2770 rfl ?_
  refine r_aload_n qL_law_2771 rfl ?_
  refine r_iload qL_law_2772 rfl ?_
  refine r_iconst (v := nI 1) qL_law_2774 (by decide) ?_
  first | with_reducible refine r_iaddN qL_law_2775 ?_ | refine r_iadd qL_law_2775 ?_
  refine r_sld hX qL_law_2776 (by omega) hL ?_
  refine r_aload_n qL_law_2777 rfl ?_
  refine r_cH3 (cu2 := CU + 2) (su2 := SU + 12) qL_law_2778 kW_352 rfl (by decide +kernel) rfl rfl rfl (lbc (by omega)) (lbs (by omega)) ?_
  refine c_L_lift x1 (fun K1 hK1 => c_X3_lift hY hH hu hu6 hw hw6 hNo (fun hne => hK1 _ _ _ _ (lk3 o1 (by first | exact Or.inr rfl | exact Or.inl trivial) (by first | exact Or.inr rfl | exact Or.inl trivial) (by first | exact Or.inr rfl | exact Or.inl trivial) (fun j1 hj1 hj1n => ?_))) (fun h1 h2 i1 ac => hK1 _ _ _ _ ⟨o1.1, o1.2, fun j1 hj1 hj1n => ?_⟩))
  · show zR E _ _ X 2781 _ _ _ _ _ _ _
    refine r_is_9_5 qL_law_2781 rfl rfl ?_
    refine r_aload_n qL_law_2783 rfl ?_
    refine r_aload_n qL_law_2784 rfl ?_
    refine r_iload qL_law_2785 rfl ?_
    refine r_iconst (v := nI 1) qL_law_2787 (by decide) ?_
    first | with_reducible refine r_iaddN qL_law_2788 ?_ | refine r_iadd qL_law_2788 ?_
    refine r_sld hX qL_law_2789 (by omega) hL ?_
    refine r_cv1 (cu2 := CU + 2) (su2 := SU + 12) qL_law_2790 kW_354 rfl (by decide +kernel) (c := 4) (by assumption) (by decide) rfl rfl rfl rfl (lbc (by omega)) (lbs (by omega)) ?_
    refine c_X4_lift hB hc hw6 (fun h i2 e2 p2 => ?_) (fun h => absurd h hne)
    show zR E _ _ X 2793 _ _ _ _ _ _ _
    refine r_is_9_6 qL_law_2793 rfl rfl ?_
    refine r_aload_n qL_law_2795 rfl ?_
    refine r_cv0 (cu2 := CU + 2) (su2 := SU + 12) qL_law_2796 kW_180 rfl (by decide +kernel) (c := 4) (by assumption) (by decide) rfl rfl rfl rfl (lbc (by omega)) (lbs (by omega)) ?_
    refine c_X4_thrown w1 ?_
    rw [e2, pk_us]
    show zR E _ _ X 2799 _ _ _ _ _ _ _
    refine r_iload qL_law_2799 rfl ?_
    refine r_icmp_eq (t := 2806) qL_law_2801 (by decide) (fun hc2801 => ?_) (fun hc2801 => absurd hc2801 (fun h => h rfl))
    refine r_iload qL_law_2806 rfl ?_
    refine r_if_ne (t := 2823) qL_law_2808 (by decide) (fun hc2808 => ?_) (fun hc2808 => absurd hc2808 (c3_zn (fun h => hne ⟨h.1, h.2.1⟩)))
    refine r_goto (t := 3557) qL_law_2823 (by decide) ?_
    exact KN _ _ _ _ _ _ _ _ _ (by omega) (by omega) ⟨hS, _, _, _, _, hN.ask hS (fun r h1 _ _ => p2 r h1) (fun m hm => by rw [e2, pk_un hm]) (fun z hz => by rw [p2 _ (Ne.symm ((hS.di dM_x).2.2.2.2.2.2 1 _ (by decide) (by omega)))]; exact hN.1.2.2 1 (by decide) z hz) (hj1n _ jx)⟩
  · show zR E _ _ X 2781 _ _ _ _ _ _ _
    refine r_is_9_5 qL_law_2781 rfl rfl ?_
    refine r_aload_n qL_law_2783 rfl ?_
    refine r_aload_n qL_law_2784 rfl ?_
    refine r_iload qL_law_2785 rfl ?_
    refine r_iconst (v := nI 1) qL_law_2787 (by decide) ?_
    first | with_reducible refine r_iaddN qL_law_2788 ?_ | refine r_iadd qL_law_2788 ?_
    refine r_sld hX qL_law_2789 (by omega) hL ?_
    refine r_cv1 (cu2 := CU + 2) (su2 := SU + 12) qL_law_2790 kW_354 rfl (by decide +kernel) (c := 4) (by assumption) (by decide) rfl rfl rfl rfl (lbc (by omega)) (lbs (by omega)) ?_
    have e1n : i1 n = i n := ac.2.2.2.2.2 n (hS.di dM_n).1 (fun q hq => (hS.di dM_n).2.2.2.2.2.2 0 q (by decide) hq) (fun q hq => (hS.di dM_n).2.2.2.2.2.2 (3 + u) q (by omega) hq)
    have e1x : i1 x = i x := ac.2.2.2.2.2 x (hS.di dM_x).1 (fun q hq => (hS.di dM_x).2.2.2.2.2.2 0 q (by decide) hq) (fun q hq => (hS.di dM_x).2.2.2.2.2.2 (3 + u) q (by omega) hq)
    have hB1 : zB g i1 x n d b p s o := ⟨hW, hS.r3, by rw [e1n]; exact hN.1.1⟩
    have hc1 : i1 x 29 = nI w := by rw [e1x]; exact hc
    refine c_X4_lift hB1 hc1 hw6 (fun h => absurd (by first | (rw [e1n]; exact ⟨h1, h2⟩) | exact ⟨h1, h2⟩) h) (fun h i2 e2 pp nn p2 => ?_)
    try rw [e1n] at nn
    try rw [e1n]
    show zR E _ _ X 2793 _ _ _ _ _ _ _
    refine r_is_9_6 qL_law_2793 rfl rfl ?_
    refine r_aload_n qL_law_2795 rfl ?_
    refine r_cv0 (cu2 := CU + 2) (su2 := SU + 12) qL_law_2796 kW_180 rfl (by decide +kernel) (c := 4) (by assumption) (by decide) rfl rfl rfl rfl (lbc (by omega)) (lbs (by omega)) ?_
    refine c_X4_thrown w1 ?_
    rw [e2, pk_un (by decide), pk_us]
    show zR E _ _ X 2799 _ _ _ _ _ _ _
    refine r_iload qL_law_2799 rfl ?_
    refine r_icmp_eq (t := 2806) qL_law_2801 (by decide) (fun hc2801 => ?_) (fun hc2801 => absurd hc2801 (fun h => h rfl))
    refine r_iload qL_law_2806 rfl ?_
    refine r_if_ne (t := 2823) qL_law_2808 (by decide) (fun hc2808 => absurd hc2808 (by decide)) (fun hc2808 => ?_)
    refine r_aload_n qL_law_2811 rfl ?_
    refine r_iconst (v := nI 0) qL_law_2812 (by decide) ?_
    refine r_lald qL_law_2813 (by assumption) (in_0 o1.2) ?_
    refine r_iload qL_law_2814 rfl ?_
    refine r_i2l qL_law_2816 ?_
    refine r_lcmp qL_law_2817 ?_
    refine r_if_eq (t := 2823) qL_law_2818 (by decide) (fun hc2818 => ?_) (fun hc2818 => absurd hc2818 (fun h => h ((lg_cmp_eq _ _).mpr hj1)))
    refine r_goto (t := 3557) qL_law_2823 (by decide) ?_
    exact KN _ _ _ _ _ _ _ _ _ (by omega) (by omega) ⟨hS, _, _, _, _, hN.act hS ac (fun m h0 h29 => by rw [e2, pk_un h29, pk_un h0]) (by rw [e2, pk_us]) pp nn p2 (hj1n _ jx)⟩
theorem lc_52 {E : Ev} {Z : Fx → State → Prop} {X : Fx} {g : Sh} {i : Ni} {j : Nj} {CU SU q bb L0 : Nat} {xs : Nat → Int32} {c rd tx ur sl sf sb : Nat} {A : Nat → Nat → Nat} {x n d b p s o ol : Nat} (hX : zScr E X bb L0 xs) (hq : q + 6 ≤ L0) (hL : L0 ≤ 3072) (hCU : CU + 14 ≤ 601024) (hSU : SU + 1046 ≤ 7293034) (hI : iInv g i j c rd tx ur sl sf sb A x n d b p s o ol) (KN : lawN E Z X CU SU q bb c rd tx ur sl sf sb A x n d b p s o ol) : zR E mL_law Z X 2826 [.ref (bb + 1), .ref c, .ref x, .ref ol, .int (nI q), zJ, zJ, zJ, zJ] [] g i j CU SU := by
  obtain ⟨hS, u, w, L, O, hN⟩ := hI
  have hY := hS.y
  have hW := hS.ww
  have hX3 : zX3 g c (A 0) := hY.x
  have hB : zB g i x n d b p s o := ⟨hW, hS.r3, hN.1.1⟩
  have hH : zH i (A 0) (i n) := hN.1.2.1
  have w1 := hW.1
  have x1 := hS.kc
  have o1 := hS.oo
  have o11 := o1.1
  have jx := hS.jx
  obtain ⟨hu, hu6, hw, hw6, hc, -⟩ := id hN.2.1
  have hNo := hN.1.2.2 (3 + u) (by omega)
  refine r_aload_n qL_law_2826 rfl ?_
  refine r_aload_n qL_law_2827 rfl ?_
  refine r_iload qL_law_2828 rfl ?_
  refine r_iconst (v := nI 1) qL_law_2830 (by decide) ?_
  first | with_reducible refine r_iaddN qL_law_2831 ?_ | refine r_iadd qL_law_2831 ?_
  refine r_sld hX qL_law_2832 (by omega) hL ?_
  refine r_aload_n qL_law_2833 rfl ?_
  refine r_cH3 (cu2 := CU + 2) (su2 := SU + 12) qL_law_2834 kW_355 rfl (by decide +kernel) rfl rfl rfl (lbc (by omega)) (lbs (by omega)) ?_
  refine c_L_mark x1 (fun K1 hK1 => c_X3_mark hY hH hu hu6 hw hw6 hNo (fun hne => hK1 _ _ _ _ (lk3 o1 (by first | exact Or.inr rfl | exact Or.inl trivial) (by first | exact Or.inr rfl | exact Or.inl trivial) (by first | exact Or.inr rfl | exact Or.inl trivial) (fun j1 hj1 hj1n => ?_))) (fun h1 h2 i1 ac => hK1 _ _ _ _ ⟨o1.1, o1.2, fun j1 hj1 hj1n => ?_⟩))
  · show zR E _ _ X 2837 _ _ _ _ _ _ _
    refine r_is_9_5 qL_law_2837 rfl rfl ?_
    refine r_aload_n qL_law_2839 rfl ?_
    refine r_aload_n qL_law_2840 rfl ?_
    refine r_iload qL_law_2841 rfl ?_
    refine r_iconst (v := nI 1) qL_law_2843 (by decide) ?_
    first | with_reducible refine r_iaddN qL_law_2844 ?_ | refine r_iadd qL_law_2844 ?_
    refine r_sld hX qL_law_2845 (by omega) hL ?_
    refine r_cv1 (cu2 := CU + 2) (su2 := SU + 12) qL_law_2846 kW_357 rfl (by decide +kernel) (c := 4) (by assumption) (by decide) rfl rfl rfl rfl (lbc (by omega)) (lbs (by omega)) ?_
    refine c_X4_mark hB hc hw6 (fun h i2 e2 p2 => ?_) (fun h => absurd h hne)
    show zR E _ _ X 2849 _ _ _ _ _ _ _
    refine r_is_9_6 qL_law_2849 rfl rfl ?_
    refine r_aload_n qL_law_2851 rfl ?_
    refine r_cv0 (cu2 := CU + 2) (su2 := SU + 12) qL_law_2852 kW_180 rfl (by decide +kernel) (c := 4) (by assumption) (by decide) rfl rfl rfl rfl (lbc (by omega)) (lbs (by omega)) ?_
    refine c_X4_thrown w1 ?_
    rw [e2, pk_us]
    show zR E _ _ X 2855 _ _ _ _ _ _ _
    refine r_iload qL_law_2855 rfl ?_
    refine r_icmp_eq (t := 2862) qL_law_2857 (by decide) (fun hc2857 => ?_) (fun hc2857 => absurd hc2857 (fun h => h rfl))
    refine r_iload qL_law_2862 rfl ?_
    refine r_if_ne (t := 2879) qL_law_2864 (by decide) (fun hc2864 => ?_) (fun hc2864 => absurd hc2864 (c3_zn (fun h => hne ⟨h.1, h.2.1⟩)))
    refine r_goto (t := 3557) qL_law_2879 (by decide) ?_
    exact KN _ _ _ _ _ _ _ _ _ (by omega) (by omega) ⟨hS, _, _, _, _, hN.ask hS (fun r h1 _ _ => p2 r h1) (fun m hm => by rw [e2, pk_un hm]) (fun z hz => by rw [p2 _ (Ne.symm ((hS.di dM_x).2.2.2.2.2.2 1 _ (by decide) (by omega)))]; exact hN.1.2.2 1 (by decide) z hz) (hj1n _ jx)⟩
  · show zR E _ _ X 2837 _ _ _ _ _ _ _
    refine r_is_9_5 qL_law_2837 rfl rfl ?_
    refine r_aload_n qL_law_2839 rfl ?_
    refine r_aload_n qL_law_2840 rfl ?_
    refine r_iload qL_law_2841 rfl ?_
    refine r_iconst (v := nI 1) qL_law_2843 (by decide) ?_
    first | with_reducible refine r_iaddN qL_law_2844 ?_ | refine r_iadd qL_law_2844 ?_
    refine r_sld hX qL_law_2845 (by omega) hL ?_
    refine r_cv1 (cu2 := CU + 2) (su2 := SU + 12) qL_law_2846 kW_357 rfl (by decide +kernel) (c := 4) (by assumption) (by decide) rfl rfl rfl rfl (lbc (by omega)) (lbs (by omega)) ?_
    have e1n : i1 n = i n := ac.2.2.2.2.2 n (hS.di dM_n).1 (fun q hq => (hS.di dM_n).2.2.2.2.2.2 0 q (by decide) hq) (fun q hq => (hS.di dM_n).2.2.2.2.2.2 (3 + u) q (by omega) hq)
    have e1x : i1 x = i x := ac.2.2.2.2.2 x (hS.di dM_x).1 (fun q hq => (hS.di dM_x).2.2.2.2.2.2 0 q (by decide) hq) (fun q hq => (hS.di dM_x).2.2.2.2.2.2 (3 + u) q (by omega) hq)
    have hB1 : zB g i1 x n d b p s o := ⟨hW, hS.r3, by rw [e1n]; exact hN.1.1⟩
    have hc1 : i1 x 29 = nI w := by rw [e1x]; exact hc
    refine c_X4_mark hB1 hc1 hw6 (fun h => absurd (by first | (rw [e1n]; exact ⟨h1, h2⟩) | exact ⟨h1, h2⟩) h) (fun h i2 e2 pp nn p2 => ?_)
    try rw [e1n] at nn
    try rw [e1n]
    show zR E _ _ X 2849 _ _ _ _ _ _ _
    refine r_is_9_6 qL_law_2849 rfl rfl ?_
    refine r_aload_n qL_law_2851 rfl ?_
    refine r_cv0 (cu2 := CU + 2) (su2 := SU + 12) qL_law_2852 kW_180 rfl (by decide +kernel) (c := 4) (by assumption) (by decide) rfl rfl rfl rfl (lbc (by omega)) (lbs (by omega)) ?_
    refine c_X4_thrown w1 ?_
    rw [e2, pk_un (by decide), pk_us]
    show zR E _ _ X 2855 _ _ _ _ _ _ _
    refine r_iload qL_law_2855 rfl ?_
    refine r_icmp_eq (t := 2862) qL_law_2857 (by decide) (fun hc2857 => ?_) (fun hc2857 => absurd hc2857 (fun h => h rfl))
    refine r_iload qL_law_2862 rfl ?_
    refine r_if_ne (t := 2879) qL_law_2864 (by decide) (fun hc2864 => absurd hc2864 (by decide)) (fun hc2864 => ?_)
    refine r_aload_n qL_law_2867 rfl ?_
    refine r_iconst (v := nI 0) qL_law_2868 (by decide) ?_
    refine r_lald qL_law_2869 (by assumption) (in_0 o1.2) ?_
    refine r_iload qL_law_2870 rfl ?_
    refine r_i2l qL_law_2872 ?_
    refine r_lcmp qL_law_2873 ?_
    refine r_if_eq (t := 2879) qL_law_2874 (by decide) (fun hc2874 => ?_) (fun hc2874 => absurd hc2874 (fun h => h ((lg_cmp_eq _ _).mpr hj1)))
    refine r_goto (t := 3557) qL_law_2879 (by decide) ?_
    exact KN _ _ _ _ _ _ _ _ _ (by omega) (by omega) ⟨hS, _, _, _, _, hN.act hS ac (fun m h0 h29 => by rw [e2, pk_un h29, pk_un h0]) (by rw [e2, pk_us]) pp nn p2 (hj1n _ jx)⟩
theorem lc_53 {E : Ev} {Z : Fx → State → Prop} {X : Fx} {g : Sh} {i : Ni} {j : Nj} {CU SU q bb L0 : Nat} {xs : Nat → Int32} {c rd tx ur sl sf sb : Nat} {A : Nat → Nat → Nat} {x n d b p s o ol : Nat} (hX : zScr E X bb L0 xs) (hq : q + 6 ≤ L0) (hL : L0 ≤ 3072) (hCU : CU + 14 ≤ 601024) (hSU : SU + 1046 ≤ 7293034) (hI : iInv g i j c rd tx ur sl sf sb A x n d b p s o ol) (KN : lawN E Z X CU SU q bb c rd tx ur sl sf sb A x n d b p s o ol) : zR E mL_law Z X 2882 [.ref (bb + 1), .ref c, .ref x, .ref ol, .int (nI q), zJ, zJ, zJ, zJ] [] g i j CU SU := by
  obtain ⟨hS, u, w, L, O, hN⟩ := hI
  have hY := hS.y
  have hW := hS.ww
  have hX3 : zX3 g c (A 0) := hY.x
  have hB : zB g i x n d b p s o := ⟨hW, hS.r3, hN.1.1⟩
  have hH : zH i (A 0) (i n) := hN.1.2.1
  have w1 := hW.1
  have x1 := hS.kc
  have o1 := hS.oo
  have o11 := o1.1
  have jx := hS.jx
  obtain ⟨hu, hu6, hw, hw6, hc, -⟩ := id hN.2.1
  have hNo := hN.1.2.2 (3 + u) (by omega)
  refine r_aload_n qL_law_2882 rfl ?_
  refine r_aload_n qL_law_2883 rfl ?_
  refine r_iload qL_law_2884 rfl ?_
  refine r_iconst (v := nI 1) qL_law_2886 (by decide) ?_
  first | with_reducible refine r_iaddN qL_law_2887 ?_ | refine r_iadd qL_law_2887 ?_
  refine r_sld hX qL_law_2888 (by omega) hL ?_
  refine r_aload_n qL_law_2889 rfl ?_
  refine r_iload qL_law_2890 rfl ?_
  refine r_iconst (v := nI 2) qL_law_2892 (by decide) ?_
  first | with_reducible refine r_iaddN qL_law_2893 ?_ | refine r_iadd qL_law_2893 ?_
  refine r_sld hX qL_law_2894 (by omega) hL ?_
  refine r_aload_n qL_law_2895 rfl ?_
  refine r_cH4 (cu2 := CU + 2) (su2 := SU + 12) qL_law_2896 kW_358 rfl (by decide +kernel) rfl rfl rfl (lbc (by omega)) (lbs (by omega)) ?_
  refine c_L_erasePoint x1 (fun K1 hK1 => c_X3_erasePoint hY hH hu hu6 hw hw6 hNo (fun hne => hK1 _ _ _ _ (lk3 o1 (by first | exact Or.inr rfl | exact Or.inl trivial) (by first | exact Or.inr rfl | exact Or.inl trivial) (by first | exact Or.inr rfl | exact Or.inl trivial) (fun j1 hj1 hj1n => ?_))) (fun h1 h2 i1 ac => hK1 _ _ _ _ ⟨o1.1, o1.2, fun j1 hj1 hj1n => ?_⟩))
  · show zR E _ _ X 2899 _ _ _ _ _ _ _
    refine r_is_9_5 qL_law_2899 rfl rfl ?_
    refine r_aload_n qL_law_2901 rfl ?_
    refine r_aload_n qL_law_2902 rfl ?_
    refine r_iload qL_law_2903 rfl ?_
    refine r_iconst (v := nI 1) qL_law_2905 (by decide) ?_
    first | with_reducible refine r_iaddN qL_law_2906 ?_ | refine r_iadd qL_law_2906 ?_
    refine r_sld hX qL_law_2907 (by omega) hL ?_
    refine r_aload_n qL_law_2908 rfl ?_
    refine r_iload qL_law_2909 rfl ?_
    refine r_iconst (v := nI 2) qL_law_2911 (by decide) ?_
    first | with_reducible refine r_iaddN qL_law_2912 ?_ | refine r_iadd qL_law_2912 ?_
    refine r_sld hX qL_law_2913 (by omega) hL ?_
    refine r_cv2 (cu2 := CU + 2) (su2 := SU + 12) qL_law_2914 kW_360 rfl (by decide +kernel) (c := 4) (by assumption) (by decide) rfl rfl rfl rfl (lbc (by omega)) (lbs (by omega)) ?_
    refine c_X4_erasePoint hB hc hw6 (fun h i2 e2 p2 => ?_) (fun h => absurd h hne)
    show zR E _ _ X 2917 _ _ _ _ _ _ _
    refine r_is_9_6 qL_law_2917 rfl rfl ?_
    refine r_aload_n qL_law_2919 rfl ?_
    refine r_cv0 (cu2 := CU + 2) (su2 := SU + 12) qL_law_2920 kW_180 rfl (by decide +kernel) (c := 4) (by assumption) (by decide) rfl rfl rfl rfl (lbc (by omega)) (lbs (by omega)) ?_
    refine c_X4_thrown w1 ?_
    rw [e2, pk_us]
    show zR E _ _ X 2923 _ _ _ _ _ _ _
    refine r_iload qL_law_2923 rfl ?_
    refine r_icmp_eq (t := 2930) qL_law_2925 (by decide) (fun hc2925 => ?_) (fun hc2925 => absurd hc2925 (fun h => h rfl))
    refine r_iload qL_law_2930 rfl ?_
    refine r_if_ne (t := 2947) qL_law_2932 (by decide) (fun hc2932 => ?_) (fun hc2932 => absurd hc2932 (c3_zn (fun h => hne ⟨h.1, h.2.1⟩)))
    refine r_goto (t := 3557) qL_law_2947 (by decide) ?_
    exact KN _ _ _ _ _ _ _ _ _ (by omega) (by omega) ⟨hS, _, _, _, _, hN.ask hS (fun r h1 _ _ => p2 r h1) (fun m hm => by rw [e2, pk_un hm]) (fun z hz => by rw [p2 _ (Ne.symm ((hS.di dM_x).2.2.2.2.2.2 1 _ (by decide) (by omega)))]; exact hN.1.2.2 1 (by decide) z hz) (hj1n _ jx)⟩
  · show zR E _ _ X 2899 _ _ _ _ _ _ _
    refine r_is_9_5 qL_law_2899 rfl rfl ?_
    refine r_aload_n qL_law_2901 rfl ?_
    refine r_aload_n qL_law_2902 rfl ?_
    refine r_iload qL_law_2903 rfl ?_
    refine r_iconst (v := nI 1) qL_law_2905 (by decide) ?_
    first | with_reducible refine r_iaddN qL_law_2906 ?_ | refine r_iadd qL_law_2906 ?_
    refine r_sld hX qL_law_2907 (by omega) hL ?_
    refine r_aload_n qL_law_2908 rfl ?_
    refine r_iload qL_law_2909 rfl ?_
    refine r_iconst (v := nI 2) qL_law_2911 (by decide) ?_
    first | with_reducible refine r_iaddN qL_law_2912 ?_ | refine r_iadd qL_law_2912 ?_
    refine r_sld hX qL_law_2913 (by omega) hL ?_
    refine r_cv2 (cu2 := CU + 2) (su2 := SU + 12) qL_law_2914 kW_360 rfl (by decide +kernel) (c := 4) (by assumption) (by decide) rfl rfl rfl rfl (lbc (by omega)) (lbs (by omega)) ?_
    have e1n : i1 n = i n := ac.2.2.2.2.2 n (hS.di dM_n).1 (fun q hq => (hS.di dM_n).2.2.2.2.2.2 0 q (by decide) hq) (fun q hq => (hS.di dM_n).2.2.2.2.2.2 (3 + u) q (by omega) hq)
    have e1x : i1 x = i x := ac.2.2.2.2.2 x (hS.di dM_x).1 (fun q hq => (hS.di dM_x).2.2.2.2.2.2 0 q (by decide) hq) (fun q hq => (hS.di dM_x).2.2.2.2.2.2 (3 + u) q (by omega) hq)
    have hB1 : zB g i1 x n d b p s o := ⟨hW, hS.r3, by rw [e1n]; exact hN.1.1⟩
    have hc1 : i1 x 29 = nI w := by rw [e1x]; exact hc
    refine c_X4_erasePoint hB1 hc1 hw6 (fun h => absurd (by first | (rw [e1n]; exact ⟨h1, h2⟩) | exact ⟨h1, h2⟩) h) (fun h i2 e2 pp nn p2 => ?_)
    try rw [e1n] at nn
    try rw [e1n]
    show zR E _ _ X 2917 _ _ _ _ _ _ _
    refine r_is_9_6 qL_law_2917 rfl rfl ?_
    refine r_aload_n qL_law_2919 rfl ?_
    refine r_cv0 (cu2 := CU + 2) (su2 := SU + 12) qL_law_2920 kW_180 rfl (by decide +kernel) (c := 4) (by assumption) (by decide) rfl rfl rfl rfl (lbc (by omega)) (lbs (by omega)) ?_
    refine c_X4_thrown w1 ?_
    rw [e2, pk_un (by decide), pk_us]
    show zR E _ _ X 2923 _ _ _ _ _ _ _
    refine r_iload qL_law_2923 rfl ?_
    refine r_icmp_eq (t := 2930) qL_law_2925 (by decide) (fun hc2925 => ?_) (fun hc2925 => absurd hc2925 (fun h => h rfl))
    refine r_iload qL_law_2930 rfl ?_
    refine r_if_ne (t := 2947) qL_law_2932 (by decide) (fun hc2932 => absurd hc2932 (by decide)) (fun hc2932 => ?_)
    refine r_aload_n qL_law_2935 rfl ?_
    refine r_iconst (v := nI 0) qL_law_2936 (by decide) ?_
    refine r_lald qL_law_2937 (by assumption) (in_0 o1.2) ?_
    refine r_iload qL_law_2938 rfl ?_
    refine r_i2l qL_law_2940 ?_
    refine r_lcmp qL_law_2941 ?_
    refine r_if_eq (t := 2947) qL_law_2942 (by decide) (fun hc2942 => ?_) (fun hc2942 => absurd hc2942 (fun h => h ((lg_cmp_eq _ _).mpr hj1)))
    refine r_goto (t := 3557) qL_law_2947 (by decide) ?_
    exact KN _ _ _ _ _ _ _ _ _ (by omega) (by omega) ⟨hS, _, _, _, _, hN.act hS ac (fun m h0 h29 => by rw [e2, pk_un h29, pk_un h0]) (by rw [e2, pk_us]) pp nn p2 (hj1n _ jx)⟩

