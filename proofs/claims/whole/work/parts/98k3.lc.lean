/-! ===== THE LAW'S CASES ===== -/
theorem lc_31 {E : Ev} {Z : Fx → State → Prop} {X : Fx} {g : Sh} {i : Ni} {j : Nj} {CU SU q bb L0 : Nat} {xs : Nat → Int32} {c rd tx ur sl sf sb : Nat} {A : Nat → Nat → Nat} {x n d b p s o ol : Nat} (hX : zScr E X bb L0 xs) (hq : q + 6 ≤ L0) (hL : L0 ≤ 3072) (hCU : CU + 14 ≤ 601024) (hSU : SU + 1046 ≤ 7293034) (hI : iInv g i j c rd tx ur sl sf sb A x n d b p s o ol) (KN : lawN E Z X CU SU q bb c rd tx ur sl sf sb A x n d b p s o ol) : zR E mL_law Z X 1864 [.ref (bb + 1), .ref c, .ref x, .ref ol, .int (nI q), zJ, zJ, zJ, zJ] [] g i j CU SU := by
  obtain ⟨hS, u, w, L, O, hN⟩ := hI
  have hY := hS.y
  have hW := hS.ww
  have hX3 : zX3 g c (A 0) := hY.x
  have hB : zB g i x n d b p s o := ⟨hW, hS.r3, hN.1.1⟩
  have hH : zH i (A 0) (i n) := hN.1.2.1
  have w1 := hW.1
  have x1 := hS.kc
  have o1 := hS.oo
  have o11 := o1.1
  have jx := hS.jx
  refine r_aload_n qL_law_1864 rfl ?_
  refine r_aload_n qL_law_1865 rfl ?_
  refine r_iload qL_law_1866 rfl ?_
  refine r_iconst (v := nI 1) qL_law_1868 (by decide) ?_
  first | with_reducible refine r_iaddN qL_law_1869 ?_ | refine r_iadd qL_law_1869 ?_
  refine r_sld hX qL_law_1870 (by omega) hL ?_
  refine r_aload_n qL_law_1871 rfl ?_
  refine r_cH3 (cu2 := CU + 1) (su2 := SU + 6) qL_law_1872 kW_282 rfl (by decide +kernel) rfl rfl rfl (lbc (by omega)) (lbs (by omega)) ?_
  refine c_L_sensitivity x1 (fun K1 hK1 => c_X3_sensitivity hX3 hH (hK1 _ _ _ _ (lk3 o1 (by first | exact Or.inr rfl | exact Or.inl trivial) (by first | exact Or.inr rfl | exact Or.inl trivial) (by first | exact Or.inr rfl | exact Or.inl trivial) (fun j1 hj1 hj1n => ?_))))
  show zR E _ _ X 1875 _ _ _ _ _ _ _
  refine r_is_9_5 qL_law_1875 rfl rfl ?_
  refine r_aload_n qL_law_1877 rfl ?_
  refine r_aload_n qL_law_1878 rfl ?_
  refine r_iload qL_law_1879 rfl ?_
  refine r_iconst (v := nI 1) qL_law_1881 (by decide) ?_
  first | with_reducible refine r_iaddN qL_law_1882 ?_ | refine r_iadd qL_law_1882 ?_
  refine r_sld hX qL_law_1883 (by omega) hL ?_
  refine r_cv1 (cu2 := CU + 1) (su2 := SU + 6) qL_law_1884 kW_284 rfl (by decide +kernel) (c := 4) (by assumption) (by decide) rfl rfl rfl rfl (lbc (by omega)) (lbs (by omega)) ?_
  refine c_X4_sensitivity hB ?_
  show zR E _ _ X 1887 _ _ _ _ _ _ _
  refine r_is_9_6 qL_law_1887 rfl rfl ?_
  refine r_aload_n qL_law_1889 rfl ?_
  refine r_cv0 (cu2 := CU + 1) (su2 := SU + 6) qL_law_1890 kW_180 rfl (by decide +kernel) (c := 4) (by assumption) (by decide) rfl rfl rfl rfl (lbc (by omega)) (lbs (by omega)) ?_
  refine c_X4_thrown w1 ?_
  rw [wA_s, pk_us]
  show zR E _ _ X 1893 _ _ _ _ _ _ _
  refine r_iload qL_law_1893 rfl ?_
  refine r_icmp_eq (t := 1900) qL_law_1895 (by decide) (fun hc1895 => ?_) (fun hc1895 => absurd hc1895 (fun h => h rfl))
  refine r_iload qL_law_1900 rfl ?_
  refine r_if_ne (t := 1917) qL_law_1902 (by decide) (fun hc1902 => ?_) (fun hc1902 => ?_)
  · refine r_goto (t := 3557) qL_law_1917 (by decide) ?_
    exact KN _ _ _ _ _ _ _ _ _ (by omega) (by omega) ⟨hS, _, _, _, _, hN.ask0 hS (hj1n _ jx)⟩
  · have hABC := c3_z0 hc1902
    refine r_aload_n qL_law_1905 rfl ?_
    refine r_iconst (v := nI 0) qL_law_1906 (by decide) ?_
    refine r_lald qL_law_1907 (by assumption) (in_0 o1.2) ?_
    refine r_iload qL_law_1908 rfl ?_
    refine r_i2l qL_law_1910 ?_
    refine r_lcmp qL_law_1911 ?_
    refine r_if_eq (t := 1917) qL_law_1912 (by decide) (fun hc1912 => ?_) (fun hc1912 => absurd hc1912 (fun h => h ((lg_cmp_eq _ _).mpr ((hj1 hABC).trans (by rw [if_pos (by first | exact hABC.1 | exact ⟨hABC.1, hABC.2.1⟩ | exact hABC)])))))
    refine r_goto (t := 3557) qL_law_1917 (by decide) ?_
    exact KN _ _ _ _ _ _ _ _ _ (by omega) (by omega) ⟨hS, _, _, _, _, hN.ask0 hS (hj1n _ jx)⟩
theorem lc_32 {E : Ev} {Z : Fx → State → Prop} {X : Fx} {g : Sh} {i : Ni} {j : Nj} {CU SU q bb L0 : Nat} {xs : Nat → Int32} {c rd tx ur sl sf sb : Nat} {A : Nat → Nat → Nat} {x n d b p s o ol : Nat} (hX : zScr E X bb L0 xs) (hq : q + 6 ≤ L0) (hL : L0 ≤ 3072) (hCU : CU + 14 ≤ 601024) (hSU : SU + 1046 ≤ 7293034) (hI : iInv g i j c rd tx ur sl sf sb A x n d b p s o ol) (KN : lawN E Z X CU SU q bb c rd tx ur sl sf sb A x n d b p s o ol) : zR E mL_law Z X 1920 [.ref (bb + 1), .ref c, .ref x, .ref ol, .int (nI q), zJ, zJ, zJ, zJ] [] g i j CU SU := by
  obtain ⟨hS, u, w, L, O, hN⟩ := hI
  have hY := hS.y
  have hW := hS.ww
  have hX3 : zX3 g c (A 0) := hY.x
  have hB : zB g i x n d b p s o := ⟨hW, hS.r3, hN.1.1⟩
  have hH : zH i (A 0) (i n) := hN.1.2.1
  have w1 := hW.1
  have x1 := hS.kc
  have o1 := hS.oo
  have o11 := o1.1
  have jx := hS.jx
  refine r_aload_n qL_law_1920 rfl ?_
  refine r_aload_n qL_law_1921 rfl ?_
  refine r_iload qL_law_1922 rfl ?_
  refine r_iconst (v := nI 1) qL_law_1924 (by decide) ?_
  first | with_reducible refine r_iaddN qL_law_1925 ?_ | refine r_iadd qL_law_1925 ?_
  refine r_sld hX qL_law_1926 (by omega) hL ?_
  refine r_aload_n qL_law_1927 rfl ?_
  refine r_iload qL_law_1928 rfl ?_
  refine r_iconst (v := nI 2) qL_law_1930 (by decide) ?_
  first | with_reducible refine r_iaddN qL_law_1931 ?_ | refine r_iadd qL_law_1931 ?_
  refine r_sld hX qL_law_1932 (by omega) hL ?_
  refine r_aload_n qL_law_1933 rfl ?_
  refine r_cH4 (cu2 := CU + 2) (su2 := SU + 12) qL_law_1934 kW_285 rfl (by decide +kernel) rfl rfl rfl (lbc (by omega)) (lbs (by omega)) ?_
  refine c_L_dipRefusal x1 (fun K1 hK1 => c_X3_dipRefusal hX3 hH (hK1 _ _ _ _ (lk3 o1 (by first | exact Or.inr rfl | exact Or.inl trivial) (by first | exact Or.inr rfl | exact Or.inl trivial) (by first | exact Or.inr rfl | exact Or.inl trivial) (fun j1 hj1 hj1n => ?_))))
  show zR E _ _ X 1937 _ _ _ _ _ _ _
  refine r_is_9_5 qL_law_1937 rfl rfl ?_
  refine r_aload_n qL_law_1939 rfl ?_
  refine r_aload_n qL_law_1940 rfl ?_
  refine r_iload qL_law_1941 rfl ?_
  refine r_iconst (v := nI 1) qL_law_1943 (by decide) ?_
  first | with_reducible refine r_iaddN qL_law_1944 ?_ | refine r_iadd qL_law_1944 ?_
  refine r_sld hX qL_law_1945 (by omega) hL ?_
  refine r_aload_n qL_law_1946 rfl ?_
  refine r_iload qL_law_1947 rfl ?_
  refine r_iconst (v := nI 2) qL_law_1949 (by decide) ?_
  first | with_reducible refine r_iaddN qL_law_1950 ?_ | refine r_iadd qL_law_1950 ?_
  refine r_sld hX qL_law_1951 (by omega) hL ?_
  refine r_cv2 (cu2 := CU + 2) (su2 := SU + 12) qL_law_1952 kW_287 rfl (by decide +kernel) (c := 4) (by assumption) (by decide) rfl rfl rfl rfl (lbc (by omega)) (lbs (by omega)) ?_
  refine c_X4_dipRefusal hB ?_
  show zR E _ _ X 1955 _ _ _ _ _ _ _
  refine r_is_9_6 qL_law_1955 rfl rfl ?_
  refine r_aload_n qL_law_1957 rfl ?_
  refine r_cv0 (cu2 := CU + 2) (su2 := SU + 12) qL_law_1958 kW_180 rfl (by decide +kernel) (c := 4) (by assumption) (by decide) rfl rfl rfl rfl (lbc (by omega)) (lbs (by omega)) ?_
  refine c_X4_thrown w1 ?_
  rw [wA_s, pk_us]
  show zR E _ _ X 1961 _ _ _ _ _ _ _
  refine r_iload qL_law_1961 rfl ?_
  refine r_icmp_eq (t := 1968) qL_law_1963 (by decide) (fun hc1963 => ?_) (fun hc1963 => absurd hc1963 (fun h => h rfl))
  refine r_iload qL_law_1968 rfl ?_
  refine r_if_ne (t := 1985) qL_law_1970 (by decide) (fun hc1970 => ?_) (fun hc1970 => ?_)
  · refine r_goto (t := 3557) qL_law_1985 (by decide) ?_
    exact KN _ _ _ _ _ _ _ _ _ (by omega) (by omega) ⟨hS, _, _, _, _, hN.ask0 hS (hj1n _ jx)⟩
  · have hABC := c3_z0 hc1970
    refine r_aload_n qL_law_1973 rfl ?_
    refine r_iconst (v := nI 0) qL_law_1974 (by decide) ?_
    refine r_lald qL_law_1975 (by assumption) (in_0 o1.2) ?_
    refine r_iload qL_law_1976 rfl ?_
    refine r_i2l qL_law_1978 ?_
    refine r_lcmp qL_law_1979 ?_
    refine r_if_eq (t := 1985) qL_law_1980 (by decide) (fun hc1980 => ?_) (fun hc1980 => absurd hc1980 (fun h => h ((lg_cmp_eq _ _).mpr ((hj1 hABC).trans (by rw [if_pos (by first | exact hABC.1 | exact ⟨hABC.1, hABC.2.1⟩ | exact hABC)])))))
    refine r_goto (t := 3557) qL_law_1985 (by decide) ?_
    exact KN _ _ _ _ _ _ _ _ _ (by omega) (by omega) ⟨hS, _, _, _, _, hN.ask0 hS (hj1n _ jx)⟩
theorem lc_33 {E : Ev} {Z : Fx → State → Prop} {X : Fx} {g : Sh} {i : Ni} {j : Nj} {CU SU q bb L0 : Nat} {xs : Nat → Int32} {c rd tx ur sl sf sb : Nat} {A : Nat → Nat → Nat} {x n d b p s o ol : Nat} (hX : zScr E X bb L0 xs) (hq : q + 6 ≤ L0) (hL : L0 ≤ 3072) (hCU : CU + 14 ≤ 601024) (hSU : SU + 1046 ≤ 7293034) (hI : iInv g i j c rd tx ur sl sf sb A x n d b p s o ol) (KN : lawN E Z X CU SU q bb c rd tx ur sl sf sb A x n d b p s o ol) : zR E mL_law Z X 1988 [.ref (bb + 1), .ref c, .ref x, .ref ol, .int (nI q), zJ, zJ, zJ, zJ] [] g i j CU SU := by
  obtain ⟨hS, u, w, L, O, hN⟩ := hI
  have hY := hS.y
  have hW := hS.ww
  have hX3 : zX3 g c (A 0) := hY.x
  have hB : zB g i x n d b p s o := ⟨hW, hS.r3, hN.1.1⟩
  have hH : zH i (A 0) (i n) := hN.1.2.1
  have w1 := hW.1
  have x1 := hS.kc
  have o1 := hS.oo
  have o11 := o1.1
  have jx := hS.jx
  refine r_aload_n qL_law_1988 rfl ?_
  refine r_aload_n qL_law_1989 rfl ?_
  refine r_iload qL_law_1990 rfl ?_
  refine r_iconst (v := nI 1) qL_law_1992 (by decide) ?_
  first | with_reducible refine r_iaddN qL_law_1993 ?_ | refine r_iadd qL_law_1993 ?_
  refine r_sld hX qL_law_1994 (by omega) hL ?_
  refine r_aload_n qL_law_1995 rfl ?_
  refine r_cH3 (cu2 := CU + 1) (su2 := SU + 6) qL_law_1996 kW_288 rfl (by decide +kernel) rfl rfl rfl (lbc (by omega)) (lbs (by omega)) ?_
  refine c_L_markRefusal x1 (fun K1 hK1 => c_X3_markRefusal hX3 hH (hK1 _ _ _ _ (lk3 o1 (by first | exact Or.inr rfl | exact Or.inl trivial) (by first | exact Or.inr rfl | exact Or.inl trivial) (by first | exact Or.inr rfl | exact Or.inl trivial) (fun j1 hj1 hj1n => ?_))))
  show zR E _ _ X 1999 _ _ _ _ _ _ _
  refine r_is_9_5 qL_law_1999 rfl rfl ?_
  refine r_aload_n qL_law_2001 rfl ?_
  refine r_aload_n qL_law_2002 rfl ?_
  refine r_iload qL_law_2003 rfl ?_
  refine r_iconst (v := nI 1) qL_law_2005 (by decide) ?_
  first | with_reducible refine r_iaddN qL_law_2006 ?_ | refine r_iadd qL_law_2006 ?_
  refine r_sld hX qL_law_2007 (by omega) hL ?_
  refine r_cv1 (cu2 := CU + 1) (su2 := SU + 6) qL_law_2008 kW_290 rfl (by decide +kernel) (c := 4) (by assumption) (by decide) rfl rfl rfl rfl (lbc (by omega)) (lbs (by omega)) ?_
  refine c_X4_markRefusal hB ?_
  show zR E _ _ X 2011 _ _ _ _ _ _ _
  refine r_is_9_6 qL_law_2011 rfl rfl ?_
  refine r_aload_n qL_law_2013 rfl ?_
  refine r_cv0 (cu2 := CU + 1) (su2 := SU + 6) qL_law_2014 kW_180 rfl (by decide +kernel) (c := 4) (by assumption) (by decide) rfl rfl rfl rfl (lbc (by omega)) (lbs (by omega)) ?_
  refine c_X4_thrown w1 ?_
  rw [wA_s, pk_us]
  show zR E _ _ X 2017 _ _ _ _ _ _ _
  refine r_iload qL_law_2017 rfl ?_
  refine r_icmp_eq (t := 2024) qL_law_2019 (by decide) (fun hc2019 => ?_) (fun hc2019 => absurd hc2019 (fun h => h rfl))
  refine r_iload qL_law_2024 rfl ?_
  refine r_if_ne (t := 2041) qL_law_2026 (by decide) (fun hc2026 => ?_) (fun hc2026 => ?_)
  · refine r_goto (t := 3557) qL_law_2041 (by decide) ?_
    exact KN _ _ _ _ _ _ _ _ _ (by omega) (by omega) ⟨hS, _, _, _, _, hN.ask0 hS (hj1n _ jx)⟩
  · have hABC := c3_z0 hc2026
    refine r_aload_n qL_law_2029 rfl ?_
    refine r_iconst (v := nI 0) qL_law_2030 (by decide) ?_
    refine r_lald qL_law_2031 (by assumption) (in_0 o1.2) ?_
    refine r_iload qL_law_2032 rfl ?_
    refine r_i2l qL_law_2034 ?_
    refine r_lcmp qL_law_2035 ?_
    refine r_if_eq (t := 2041) qL_law_2036 (by decide) (fun hc2036 => ?_) (fun hc2036 => absurd hc2036 (fun h => h ((lg_cmp_eq _ _).mpr ((hj1 hABC).trans (by rw [if_pos (by first | exact hABC.1 | exact ⟨hABC.1, hABC.2.1⟩ | exact hABC)])))))
    refine r_goto (t := 3557) qL_law_2041 (by decide) ?_
    exact KN _ _ _ _ _ _ _ _ _ (by omega) (by omega) ⟨hS, _, _, _, _, hN.ask0 hS (hj1n _ jx)⟩
theorem lc_34 {E : Ev} {Z : Fx → State → Prop} {X : Fx} {g : Sh} {i : Ni} {j : Nj} {CU SU q bb L0 : Nat} {xs : Nat → Int32} {c rd tx ur sl sf sb : Nat} {A : Nat → Nat → Nat} {x n d b p s o ol : Nat} (hX : zScr E X bb L0 xs) (hq : q + 6 ≤ L0) (hL : L0 ≤ 3072) (hCU : CU + 14 ≤ 601024) (hSU : SU + 1046 ≤ 7293034) (hI : iInv g i j c rd tx ur sl sf sb A x n d b p s o ol) (KN : lawN E Z X CU SU q bb c rd tx ur sl sf sb A x n d b p s o ol) : zR E mL_law Z X 2044 [.ref (bb + 1), .ref c, .ref x, .ref ol, .int (nI q), zJ, zJ, zJ, zJ] [] g i j CU SU := by
  obtain ⟨hS, u, w, L, O, hN⟩ := hI
  have hY := hS.y
  have hW := hS.ww
  have hX3 : zX3 g c (A 0) := hY.x
  have hB : zB g i x n d b p s o := ⟨hW, hS.r3, hN.1.1⟩
  have hH : zH i (A 0) (i n) := hN.1.2.1
  have w1 := hW.1
  have x1 := hS.kc
  have o1 := hS.oo
  have o11 := o1.1
  have jx := hS.jx
  refine r_aload_n qL_law_2044 rfl ?_
  refine r_cv0 (cu2 := CU) (su2 := SU) qL_law_2045 kW_291 rfl (by decide +kernel) (c := 3) (by assumption) (by decide) rfl rfl rfl rfl (lbc (by omega)) (lbs (by omega)) ?_
  refine c_X3_bestTube hX3 hH ?_
  show zR E _ _ X 2048 _ _ _ _ _ _ _
  refine r_aload_n qL_law_2048 rfl ?_
  refine r_cv0 (cu2 := CU) (su2 := SU) qL_law_2049 kW_294 rfl (by decide +kernel) (c := 4) (by assumption) (by decide) rfl rfl rfl rfl (lbc (by omega)) (lbs (by omega)) ?_
  refine c_X4_bestTube hB ?_
  show zR E _ _ X 2052 _ _ _ _ _ _ _
  refine r_icmp_eq (t := 3557) qL_law_2052 (by decide) (fun hc2052 => ?_) (fun hc2052 => absurd hc2052 (fun h => h rfl))
  exact KN _ _ _ _ _ _ _ _ _ (by omega) (by omega) ⟨hS, _, _, _, _, hN.ask0 hS rfl⟩
theorem lc_35 {E : Ev} {Z : Fx → State → Prop} {X : Fx} {g : Sh} {i : Ni} {j : Nj} {CU SU q bb L0 : Nat} {xs : Nat → Int32} {c rd tx ur sl sf sb : Nat} {A : Nat → Nat → Nat} {x n d b p s o ol : Nat} (hX : zScr E X bb L0 xs) (hq : q + 6 ≤ L0) (hL : L0 ≤ 3072) (hCU : CU + 14 ≤ 601024) (hSU : SU + 1046 ≤ 7293034) (hI : iInv g i j c rd tx ur sl sf sb A x n d b p s o ol) (KN : lawN E Z X CU SU q bb c rd tx ur sl sf sb A x n d b p s o ol) : zR E mL_law Z X 2057 [.ref (bb + 1), .ref c, .ref x, .ref ol, .int (nI q), zJ, zJ, zJ, zJ] [] g i j CU SU := by
  obtain ⟨hS, u, w, L, O, hN⟩ := hI
  have hY := hS.y
  have hW := hS.ww
  have hX3 : zX3 g c (A 0) := hY.x
  have hB : zB g i x n d b p s o := ⟨hW, hS.r3, hN.1.1⟩
  have hH : zH i (A 0) (i n) := hN.1.2.1
  have w1 := hW.1
  have x1 := hS.kc
  have o1 := hS.oo
  have o11 := o1.1
  have jx := hS.jx
  refine r_aload_n qL_law_2057 rfl ?_
  refine r_cv0 (cu2 := CU) (su2 := SU) qL_law_2058 kW_295 rfl (by decide +kernel) (c := 3) (by assumption) (by decide) rfl rfl rfl rfl (lbc (by omega)) (lbs (by omega)) ?_
  refine c_X3_tallestTube hX3 hH ?_
  show zR E _ _ X 2061 _ _ _ _ _ _ _
  refine r_aload_n qL_law_2061 rfl ?_
  refine r_cv0 (cu2 := CU) (su2 := SU) qL_law_2062 kW_298 rfl (by decide +kernel) (c := 4) (by assumption) (by decide) rfl rfl rfl rfl (lbc (by omega)) (lbs (by omega)) ?_
  refine c_X4_tallestTube hB ?_
  show zR E _ _ X 2065 _ _ _ _ _ _ _
  refine r_icmp_eq (t := 3557) qL_law_2065 (by decide) (fun hc2065 => ?_) (fun hc2065 => absurd hc2065 (fun h => h rfl))
  exact KN _ _ _ _ _ _ _ _ _ (by omega) (by omega) ⟨hS, _, _, _, _, hN.ask0 hS rfl⟩
theorem lc_36 {E : Ev} {Z : Fx → State → Prop} {X : Fx} {g : Sh} {i : Ni} {j : Nj} {CU SU q bb L0 : Nat} {xs : Nat → Int32} {c rd tx ur sl sf sb : Nat} {A : Nat → Nat → Nat} {x n d b p s o ol : Nat} (hX : zScr E X bb L0 xs) (hq : q + 6 ≤ L0) (hL : L0 ≤ 3072) (hCU : CU + 14 ≤ 601024) (hSU : SU + 1046 ≤ 7293034) (hI : iInv g i j c rd tx ur sl sf sb A x n d b p s o ol) (KN : lawN E Z X CU SU q bb c rd tx ur sl sf sb A x n d b p s o ol) : zR E mL_law Z X 2070 [.ref (bb + 1), .ref c, .ref x, .ref ol, .int (nI q), zJ, zJ, zJ, zJ] [] g i j CU SU := by
  obtain ⟨hS, u, w, L, O, hN⟩ := hI
  have hY := hS.y
  have hW := hS.ww
  have hX3 : zX3 g c (A 0) := hY.x
  have hB : zB g i x n d b p s o := ⟨hW, hS.r3, hN.1.1⟩
  have hH : zH i (A 0) (i n) := hN.1.2.1
  have w1 := hW.1
  have x1 := hS.kc
  have o1 := hS.oo
  have o11 := o1.1
  have jx := hS.jx
  refine r_aload_n qL_law_2070 rfl ?_
  refine r_cv0 (cu2 := CU) (su2 := SU) qL_law_2071 kW_299 rfl (by decide +kernel) (c := 3) (by assumption) (by decide) rfl rfl rfl rfl (lbc (by omega)) (lbs (by omega)) ?_
  refine c_X3_spread hX3 hH ?_
  show zR E _ _ X 2074 _ _ _ _ _ _ _
  refine r_aload_n qL_law_2074 rfl ?_
  refine r_cv0 (cu2 := CU) (su2 := SU) qL_law_2075 kW_302 rfl (by decide +kernel) (c := 4) (by assumption) (by decide) rfl rfl rfl rfl (lbc (by omega)) (lbs (by omega)) ?_
  refine c_X4_spread hB ?_
  show zR E _ _ X 2078 _ _ _ _ _ _ _
  refine r_icmp_eq (t := 3557) qL_law_2078 (by decide) (fun hc2078 => ?_) (fun hc2078 => absurd hc2078 (fun h => h rfl))
  exact KN _ _ _ _ _ _ _ _ _ (by omega) (by omega) ⟨hS, _, _, _, _, hN.ask0 hS rfl⟩
theorem lc_42 {E : Ev} {Z : Fx → State → Prop} {X : Fx} {g : Sh} {i : Ni} {j : Nj} {CU SU q bb L0 : Nat} {xs : Nat → Int32} {c rd tx ur sl sf sb : Nat} {A : Nat → Nat → Nat} {x n d b p s o ol : Nat} (hX : zScr E X bb L0 xs) (hq : q + 6 ≤ L0) (hL : L0 ≤ 3072) (hCU : CU + 14 ≤ 601024) (hSU : SU + 1046 ≤ 7293034) (hI : iInv g i j c rd tx ur sl sf sb A x n d b p s o ol) (KN : lawN E Z X CU SU q bb c rd tx ur sl sf sb A x n d b p s o ol) : zR E mL_law Z X 2399 [.ref (bb + 1), .ref c, .ref x, .ref ol, .int (nI q), zJ, zJ, zJ, zJ] [] g i j CU SU := by
  obtain ⟨hS, u, w, L, O, hN⟩ := hI
  have hY := hS.y
  have hW := hS.ww
  have hX3 : zX3 g c (A 0) := hY.x
  have hB : zB g i x n d b p s o := ⟨hW, hS.r3, hN.1.1⟩
  have hH : zH i (A 0) (i n) := hN.1.2.1
  have w1 := hW.1
  have x1 := hS.kc
  have o1 := hS.oo
  have o11 := o1.1
  have jx := hS.jx
  refine r_aload_n qL_law_2399 rfl ?_
  refine r_aload_n qL_law_2400 rfl ?_
  refine r_iload qL_law_2401 rfl ?_
  refine r_iconst (v := nI 1) qL_law_2403 (by decide) ?_
  first | with_reducible refine r_iaddN qL_law_2404 ?_ | refine r_iadd qL_law_2404 ?_
  refine r_sld hX qL_law_2405 (by omega) hL ?_
  refine r_aload_n qL_law_2406 rfl ?_
  refine r_iload qL_law_2407 rfl ?_
  refine r_iconst (v := nI 2) qL_law_2409 (by decide) ?_
  first | with_reducible refine r_iaddN qL_law_2410 ?_ | refine r_iadd qL_law_2410 ?_
  refine r_sld hX qL_law_2411 (by omega) hL ?_
  refine r_aload_n qL_law_2412 rfl ?_
  refine r_cH4 (cu2 := CU + 4) (su2 := SU + 24) qL_law_2413 kW_318 rfl (by decide +kernel) rfl rfl rfl (lbc (by omega)) (lbs (by omega)) ?_
  refine c_L_disagreement x1 (fun K1 hK1 => c_X3_disagreement hX3 hH (hK1 _ _ _ _ (lk3 o1 (by first | exact Or.inr rfl | exact Or.inl trivial) (by first | exact Or.inr rfl | exact Or.inl trivial) (by first | exact Or.inr rfl | exact Or.inl trivial) (fun j1 hj1 hj1n => ?_))))
  show zR E _ _ X 2416 _ _ _ _ _ _ _
  refine r_is_9_5 qL_law_2416 rfl rfl ?_
  refine r_aload_n qL_law_2418 rfl ?_
  refine r_aload_n qL_law_2419 rfl ?_
  refine r_iload qL_law_2420 rfl ?_
  refine r_iconst (v := nI 1) qL_law_2422 (by decide) ?_
  first | with_reducible refine r_iaddN qL_law_2423 ?_ | refine r_iadd qL_law_2423 ?_
  refine r_sld hX qL_law_2424 (by omega) hL ?_
  refine r_aload_n qL_law_2425 rfl ?_
  refine r_iload qL_law_2426 rfl ?_
  refine r_iconst (v := nI 2) qL_law_2428 (by decide) ?_
  first | with_reducible refine r_iaddN qL_law_2429 ?_ | refine r_iadd qL_law_2429 ?_
  refine r_sld hX qL_law_2430 (by omega) hL ?_
  refine r_cv2 (cu2 := CU + 4) (su2 := SU + 24) qL_law_2431 kW_320 rfl (by decide +kernel) (c := 4) (by assumption) (by decide) rfl rfl rfl rfl (lbc (by omega)) (lbs (by omega)) ?_
  refine c_X4_disagreement hB ?_
  show zR E _ _ X 2434 _ _ _ _ _ _ _
  refine r_is_9_6 qL_law_2434 rfl rfl ?_
  refine r_aload_n qL_law_2436 rfl ?_
  refine r_cv0 (cu2 := CU + 4) (su2 := SU + 24) qL_law_2437 kW_180 rfl (by decide +kernel) (c := 4) (by assumption) (by decide) rfl rfl rfl rfl (lbc (by omega)) (lbs (by omega)) ?_
  refine c_X4_thrown w1 ?_
  rw [wA_s, pk_us]
  show zR E _ _ X 2440 _ _ _ _ _ _ _
  refine r_iload qL_law_2440 rfl ?_
  refine r_icmp_eq (t := 2447) qL_law_2442 (by decide) (fun hc2442 => ?_) (fun hc2442 => absurd hc2442 (fun h => h rfl))
  refine r_iload qL_law_2447 rfl ?_
  refine r_if_ne (t := 2464) qL_law_2449 (by decide) (fun hc2449 => ?_) (fun hc2449 => ?_)
  · refine r_goto (t := 3557) qL_law_2464 (by decide) ?_
    exact KN _ _ _ _ _ _ _ _ _ (by omega) (by omega) ⟨hS, _, _, _, _, hN.ask0 hS (hj1n _ jx)⟩
  · have hABC := c3_z0 hc2449
    refine r_aload_n qL_law_2452 rfl ?_
    refine r_iconst (v := nI 0) qL_law_2453 (by decide) ?_
    refine r_lald qL_law_2454 (by assumption) (in_0 o1.2) ?_
    refine r_iload qL_law_2455 rfl ?_
    refine r_i2l qL_law_2457 ?_
    refine r_lcmp qL_law_2458 ?_
    refine r_if_eq (t := 2464) qL_law_2459 (by decide) (fun hc2459 => ?_) (fun hc2459 => absurd hc2459 (fun h => h ((lg_cmp_eq _ _).mpr ((hj1 hABC).trans (by rw [if_pos (by first | exact hABC.1 | exact ⟨hABC.1, hABC.2.1⟩ | exact hABC)])))))
    refine r_goto (t := 3557) qL_law_2464 (by decide) ?_
    exact KN _ _ _ _ _ _ _ _ _ (by omega) (by omega) ⟨hS, _, _, _, _, hN.ask0 hS (hj1n _ jx)⟩
theorem lc_43 {E : Ev} {Z : Fx → State → Prop} {X : Fx} {g : Sh} {i : Ni} {j : Nj} {CU SU q bb L0 : Nat} {xs : Nat → Int32} {c rd tx ur sl sf sb : Nat} {A : Nat → Nat → Nat} {x n d b p s o ol : Nat} (hX : zScr E X bb L0 xs) (hq : q + 6 ≤ L0) (hL : L0 ≤ 3072) (hCU : CU + 14 ≤ 601024) (hSU : SU + 1046 ≤ 7293034) (hI : iInv g i j c rd tx ur sl sf sb A x n d b p s o ol) (KN : lawN E Z X CU SU q bb c rd tx ur sl sf sb A x n d b p s o ol) : zR E mL_law Z X 2467 [.ref (bb + 1), .ref c, .ref x, .ref ol, .int (nI q), zJ, zJ, zJ, zJ] [] g i j CU SU := by
  obtain ⟨hS, u, w, L, O, hN⟩ := hI
  have hY := hS.y
  have hW := hS.ww
  have hX3 : zX3 g c (A 0) := hY.x
  have hB : zB g i x n d b p s o := ⟨hW, hS.r3, hN.1.1⟩
  have hH : zH i (A 0) (i n) := hN.1.2.1
  have w1 := hW.1
  have x1 := hS.kc
  have o1 := hS.oo
  have o11 := o1.1
  have jx := hS.jx
  refine r_aload_n qL_law_2467 rfl ?_
  refine r_cv0 (cu2 := CU) (su2 := SU) qL_law_2468 kW_321 rfl (by decide +kernel) (c := 3) (by assumption) (by decide) rfl rfl rfl rfl (lbc (by omega)) (lbs (by omega)) ?_
  refine c_X3_worstFit hX3 hH ?_
  show zR E _ _ X 2471 _ _ _ _ _ _ _
  refine r_aload_n qL_law_2471 rfl ?_
  refine r_cv0 (cu2 := CU) (su2 := SU) qL_law_2472 kW_324 rfl (by decide +kernel) (c := 4) (by assumption) (by decide) rfl rfl rfl rfl (lbc (by omega)) (lbs (by omega)) ?_
  refine c_X4_worstFit hB ?_
  show zR E _ _ X 2475 _ _ _ _ _ _ _
  refine r_icmp_eq (t := 3557) qL_law_2475 (by decide) (fun hc2475 => ?_) (fun hc2475 => absurd hc2475 (fun h => h rfl))
  exact KN _ _ _ _ _ _ _ _ _ (by omega) (by omega) ⟨hS, _, _, _, _, hN.ask0 hS rfl⟩
theorem lc_45 {E : Ev} {Z : Fx → State → Prop} {X : Fx} {g : Sh} {i : Ni} {j : Nj} {CU SU q bb L0 : Nat} {xs : Nat → Int32} {c rd tx ur sl sf sb : Nat} {A : Nat → Nat → Nat} {x n d b p s o ol : Nat} (hX : zScr E X bb L0 xs) (hq : q + 6 ≤ L0) (hL : L0 ≤ 3072) (hCU : CU + 14 ≤ 601024) (hSU : SU + 1046 ≤ 7293034) (hI : iInv g i j c rd tx ur sl sf sb A x n d b p s o ol) (KN : lawN E Z X CU SU q bb c rd tx ur sl sf sb A x n d b p s o ol) : zR E mL_law Z X 2536 [.ref (bb + 1), .ref c, .ref x, .ref ol, .int (nI q), zJ, zJ, zJ, zJ] [] g i j CU SU := by
  obtain ⟨hS, u, w, L, O, hN⟩ := hI
  have hY := hS.y
  have hW := hS.ww
  have hX3 : zX3 g c (A 0) := hY.x
  have hB : zB g i x n d b p s o := ⟨hW, hS.r3, hN.1.1⟩
  have hH : zH i (A 0) (i n) := hN.1.2.1
  have w1 := hW.1
  have x1 := hS.kc
  have o1 := hS.oo
  have o11 := o1.1
  have jx := hS.jx
  refine r_aload_n qL_law_2536 rfl ?_
  refine r_aload_n qL_law_2537 rfl ?_
  refine r_iload qL_law_2538 rfl ?_
  refine r_iconst (v := nI 1) qL_law_2540 (by decide) ?_
  first | with_reducible refine r_iaddN qL_law_2541 ?_ | refine r_iadd qL_law_2541 ?_
  refine r_sld hX qL_law_2542 (by omega) hL ?_
  refine r_aload_n qL_law_2543 rfl ?_
  refine r_cH3 (cu2 := CU + 1) (su2 := SU + 6) qL_law_2544 kW_328 rfl (by decide +kernel) rfl rfl rfl (lbc (by omega)) (lbs (by omega)) ?_
  refine c_L_bathsToMark x1 (fun K1 hK1 => c_X3_bathsToMark hX3 hH (hK1 _ _ _ _ (lk3 o1 (by first | exact Or.inr rfl | exact Or.inl trivial) (by first | exact Or.inr rfl | exact Or.inl trivial) (by first | exact Or.inr rfl | exact Or.inl trivial) (fun j1 hj1 hj1n => ?_))))
  show zR E _ _ X 2547 _ _ _ _ _ _ _
  refine r_is_9_5 qL_law_2547 rfl rfl ?_
  refine r_aload_n qL_law_2549 rfl ?_
  refine r_aload_n qL_law_2550 rfl ?_
  refine r_iload qL_law_2551 rfl ?_
  refine r_iconst (v := nI 1) qL_law_2553 (by decide) ?_
  first | with_reducible refine r_iaddN qL_law_2554 ?_ | refine r_iadd qL_law_2554 ?_
  refine r_sld hX qL_law_2555 (by omega) hL ?_
  refine r_cv1 (cu2 := CU + 1) (su2 := SU + 6) qL_law_2556 kW_330 rfl (by decide +kernel) (c := 4) (by assumption) (by decide) rfl rfl rfl rfl (lbc (by omega)) (lbs (by omega)) ?_
  refine c_X4_bathsToMark hB ?_
  show zR E _ _ X 2559 _ _ _ _ _ _ _
  refine r_is_9_6 qL_law_2559 rfl rfl ?_
  refine r_aload_n qL_law_2561 rfl ?_
  refine r_cv0 (cu2 := CU + 1) (su2 := SU + 6) qL_law_2562 kW_180 rfl (by decide +kernel) (c := 4) (by assumption) (by decide) rfl rfl rfl rfl (lbc (by omega)) (lbs (by omega)) ?_
  refine c_X4_thrown w1 ?_
  rw [wA_s, pk_us]
  show zR E _ _ X 2565 _ _ _ _ _ _ _
  refine r_iload qL_law_2565 rfl ?_
  refine r_icmp_eq (t := 2572) qL_law_2567 (by decide) (fun hc2567 => ?_) (fun hc2567 => absurd hc2567 (fun h => h rfl))
  refine r_iload qL_law_2572 rfl ?_
  refine r_if_ne (t := 2589) qL_law_2574 (by decide) (fun hc2574 => ?_) (fun hc2574 => ?_)
  · refine r_goto (t := 3557) qL_law_2589 (by decide) ?_
    exact KN _ _ _ _ _ _ _ _ _ (by omega) (by omega) ⟨hS, _, _, _, _, hN.ask0 hS (hj1n _ jx)⟩
  · have hABC := c3_z0 hc2574
    refine r_aload_n qL_law_2577 rfl ?_
    refine r_iconst (v := nI 0) qL_law_2578 (by decide) ?_
    refine r_lald qL_law_2579 (by assumption) (in_0 o1.2) ?_
    refine r_iload qL_law_2580 rfl ?_
    refine r_i2l qL_law_2582 ?_
    refine r_lcmp qL_law_2583 ?_
    refine r_if_eq (t := 2589) qL_law_2584 (by decide) (fun hc2584 => ?_) (fun hc2584 => absurd hc2584 (fun h => h ((lg_cmp_eq _ _).mpr ((hj1 hABC).trans (by rw [if_pos (by first | exact hABC.1 | exact ⟨hABC.1, hABC.2.1⟩ | exact hABC)])))))
    refine r_goto (t := 3557) qL_law_2589 (by decide) ?_
    exact KN _ _ _ _ _ _ _ _ _ (by omega) (by omega) ⟨hS, _, _, _, _, hN.ask0 hS (hj1n _ jx)⟩
theorem lc_46 {E : Ev} {Z : Fx → State → Prop} {X : Fx} {g : Sh} {i : Ni} {j : Nj} {CU SU q bb L0 : Nat} {xs : Nat → Int32} {c rd tx ur sl sf sb : Nat} {A : Nat → Nat → Nat} {x n d b p s o ol : Nat} (hX : zScr E X bb L0 xs) (hq : q + 6 ≤ L0) (hL : L0 ≤ 3072) (hCU : CU + 14 ≤ 601024) (hSU : SU + 1046 ≤ 7293034) (hI : iInv g i j c rd tx ur sl sf sb A x n d b p s o ol) (KN : lawN E Z X CU SU q bb c rd tx ur sl sf sb A x n d b p s o ol) : zR E mL_law Z X 2592 [.ref (bb + 1), .ref c, .ref x, .ref ol, .int (nI q), zJ, zJ, zJ, zJ] [] g i j CU SU := by
  obtain ⟨hS, u, w, L, O, hN⟩ := hI
  have hY := hS.y
  have hW := hS.ww
  have hX3 : zX3 g c (A 0) := hY.x
  have hB : zB g i x n d b p s o := ⟨hW, hS.r3, hN.1.1⟩
  have hH : zH i (A 0) (i n) := hN.1.2.1
  have w1 := hW.1
  have x1 := hS.kc
  have o1 := hS.oo
  have o11 := o1.1
  have jx := hS.jx
  refine r_aload_n qL_law_2592 rfl ?_
  refine r_cv0 (cu2 := CU) (su2 := SU) qL_law_2593 kW_331 rfl (by decide +kernel) (c := 3) (by assumption) (by decide) rfl rfl rfl rfl (lbc (by omega)) (lbs (by omega)) ?_
  refine c_X3_missedPoints hX3 hH ?_
  show zR E _ _ X 2596 _ _ _ _ _ _ _
  refine r_aload_n qL_law_2596 rfl ?_
  refine r_cv0 (cu2 := CU) (su2 := SU) qL_law_2597 kW_334 rfl (by decide +kernel) (c := 4) (by assumption) (by decide) rfl rfl rfl rfl (lbc (by omega)) (lbs (by omega)) ?_
  refine c_X4_missedPoints hB ?_
  show zR E _ _ X 2600 _ _ _ _ _ _ _
  refine r_icmp_eq (t := 3557) qL_law_2600 (by decide) (fun hc2600 => ?_) (fun hc2600 => absurd hc2600 (fun h => h rfl))
  exact KN _ _ _ _ _ _ _ _ _ (by omega) (by omega) ⟨hS, _, _, _, _, hN.ask0 hS rfl⟩
theorem lc_47 {E : Ev} {Z : Fx → State → Prop} {X : Fx} {g : Sh} {i : Ni} {j : Nj} {CU SU q bb L0 : Nat} {xs : Nat → Int32} {c rd tx ur sl sf sb : Nat} {A : Nat → Nat → Nat} {x n d b p s o ol : Nat} (hX : zScr E X bb L0 xs) (hq : q + 6 ≤ L0) (hL : L0 ≤ 3072) (hCU : CU + 14 ≤ 601024) (hSU : SU + 1046 ≤ 7293034) (hI : iInv g i j c rd tx ur sl sf sb A x n d b p s o ol) (KN : lawN E Z X CU SU q bb c rd tx ur sl sf sb A x n d b p s o ol) : zR E mL_law Z X 2605 [.ref (bb + 1), .ref c, .ref x, .ref ol, .int (nI q), zJ, zJ, zJ, zJ] [] g i j CU SU := by
  obtain ⟨hS, u, w, L, O, hN⟩ := hI
  have hY := hS.y
  have hW := hS.ww
  have hX3 : zX3 g c (A 0) := hY.x
  have hB : zB g i x n d b p s o := ⟨hW, hS.r3, hN.1.1⟩
  have hH : zH i (A 0) (i n) := hN.1.2.1
  have w1 := hW.1
  have x1 := hS.kc
  have o1 := hS.oo
  have o11 := o1.1
  have jx := hS.jx
  refine r_aload_n qL_law_2605 rfl ?_
  refine r_cv0 (cu2 := CU) (su2 := SU) qL_law_2606 kW_335 rfl (by decide +kernel) (c := 3) (by assumption) (by decide) rfl rfl rfl rfl (lbc (by omega)) (lbs (by omega)) ?_
  refine c_X3_spiritDifference hX3 hH ?_
  show zR E _ _ X 2609 _ _ _ _ _ _ _
  refine r_aload_n qL_law_2609 rfl ?_
  refine r_cv0 (cu2 := CU) (su2 := SU) qL_law_2610 kW_338 rfl (by decide +kernel) (c := 4) (by assumption) (by decide) rfl rfl rfl rfl (lbc (by omega)) (lbs (by omega)) ?_
  refine c_X4_spiritDifference hB ?_
  show zR E _ _ X 2613 _ _ _ _ _ _ _
  refine r_icmp_eq (t := 3557) qL_law_2613 (by decide) (fun hc2613 => ?_) (fun hc2613 => absurd hc2613 (fun h => h rfl))
  exact KN _ _ _ _ _ _ _ _ _ (by omega) (by omega) ⟨hS, _, _, _, _, hN.ask0 hS rfl⟩

