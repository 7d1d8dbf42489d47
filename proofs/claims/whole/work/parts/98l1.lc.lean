/-! ===== THE LAW'S CASES ===== -/
theorem lc_37 {E : Ev} {Z : Fx → State → Prop} {X : Fx} {g : Sh} {i : Ni} {j : Nj} {CU SU q bb L0 : Nat} {xs : Nat → Int32} {c rd tx ur sl sf sb : Nat} {A : Nat → Nat → Nat} {x n d b p s o ol : Nat} (hX : zScr E X bb L0 xs) (hq : q + 6 ≤ L0) (hL : L0 ≤ 3072) (hCU : CU + 14 ≤ 601024) (hSU : SU + 1046 ≤ 7293034) (hI : iInv g i j c rd tx ur sl sf sb A x n d b p s o ol) (KN : lawN E Z X CU SU q bb c rd tx ur sl sf sb A x n d b p s o ol) : zR E mL_law Z X 2083 [.ref (bb + 1), .ref c, .ref x, .ref ol, .int (nI q), zJ, zJ, zJ, zJ] [] g i j CU SU := by
  obtain ⟨hS, u, w, L, O, hN⟩ := hI
  have hY := hS.y
  have hW := hS.ww
  have hX3 : zX3 g c (A 0) := hY.x
  have hB : zB g i x n d b p s o := ⟨hW, hS.r3, hN.1.1⟩
  have hH : zH i (A 0) (i n) := hN.1.2.1
  have w1 := hW.1
  have x1 := hS.kc
  have o1 := hS.oo
  have o11 := o1.1
  have jx := hS.jx
  have hN1 := hN.1.2.2 1 (by decide)
  refine r_aload_n qL_law_2083 rfl ?_
  refine r_aload_n qL_law_2084 rfl ?_
  refine r_iload qL_law_2085 rfl ?_
  refine r_iconst (v := nI 1) qL_law_2087 (by decide) ?_
  first | with_reducible refine r_iaddN qL_law_2088 ?_ | refine r_iadd qL_law_2088 ?_
  refine r_sld hX qL_law_2089 (by omega) hL ?_
  refine r_aload_n qL_law_2090 rfl ?_
  refine r_iload qL_law_2091 rfl ?_
  refine r_iconst (v := nI 2) qL_law_2093 (by decide) ?_
  first | with_reducible refine r_iaddN qL_law_2094 ?_ | refine r_iadd qL_law_2094 ?_
  refine r_sld hX qL_law_2095 (by omega) hL ?_
  refine r_aload_n qL_law_2096 rfl ?_
  refine r_cH4 (cu2 := CU + 2) (su2 := SU + 12) qL_law_2097 kW_303 rfl (by decide +kernel) rfl rfl rfl (lbc (by omega)) (lbs (by omega)) ?_
  refine c_L_heightAfter x1 (fun K1 hK1 => c_X3_heightAfter hY hH hN1 (fun i1 p1 n1 => hK1 _ _ _ _ (lk3 o1 (by first | exact Or.inr rfl | exact Or.inl trivial) (by first | exact Or.inr rfl | exact Or.inl trivial) (by first | exact Or.inr rfl | exact Or.inl trivial) (fun j1 hj1 hj1n => ?_))))
  have e1n : i1 n = i n := p1 n (fun q hq => (hS.di dM_n).2.2.2.2.2.2 1 q (by decide) hq)
  have e1x : i1 x = i x := p1 x (fun q hq => (hS.di dM_x).2.2.2.2.2.2 1 q (by decide) hq)
  have hB1 : zB g i1 x n d b p s o := ⟨hW, hS.r3, by rw [e1n]; exact hN.1.1⟩
  show zR E _ _ X 2100 _ _ _ _ _ _ _
  refine r_is_9_5 qL_law_2100 rfl rfl ?_
  refine r_aload_n qL_law_2102 rfl ?_
  refine r_aload_n qL_law_2103 rfl ?_
  refine r_iload qL_law_2104 rfl ?_
  refine r_iconst (v := nI 1) qL_law_2106 (by decide) ?_
  first | with_reducible refine r_iaddN qL_law_2107 ?_ | refine r_iadd qL_law_2107 ?_
  refine r_sld hX qL_law_2108 (by omega) hL ?_
  refine r_aload_n qL_law_2109 rfl ?_
  refine r_iload qL_law_2110 rfl ?_
  refine r_iconst (v := nI 2) qL_law_2112 (by decide) ?_
  first | with_reducible refine r_iaddN qL_law_2113 ?_ | refine r_iadd qL_law_2113 ?_
  refine r_sld hX qL_law_2114 (by omega) hL ?_
  refine r_cv2 (cu2 := CU + 2) (su2 := SU + 12) qL_law_2115 kW_305 rfl (by decide +kernel) (c := 4) (by assumption) (by decide) rfl rfl rfl rfl (lbc (by omega)) (lbs (by omega)) ?_
  refine c_X4_heightAfter hB1 (fun i2 e2 p2 => ?_)
  try rw [e1n] at e2
  rw [e1n]
  have hV : iNu g i2 j1 c rd tx sf sb A x n b p s o u w L O := hN.ask hS (fun r h1 h2 h3 => (p2 r h1 h2).trans (p1 r h3)) (fun m hm => by rw [e2, pk_un hm, e1x]) (fun z hz => by rw [p2 _ (Ne.symm ((hS.di dM_x).2.2.2.2.2.2 1 _ (by decide) (by omega))) (Ne.symm ((hS.di dM_d).2.2.2.2.2.2 1 _ (by decide) (by omega)))]; exact n1 z hz) (hj1n _ jx)
  show zR E _ _ X 2118 _ _ _ _ _ _ _
  refine r_is_9_6 qL_law_2118 rfl rfl ?_
  refine r_aload_n qL_law_2120 rfl ?_
  refine r_cv0 (cu2 := CU + 2) (su2 := SU + 12) qL_law_2121 kW_180 rfl (by decide +kernel) (c := 4) (by assumption) (by decide) rfl rfl rfl rfl (lbc (by omega)) (lbs (by omega)) ?_
  refine c_X4_thrown w1 ?_
  rw [e2, pk_us]
  show zR E _ _ X 2124 _ _ _ _ _ _ _
  refine r_iload qL_law_2124 rfl ?_
  refine r_icmp_eq (t := 2131) qL_law_2126 (by decide) (fun hc2126 => ?_) (fun hc2126 => absurd hc2126 (fun h => h rfl))
  refine r_iload qL_law_2131 rfl ?_
  refine r_if_ne (t := 2148) qL_law_2133 (by decide) (fun hc2133 => ?_) (fun hc2133 => ?_)
  · refine r_goto (t := 3557) qL_law_2148 (by decide) ?_
    exact KN _ _ _ _ _ _ _ _ _ (by omega) (by omega) ⟨hS, _, _, _, _, hV⟩
  · have hABC := c3_z0 hc2133
    refine r_aload_n qL_law_2136 rfl ?_
    refine r_iconst (v := nI 0) qL_law_2137 (by decide) ?_
    refine r_lald qL_law_2138 (by assumption) (in_0 o1.2) ?_
    refine r_iload qL_law_2139 rfl ?_
    refine r_i2l qL_law_2141 ?_
    refine r_lcmp qL_law_2142 ?_
    refine r_if_eq (t := 2148) qL_law_2143 (by decide) (fun hc2143 => ?_) (fun hc2143 => absurd hc2143 (fun h => h ((lg_cmp_eq _ _).mpr ((hj1 hABC).trans (by rw [if_pos (by first | exact hABC.1 | exact ⟨hABC.1, hABC.2.1⟩ | exact hABC)])))))
    refine r_goto (t := 3557) qL_law_2148 (by decide) ?_
    exact KN _ _ _ _ _ _ _ _ _ (by omega) (by omega) ⟨hS, _, _, _, _, hV⟩
theorem lc_38 {E : Ev} {Z : Fx → State → Prop} {X : Fx} {g : Sh} {i : Ni} {j : Nj} {CU SU q bb L0 : Nat} {xs : Nat → Int32} {c rd tx ur sl sf sb : Nat} {A : Nat → Nat → Nat} {x n d b p s o ol : Nat} (hX : zScr E X bb L0 xs) (hq : q + 6 ≤ L0) (hL : L0 ≤ 3072) (hCU : CU + 14 ≤ 601024) (hSU : SU + 1046 ≤ 7293034) (hI : iInv g i j c rd tx ur sl sf sb A x n d b p s o ol) (KN : lawN E Z X CU SU q bb c rd tx ur sl sf sb A x n d b p s o ol) : zR E mL_law Z X 2151 [.ref (bb + 1), .ref c, .ref x, .ref ol, .int (nI q), zJ, zJ, zJ, zJ] [] g i j CU SU := by
  obtain ⟨hS, u, w, L, O, hN⟩ := hI
  have hY := hS.y
  have hW := hS.ww
  have hX3 : zX3 g c (A 0) := hY.x
  have hB : zB g i x n d b p s o := ⟨hW, hS.r3, hN.1.1⟩
  have hH : zH i (A 0) (i n) := hN.1.2.1
  have w1 := hW.1
  have x1 := hS.kc
  have o1 := hS.oo
  have o11 := o1.1
  have jx := hS.jx
  have hN1 := hN.1.2.2 1 (by decide)
  refine r_aload_n qL_law_2151 rfl ?_
  refine r_aload_n qL_law_2152 rfl ?_
  refine r_iload qL_law_2153 rfl ?_
  refine r_iconst (v := nI 1) qL_law_2155 (by decide) ?_
  first | with_reducible refine r_iaddN qL_law_2156 ?_ | refine r_iadd qL_law_2156 ?_
  refine r_sld hX qL_law_2157 (by omega) hL ?_
  refine r_aload_n qL_law_2158 rfl ?_
  refine r_iload qL_law_2159 rfl ?_
  refine r_iconst (v := nI 2) qL_law_2161 (by decide) ?_
  first | with_reducible refine r_iaddN qL_law_2162 ?_ | refine r_iadd qL_law_2162 ?_
  refine r_sld hX qL_law_2163 (by omega) hL ?_
  refine r_aload_n qL_law_2164 rfl ?_
  refine r_cH4 (cu2 := CU + 2) (su2 := SU + 12) qL_law_2165 kW_306 rfl (by decide +kernel) rfl rfl rfl (lbc (by omega)) (lbs (by omega)) ?_
  refine c_L_temperatureAfter x1 (fun K1 hK1 => c_X3_temperatureAfter hY hH hN1 (fun i1 p1 n1 => hK1 _ _ _ _ (lk3 o1 (by first | exact Or.inr rfl | exact Or.inl trivial) (by first | exact Or.inr rfl | exact Or.inl trivial) (by first | exact Or.inr rfl | exact Or.inl trivial) (fun j1 hj1 hj1n => ?_))))
  have e1n : i1 n = i n := p1 n (fun q hq => (hS.di dM_n).2.2.2.2.2.2 1 q (by decide) hq)
  have e1x : i1 x = i x := p1 x (fun q hq => (hS.di dM_x).2.2.2.2.2.2 1 q (by decide) hq)
  have hB1 : zB g i1 x n d b p s o := ⟨hW, hS.r3, by rw [e1n]; exact hN.1.1⟩
  show zR E _ _ X 2168 _ _ _ _ _ _ _
  refine r_is_9_5 qL_law_2168 rfl rfl ?_
  refine r_aload_n qL_law_2170 rfl ?_
  refine r_aload_n qL_law_2171 rfl ?_
  refine r_iload qL_law_2172 rfl ?_
  refine r_iconst (v := nI 1) qL_law_2174 (by decide) ?_
  first | with_reducible refine r_iaddN qL_law_2175 ?_ | refine r_iadd qL_law_2175 ?_
  refine r_sld hX qL_law_2176 (by omega) hL ?_
  refine r_aload_n qL_law_2177 rfl ?_
  refine r_iload qL_law_2178 rfl ?_
  refine r_iconst (v := nI 2) qL_law_2180 (by decide) ?_
  first | with_reducible refine r_iaddN qL_law_2181 ?_ | refine r_iadd qL_law_2181 ?_
  refine r_sld hX qL_law_2182 (by omega) hL ?_
  refine r_cv2 (cu2 := CU + 2) (su2 := SU + 12) qL_law_2183 kW_308 rfl (by decide +kernel) (c := 4) (by assumption) (by decide) rfl rfl rfl rfl (lbc (by omega)) (lbs (by omega)) ?_
  refine c_X4_temperatureAfter hB1 (fun i2 e2 p2 => ?_)
  try rw [e1n] at e2
  rw [e1n]
  have hV : iNu g i2 j1 c rd tx sf sb A x n b p s o u w L O := hN.ask hS (fun r h1 h2 h3 => (p2 r h1 h2).trans (p1 r h3)) (fun m hm => by rw [e2, pk_un hm, e1x]) (fun z hz => by rw [p2 _ (Ne.symm ((hS.di dM_x).2.2.2.2.2.2 1 _ (by decide) (by omega))) (Ne.symm ((hS.di dM_d).2.2.2.2.2.2 1 _ (by decide) (by omega)))]; exact n1 z hz) (hj1n _ jx)
  show zR E _ _ X 2186 _ _ _ _ _ _ _
  refine r_is_9_6 qL_law_2186 rfl rfl ?_
  refine r_aload_n qL_law_2188 rfl ?_
  refine r_cv0 (cu2 := CU + 2) (su2 := SU + 12) qL_law_2189 kW_180 rfl (by decide +kernel) (c := 4) (by assumption) (by decide) rfl rfl rfl rfl (lbc (by omega)) (lbs (by omega)) ?_
  refine c_X4_thrown w1 ?_
  rw [e2, pk_us]
  show zR E _ _ X 2192 _ _ _ _ _ _ _
  refine r_iload qL_law_2192 rfl ?_
  refine r_icmp_eq (t := 2199) qL_law_2194 (by decide) (fun hc2194 => ?_) (fun hc2194 => absurd hc2194 (fun h => h rfl))
  refine r_iload qL_law_2199 rfl ?_
  refine r_if_ne (t := 2216) qL_law_2201 (by decide) (fun hc2201 => ?_) (fun hc2201 => ?_)
  · refine r_goto (t := 3557) qL_law_2216 (by decide) ?_
    exact KN _ _ _ _ _ _ _ _ _ (by omega) (by omega) ⟨hS, _, _, _, _, hV⟩
  · have hABC := c3_z0 hc2201
    refine r_aload_n qL_law_2204 rfl ?_
    refine r_iconst (v := nI 0) qL_law_2205 (by decide) ?_
    refine r_lald qL_law_2206 (by assumption) (in_0 o1.2) ?_
    refine r_iload qL_law_2207 rfl ?_
    refine r_i2l qL_law_2209 ?_
    refine r_lcmp qL_law_2210 ?_
    refine r_if_eq (t := 2216) qL_law_2211 (by decide) (fun hc2211 => ?_) (fun hc2211 => absurd hc2211 (fun h => h ((lg_cmp_eq _ _).mpr ((hj1 hABC).trans (by rw [if_pos (by first | exact hABC.1 | exact ⟨hABC.1, hABC.2.1⟩ | exact hABC)])))))
    refine r_goto (t := 3557) qL_law_2216 (by decide) ?_
    exact KN _ _ _ _ _ _ _ _ _ (by omega) (by omega) ⟨hS, _, _, _, _, hV⟩
theorem lc_39 {E : Ev} {Z : Fx → State → Prop} {X : Fx} {g : Sh} {i : Ni} {j : Nj} {CU SU q bb L0 : Nat} {xs : Nat → Int32} {c rd tx ur sl sf sb : Nat} {A : Nat → Nat → Nat} {x n d b p s o ol : Nat} (hX : zScr E X bb L0 xs) (hq : q + 6 ≤ L0) (hL : L0 ≤ 3072) (hCU : CU + 14 ≤ 601024) (hSU : SU + 1046 ≤ 7293034) (hI : iInv g i j c rd tx ur sl sf sb A x n d b p s o ol) (KN : lawN E Z X CU SU q bb c rd tx ur sl sf sb A x n d b p s o ol) : zR E mL_law Z X 2219 [.ref (bb + 1), .ref c, .ref x, .ref ol, .int (nI q), zJ, zJ, zJ, zJ] [] g i j CU SU := by
  obtain ⟨hS, u, w, L, O, hN⟩ := hI
  have hY := hS.y
  have hW := hS.ww
  have hX3 : zX3 g c (A 0) := hY.x
  have hB : zB g i x n d b p s o := ⟨hW, hS.r3, hN.1.1⟩
  have hH : zH i (A 0) (i n) := hN.1.2.1
  have w1 := hW.1
  have x1 := hS.kc
  have o1 := hS.oo
  have o11 := o1.1
  have jx := hS.jx
  have hN1 := hN.1.2.2 1 (by decide)
  refine r_aload_n qL_law_2219 rfl ?_
  refine r_aload_n qL_law_2220 rfl ?_
  refine r_iload qL_law_2221 rfl ?_
  refine r_iconst (v := nI 1) qL_law_2223 (by decide) ?_
  first | with_reducible refine r_iaddN qL_law_2224 ?_ | refine r_iadd qL_law_2224 ?_
  refine r_sld hX qL_law_2225 (by omega) hL ?_
  refine r_aload_n qL_law_2226 rfl ?_
  refine r_cH3 (cu2 := CU + 1) (su2 := SU + 6) qL_law_2227 kW_309 rfl (by decide +kernel) rfl rfl rfl (lbc (by omega)) (lbs (by omega)) ?_
  refine c_L_minutesUntilSettled x1 (fun K1 hK1 => c_X3_minutesUntilSettled hY hH hN1 (fun i1 p1 n1 => hK1 _ _ _ _ (lk3 o1 (by first | exact Or.inr rfl | exact Or.inl trivial) (by first | exact Or.inr rfl | exact Or.inl trivial) (by first | exact Or.inr rfl | exact Or.inl trivial) (fun j1 hj1 hj1n => ?_))))
  have e1n : i1 n = i n := p1 n (fun q hq => (hS.di dM_n).2.2.2.2.2.2 1 q (by decide) hq)
  have e1x : i1 x = i x := p1 x (fun q hq => (hS.di dM_x).2.2.2.2.2.2 1 q (by decide) hq)
  have hB1 : zB g i1 x n d b p s o := ⟨hW, hS.r3, by rw [e1n]; exact hN.1.1⟩
  show zR E _ _ X 2230 _ _ _ _ _ _ _
  refine r_is_9_5 qL_law_2230 rfl rfl ?_
  refine r_aload_n qL_law_2232 rfl ?_
  refine r_aload_n qL_law_2233 rfl ?_
  refine r_iload qL_law_2234 rfl ?_
  refine r_iconst (v := nI 1) qL_law_2236 (by decide) ?_
  first | with_reducible refine r_iaddN qL_law_2237 ?_ | refine r_iadd qL_law_2237 ?_
  refine r_sld hX qL_law_2238 (by omega) hL ?_
  refine r_cv1 (cu2 := CU + 1) (su2 := SU + 6) qL_law_2239 kW_311 rfl (by decide +kernel) (c := 4) (by assumption) (by decide) rfl rfl rfl rfl (lbc (by omega)) (lbs (by omega)) ?_
  refine c_X4_minutesUntilSettled hB1 (fun i2 e2 p2 => ?_)
  try rw [e1n] at e2
  rw [e1n]
  have hV : iNu g i2 j1 c rd tx sf sb A x n b p s o u w L O := hN.ask hS (fun r h1 h2 h3 => (p2 r h1 h2).trans (p1 r h3)) (fun m hm => by rw [e2, pk_un hm, e1x]) (fun z hz => by rw [p2 _ (Ne.symm ((hS.di dM_x).2.2.2.2.2.2 1 _ (by decide) (by omega))) (Ne.symm ((hS.di dM_d).2.2.2.2.2.2 1 _ (by decide) (by omega)))]; exact n1 z hz) (hj1n _ jx)
  show zR E _ _ X 2242 _ _ _ _ _ _ _
  refine r_is_9_6 qL_law_2242 rfl rfl ?_
  refine r_aload_n qL_law_2244 rfl ?_
  refine r_cv0 (cu2 := CU + 1) (su2 := SU + 6) qL_law_2245 kW_180 rfl (by decide +kernel) (c := 4) (by assumption) (by decide) rfl rfl rfl rfl (lbc (by omega)) (lbs (by omega)) ?_
  refine c_X4_thrown w1 ?_
  rw [e2, pk_us]
  show zR E _ _ X 2248 _ _ _ _ _ _ _
  refine r_iload qL_law_2248 rfl ?_
  refine r_icmp_eq (t := 2255) qL_law_2250 (by decide) (fun hc2250 => ?_) (fun hc2250 => absurd hc2250 (fun h => h rfl))
  refine r_iload qL_law_2255 rfl ?_
  refine r_if_ne (t := 2272) qL_law_2257 (by decide) (fun hc2257 => ?_) (fun hc2257 => ?_)
  · refine r_goto (t := 3557) qL_law_2272 (by decide) ?_
    exact KN _ _ _ _ _ _ _ _ _ (by omega) (by omega) ⟨hS, _, _, _, _, hV⟩
  · have hABC := c3_z0 hc2257
    refine r_aload_n qL_law_2260 rfl ?_
    refine r_iconst (v := nI 0) qL_law_2261 (by decide) ?_
    refine r_lald qL_law_2262 (by assumption) (in_0 o1.2) ?_
    refine r_iload qL_law_2263 rfl ?_
    refine r_i2l qL_law_2265 ?_
    refine r_lcmp qL_law_2266 ?_
    refine r_if_eq (t := 2272) qL_law_2267 (by decide) (fun hc2267 => ?_) (fun hc2267 => absurd hc2267 (fun h => h ((lg_cmp_eq _ _).mpr ((hj1 hABC).trans (by rw [if_pos (by first | exact hABC.1 | exact ⟨hABC.1, hABC.2.1⟩ | exact hABC)])))))
    refine r_goto (t := 3557) qL_law_2272 (by decide) ?_
    exact KN _ _ _ _ _ _ _ _ _ (by omega) (by omega) ⟨hS, _, _, _, _, hV⟩
theorem lc_40 {E : Ev} {Z : Fx → State → Prop} {X : Fx} {g : Sh} {i : Ni} {j : Nj} {CU SU q bb L0 : Nat} {xs : Nat → Int32} {c rd tx ur sl sf sb : Nat} {A : Nat → Nat → Nat} {x n d b p s o ol : Nat} (hX : zScr E X bb L0 xs) (hq : q + 6 ≤ L0) (hL : L0 ≤ 3072) (hCU : CU + 14 ≤ 601024) (hSU : SU + 1046 ≤ 7293034) (hI : iInv g i j c rd tx ur sl sf sb A x n d b p s o ol) (KN : lawN E Z X CU SU q bb c rd tx ur sl sf sb A x n d b p s o ol) : zR E mL_law Z X 2275 [.ref (bb + 1), .ref c, .ref x, .ref ol, .int (nI q), zJ, zJ, zJ, zJ] [] g i j CU SU := by
  obtain ⟨hS, u, w, L, O, hN⟩ := hI
  have hY := hS.y
  have hW := hS.ww
  have hX3 : zX3 g c (A 0) := hY.x
  have hB : zB g i x n d b p s o := ⟨hW, hS.r3, hN.1.1⟩
  have hH : zH i (A 0) (i n) := hN.1.2.1
  have w1 := hW.1
  have x1 := hS.kc
  have o1 := hS.oo
  have o11 := o1.1
  have jx := hS.jx
  have hN1 := hN.1.2.2 1 (by decide)
  refine r_aload_n qL_law_2275 rfl ?_
  refine r_aload_n qL_law_2276 rfl ?_
  refine r_iload qL_law_2277 rfl ?_
  refine r_iconst (v := nI 1) qL_law_2279 (by decide) ?_
  first | with_reducible refine r_iaddN qL_law_2280 ?_ | refine r_iadd qL_law_2280 ?_
  refine r_sld hX qL_law_2281 (by omega) hL ?_
  refine r_aload_n qL_law_2282 rfl ?_
  refine r_cH3 (cu2 := CU + 1) (su2 := SU + 6) qL_law_2283 kW_312 rfl (by decide +kernel) rfl rfl rfl (lbc (by omega)) (lbs (by omega)) ?_
  refine c_L_minutesUntilSpill x1 (fun K1 hK1 => c_X3_minutesUntilSpill hY hH hN1 (fun i1 p1 n1 => hK1 _ _ _ _ (lk3 o1 (by first | exact Or.inr rfl | exact Or.inl trivial) (by first | exact Or.inr rfl | exact Or.inl trivial) (by first | exact Or.inr rfl | exact Or.inl trivial) (fun j1 hj1 hj1n => ?_))))
  have e1n : i1 n = i n := p1 n (fun q hq => (hS.di dM_n).2.2.2.2.2.2 1 q (by decide) hq)
  have e1x : i1 x = i x := p1 x (fun q hq => (hS.di dM_x).2.2.2.2.2.2 1 q (by decide) hq)
  have hB1 : zB g i1 x n d b p s o := ⟨hW, hS.r3, by rw [e1n]; exact hN.1.1⟩
  show zR E _ _ X 2286 _ _ _ _ _ _ _
  refine r_is_9_5 qL_law_2286 rfl rfl ?_
  refine r_aload_n qL_law_2288 rfl ?_
  refine r_aload_n qL_law_2289 rfl ?_
  refine r_iload qL_law_2290 rfl ?_
  refine r_iconst (v := nI 1) qL_law_2292 (by decide) ?_
  first | with_reducible refine r_iaddN qL_law_2293 ?_ | refine r_iadd qL_law_2293 ?_
  refine r_sld hX qL_law_2294 (by omega) hL ?_
  refine r_cv1 (cu2 := CU + 1) (su2 := SU + 6) qL_law_2295 kW_314 rfl (by decide +kernel) (c := 4) (by assumption) (by decide) rfl rfl rfl rfl (lbc (by omega)) (lbs (by omega)) ?_
  refine c_X4_minutesUntilSpill hB1 (fun i2 e2 p2 => ?_)
  try rw [e1n] at e2
  rw [e1n]
  have hV : iNu g i2 j1 c rd tx sf sb A x n b p s o u w L O := hN.ask hS (fun r h1 h2 h3 => (p2 r h1 h2).trans (p1 r h3)) (fun m hm => by rw [e2, pk_un hm, e1x]) (fun z hz => by rw [p2 _ (Ne.symm ((hS.di dM_x).2.2.2.2.2.2 1 _ (by decide) (by omega))) (Ne.symm ((hS.di dM_d).2.2.2.2.2.2 1 _ (by decide) (by omega)))]; exact n1 z hz) (hj1n _ jx)
  show zR E _ _ X 2298 _ _ _ _ _ _ _
  refine r_is_9_6 qL_law_2298 rfl rfl ?_
  refine r_aload_n qL_law_2300 rfl ?_
  refine r_cv0 (cu2 := CU + 1) (su2 := SU + 6) qL_law_2301 kW_180 rfl (by decide +kernel) (c := 4) (by assumption) (by decide) rfl rfl rfl rfl (lbc (by omega)) (lbs (by omega)) ?_
  refine c_X4_thrown w1 ?_
  rw [e2, pk_us]
  show zR E _ _ X 2304 _ _ _ _ _ _ _
  refine r_iload qL_law_2304 rfl ?_
  refine r_icmp_eq (t := 2311) qL_law_2306 (by decide) (fun hc2306 => ?_) (fun hc2306 => absurd hc2306 (fun h => h rfl))
  refine r_iload qL_law_2311 rfl ?_
  refine r_if_ne (t := 2328) qL_law_2313 (by decide) (fun hc2313 => ?_) (fun hc2313 => ?_)
  · refine r_goto (t := 3557) qL_law_2328 (by decide) ?_
    exact KN _ _ _ _ _ _ _ _ _ (by omega) (by omega) ⟨hS, _, _, _, _, hV⟩
  · have hABC := c3_z0 hc2313
    refine r_aload_n qL_law_2316 rfl ?_
    refine r_iconst (v := nI 0) qL_law_2317 (by decide) ?_
    refine r_lald qL_law_2318 (by assumption) (in_0 o1.2) ?_
    refine r_iload qL_law_2319 rfl ?_
    refine r_i2l qL_law_2321 ?_
    refine r_lcmp qL_law_2322 ?_
    refine r_if_eq (t := 2328) qL_law_2323 (by decide) (fun hc2323 => ?_) (fun hc2323 => absurd hc2323 (fun h => h ((lg_cmp_eq _ _).mpr ((hj1 hABC).trans (by rw [if_pos (by first | exact hABC.1 | exact ⟨hABC.1, hABC.2.1⟩ | exact hABC)])))))
    refine r_goto (t := 3557) qL_law_2328 (by decide) ?_
    exact KN _ _ _ _ _ _ _ _ _ (by omega) (by omega) ⟨hS, _, _, _, _, hV⟩
theorem lc_41 {E : Ev} {Z : Fx → State → Prop} {X : Fx} {g : Sh} {i : Ni} {j : Nj} {CU SU q bb L0 : Nat} {xs : Nat → Int32} {c rd tx ur sl sf sb : Nat} {A : Nat → Nat → Nat} {x n d b p s o ol : Nat} (hX : zScr E X bb L0 xs) (hq : q + 6 ≤ L0) (hL : L0 ≤ 3072) (hCU : CU + 14 ≤ 601024) (hSU : SU + 1046 ≤ 7293034) (hI : iInv g i j c rd tx ur sl sf sb A x n d b p s o ol) (KN : lawN E Z X CU SU q bb c rd tx ur sl sf sb A x n d b p s o ol) : zR E mL_law Z X 2331 [.ref (bb + 1), .ref c, .ref x, .ref ol, .int (nI q), zJ, zJ, zJ, zJ] [] g i j CU SU := by
  obtain ⟨hS, u, w, L, O, hN⟩ := hI
  have hY := hS.y
  have hW := hS.ww
  have hX3 : zX3 g c (A 0) := hY.x
  have hB : zB g i x n d b p s o := ⟨hW, hS.r3, hN.1.1⟩
  have hH : zH i (A 0) (i n) := hN.1.2.1
  have w1 := hW.1
  have x1 := hS.kc
  have o1 := hS.oo
  have o11 := o1.1
  have jx := hS.jx
  have hN1 := hN.1.2.2 1 (by decide)
  refine r_aload_n qL_law_2331 rfl ?_
  refine r_aload_n qL_law_2332 rfl ?_
  refine r_iload qL_law_2333 rfl ?_
  refine r_iconst (v := nI 1) qL_law_2335 (by decide) ?_
  first | with_reducible refine r_iaddN qL_law_2336 ?_ | refine r_iadd qL_law_2336 ?_
  refine r_sld hX qL_law_2337 (by omega) hL ?_
  refine r_aload_n qL_law_2338 rfl ?_
  refine r_iload qL_law_2339 rfl ?_
  refine r_iconst (v := nI 2) qL_law_2341 (by decide) ?_
  first | with_reducible refine r_iaddN qL_law_2342 ?_ | refine r_iadd qL_law_2342 ?_
  refine r_sld hX qL_law_2343 (by omega) hL ?_
  refine r_aload_n qL_law_2344 rfl ?_
  refine r_cH4 (cu2 := CU + 2) (su2 := SU + 12) qL_law_2345 kW_315 rfl (by decide +kernel) rfl rfl rfl (lbc (by omega)) (lbs (by omega)) ?_
  refine c_L_minutesUntilHeight x1 (fun K1 hK1 => c_X3_minutesUntilHeight hY hH hN1 (fun i1 p1 n1 => hK1 _ _ _ _ (lk3 o1 (by first | exact Or.inr rfl | exact Or.inl trivial) (by first | exact Or.inr rfl | exact Or.inl trivial) (by first | exact Or.inr rfl | exact Or.inl trivial) (fun j1 hj1 hj1n => ?_))))
  have e1n : i1 n = i n := p1 n (fun q hq => (hS.di dM_n).2.2.2.2.2.2 1 q (by decide) hq)
  have e1x : i1 x = i x := p1 x (fun q hq => (hS.di dM_x).2.2.2.2.2.2 1 q (by decide) hq)
  have hB1 : zB g i1 x n d b p s o := ⟨hW, hS.r3, by rw [e1n]; exact hN.1.1⟩
  show zR E _ _ X 2348 _ _ _ _ _ _ _
  refine r_is_9_5 qL_law_2348 rfl rfl ?_
  refine r_aload_n qL_law_2350 rfl ?_
  refine r_aload_n qL_law_2351 rfl ?_
  refine r_iload qL_law_2352 rfl ?_
  refine r_iconst (v := nI 1) qL_law_2354 (by decide) ?_
  first | with_reducible refine r_iaddN qL_law_2355 ?_ | refine r_iadd qL_law_2355 ?_
  refine r_sld hX qL_law_2356 (by omega) hL ?_
  refine r_aload_n qL_law_2357 rfl ?_
  refine r_iload qL_law_2358 rfl ?_
  refine r_iconst (v := nI 2) qL_law_2360 (by decide) ?_
  first | with_reducible refine r_iaddN qL_law_2361 ?_ | refine r_iadd qL_law_2361 ?_
  refine r_sld hX qL_law_2362 (by omega) hL ?_
  refine r_cv2 (cu2 := CU + 2) (su2 := SU + 12) qL_law_2363 kW_317 rfl (by decide +kernel) (c := 4) (by assumption) (by decide) rfl rfl rfl rfl (lbc (by omega)) (lbs (by omega)) ?_
  refine c_X4_minutesUntilHeight hB1 (fun i2 e2 p2 => ?_)
  try rw [e1n] at e2
  rw [e1n]
  have hV : iNu g i2 j1 c rd tx sf sb A x n b p s o u w L O := hN.ask hS (fun r h1 h2 h3 => (p2 r h1 h2).trans (p1 r h3)) (fun m hm => by rw [e2, pk_un hm, e1x]) (fun z hz => by rw [p2 _ (Ne.symm ((hS.di dM_x).2.2.2.2.2.2 1 _ (by decide) (by omega))) (Ne.symm ((hS.di dM_d).2.2.2.2.2.2 1 _ (by decide) (by omega)))]; exact n1 z hz) (hj1n _ jx)
  show zR E _ _ X 2366 _ _ _ _ _ _ _
  refine r_is_9_6 qL_law_2366 rfl rfl ?_
  refine r_aload_n qL_law_2368 rfl ?_
  refine r_cv0 (cu2 := CU + 2) (su2 := SU + 12) qL_law_2369 kW_180 rfl (by decide +kernel) (c := 4) (by assumption) (by decide) rfl rfl rfl rfl (lbc (by omega)) (lbs (by omega)) ?_
  refine c_X4_thrown w1 ?_
  rw [e2, pk_us]
  show zR E _ _ X 2372 _ _ _ _ _ _ _
  refine r_iload qL_law_2372 rfl ?_
  refine r_icmp_eq (t := 2379) qL_law_2374 (by decide) (fun hc2374 => ?_) (fun hc2374 => absurd hc2374 (fun h => h rfl))
  refine r_iload qL_law_2379 rfl ?_
  refine r_if_ne (t := 2396) qL_law_2381 (by decide) (fun hc2381 => ?_) (fun hc2381 => ?_)
  · refine r_goto (t := 3557) qL_law_2396 (by decide) ?_
    exact KN _ _ _ _ _ _ _ _ _ (by omega) (by omega) ⟨hS, _, _, _, _, hV⟩
  · have hABC := c3_z0 hc2381
    refine r_aload_n qL_law_2384 rfl ?_
    refine r_iconst (v := nI 0) qL_law_2385 (by decide) ?_
    refine r_lald qL_law_2386 (by assumption) (in_0 o1.2) ?_
    refine r_iload qL_law_2387 rfl ?_
    refine r_i2l qL_law_2389 ?_
    refine r_lcmp qL_law_2390 ?_
    refine r_if_eq (t := 2396) qL_law_2391 (by decide) (fun hc2391 => ?_) (fun hc2391 => absurd hc2391 (fun h => h ((lg_cmp_eq _ _).mpr ((hj1 hABC).trans (by rw [if_pos (by first | exact hABC.1 | exact ⟨hABC.1, hABC.2.1⟩ | exact hABC)])))))
    refine r_goto (t := 3557) qL_law_2396 (by decide) ?_
    exact KN _ _ _ _ _ _ _ _ _ (by omega) (by omega) ⟨hS, _, _, _, _, hV⟩
theorem lc_44 {E : Ev} {Z : Fx → State → Prop} {X : Fx} {g : Sh} {i : Ni} {j : Nj} {CU SU q bb L0 : Nat} {xs : Nat → Int32} {c rd tx ur sl sf sb : Nat} {A : Nat → Nat → Nat} {x n d b p s o ol : Nat} (hX : zScr E X bb L0 xs) (hq : q + 6 ≤ L0) (hL : L0 ≤ 3072) (hCU : CU + 14 ≤ 601024) (hSU : SU + 1046 ≤ 7293034) (hI : iInv g i j c rd tx ur sl sf sb A x n d b p s o ol) (KN : lawN E Z X CU SU q bb c rd tx ur sl sf sb A x n d b p s o ol) : zR E mL_law Z X 2480 [.ref (bb + 1), .ref c, .ref x, .ref ol, .int (nI q), zJ, zJ, zJ, zJ] [] g i j CU SU := by
  obtain ⟨hS, u, w, L, O, hN⟩ := hI
  have hY := hS.y
  have hW := hS.ww
  have hX3 : zX3 g c (A 0) := hY.x
  have hB : zB g i x n d b p s o := ⟨hW, hS.r3, hN.1.1⟩
  have hH : zH i (A 0) (i n) := hN.1.2.1
  have w1 := hW.1
  have x1 := hS.kc
  have o1 := hS.oo
  have o11 := o1.1
  have jx := hS.jx
  have hN1 := hN.1.2.2 1 (by decide)
  refine r_aload_n qL_law_2480 rfl ?_
  refine r_aload_n qL_law_2481 rfl ?_
  refine r_iload qL_law_2482 rfl ?_
  refine r_iconst (v := nI 1) qL_law_2484 (by decide) ?_
  first | with_reducible refine r_iaddN qL_law_2485 ?_ | refine r_iadd qL_law_2485 ?_
  refine r_sld hX qL_law_2486 (by omega) hL ?_
  refine r_aload_n qL_law_2487 rfl ?_
  refine r_cH3 (cu2 := CU + 1) (su2 := SU + 6) qL_law_2488 kW_325 rfl (by decide +kernel) rfl rfl rfl (lbc (by omega)) (lbs (by omega)) ?_
  refine c_L_lossAfter x1 (fun K1 hK1 => c_X3_lossAfter hY hH hN1 (fun i1 p1 n1 => hK1 _ _ _ _ (lk3 o1 (by first | exact Or.inr rfl | exact Or.inl trivial) (by first | exact Or.inr rfl | exact Or.inl trivial) (by first | exact Or.inr rfl | exact Or.inl trivial) (fun j1 hj1 hj1n => ?_))))
  have e1n : i1 n = i n := p1 n (fun q hq => (hS.di dM_n).2.2.2.2.2.2 1 q (by decide) hq)
  have e1x : i1 x = i x := p1 x (fun q hq => (hS.di dM_x).2.2.2.2.2.2 1 q (by decide) hq)
  have hB1 : zB g i1 x n d b p s o := ⟨hW, hS.r3, by rw [e1n]; exact hN.1.1⟩
  show zR E _ _ X 2491 _ _ _ _ _ _ _
  refine r_is_9_5 qL_law_2491 rfl rfl ?_
  refine r_aload_n qL_law_2493 rfl ?_
  refine r_aload_n qL_law_2494 rfl ?_
  refine r_iload qL_law_2495 rfl ?_
  refine r_iconst (v := nI 1) qL_law_2497 (by decide) ?_
  first | with_reducible refine r_iaddN qL_law_2498 ?_ | refine r_iadd qL_law_2498 ?_
  refine r_sld hX qL_law_2499 (by omega) hL ?_
  refine r_cv1 (cu2 := CU + 1) (su2 := SU + 6) qL_law_2500 kW_327 rfl (by decide +kernel) (c := 4) (by assumption) (by decide) rfl rfl rfl rfl (lbc (by omega)) (lbs (by omega)) ?_
  refine c_X4_lossAfter hB1 (fun i2 e2 p2 => ?_)
  try rw [e1n] at e2
  rw [e1n]
  have hV : iNu g i2 j1 c rd tx sf sb A x n b p s o u w L O := hN.ask hS (fun r h1 h2 h3 => (p2 r h1 h2).trans (p1 r h3)) (fun m hm => by rw [e2, pk_un hm, e1x]) (fun z hz => by rw [p2 _ (Ne.symm ((hS.di dM_x).2.2.2.2.2.2 1 _ (by decide) (by omega))) (Ne.symm ((hS.di dM_d).2.2.2.2.2.2 1 _ (by decide) (by omega)))]; exact n1 z hz) (hj1n _ jx)
  show zR E _ _ X 2503 _ _ _ _ _ _ _
  refine r_is_9_6 qL_law_2503 rfl rfl ?_
  refine r_aload_n qL_law_2505 rfl ?_
  refine r_cv0 (cu2 := CU + 1) (su2 := SU + 6) qL_law_2506 kW_180 rfl (by decide +kernel) (c := 4) (by assumption) (by decide) rfl rfl rfl rfl (lbc (by omega)) (lbs (by omega)) ?_
  refine c_X4_thrown w1 ?_
  rw [e2, pk_us]
  show zR E _ _ X 2509 _ _ _ _ _ _ _
  refine r_iload qL_law_2509 rfl ?_
  refine r_icmp_eq (t := 2516) qL_law_2511 (by decide) (fun hc2511 => ?_) (fun hc2511 => absurd hc2511 (fun h => h rfl))
  refine r_iload qL_law_2516 rfl ?_
  refine r_if_ne (t := 2533) qL_law_2518 (by decide) (fun hc2518 => ?_) (fun hc2518 => ?_)
  · refine r_goto (t := 3557) qL_law_2533 (by decide) ?_
    exact KN _ _ _ _ _ _ _ _ _ (by omega) (by omega) ⟨hS, _, _, _, _, hV⟩
  · have hABC := c3_z0 hc2518
    refine r_aload_n qL_law_2521 rfl ?_
    refine r_iconst (v := nI 0) qL_law_2522 (by decide) ?_
    refine r_lald qL_law_2523 (by assumption) (in_0 o1.2) ?_
    refine r_iload qL_law_2524 rfl ?_
    refine r_i2l qL_law_2526 ?_
    refine r_lcmp qL_law_2527 ?_
    refine r_if_eq (t := 2533) qL_law_2528 (by decide) (fun hc2528 => ?_) (fun hc2528 => absurd hc2528 (fun h => h ((lg_cmp_eq _ _).mpr ((hj1 hABC).trans (by rw [if_pos (by first | exact hABC.1 | exact ⟨hABC.1, hABC.2.1⟩ | exact hABC)])))))
    refine r_goto (t := 3557) qL_law_2533 (by decide) ?_
    exact KN _ _ _ _ _ _ _ _ _ (by omega) (by omega) ⟨hS, _, _, _, _, hV⟩

