/-! ===== THE LAW'S CASES ===== -/
theorem lc_17 {E : Ev} {Z : Fx → State → Prop} {X : Fx} {g : Sh} {i : Ni} {j : Nj} {CU SU q bb L0 : Nat} {xs : Nat → Int32} {c rd tx ur sl sf sb : Nat} {A : Nat → Nat → Nat} {x n d b p s o ol : Nat} (hX : zScr E X bb L0 xs) (hq : q + 6 ≤ L0) (hL : L0 ≤ 3072) (hCU : CU + 14 ≤ 601024) (hSU : SU + 1046 ≤ 7293034) (hI : iInv g i j c rd tx ur sl sf sb A x n d b p s o ol) (KN : lawN E Z X CU SU q bb c rd tx ur sl sf sb A x n d b p s o ol) : zR E mL_law Z X 1111 [.ref (bb + 1), .ref c, .ref x, .ref ol, .int (nI q), zJ, zJ, zJ, zJ] [] g i j CU SU := by
  obtain ⟨hS, u, w, L, O, hN⟩ := hI
  have hY := hS.y
  have hW := hS.ww
  have hX3 : zX3 g c (A 0) := hY.x
  have hB : zB g i x n d b p s o := ⟨hW, hS.r3, hN.1.1⟩
  have hH : zH i (A 0) (i n) := hN.1.2.1
  have w1 := hW.1
  have x1 := hS.kc
  have o1 := hS.oo
  have o11 := o1.1
  have jx := hS.jx
  refine r_aload_n qL_law_1111 rfl ?_
  refine r_aload_n qL_law_1112 rfl ?_
  refine r_iload qL_law_1113 rfl ?_
  refine r_iconst (v := nI 1) qL_law_1115 (by decide) ?_
  first | with_reducible refine r_iaddN qL_law_1116 ?_ | refine r_iadd qL_law_1116 ?_
  refine r_sld hX qL_law_1117 (by omega) hL ?_
  refine r_aload_n qL_law_1118 rfl ?_
  refine r_cH3 (cu2 := CU + 1) (su2 := SU + 6) qL_law_1119 kW_237 rfl (by decide +kernel) rfl rfl rfl (lbc (by omega)) (lbs (by omega)) ?_
  refine c_L_bathOf x1 (fun K1 hK1 => c_X3_bathOf hX3 hH (hK1 _ _ _ _ (lk3 o1 (by first | exact Or.inr rfl | exact Or.inl trivial) (by first | exact Or.inr rfl | exact Or.inl trivial) (by first | exact Or.inr rfl | exact Or.inl trivial) (fun j1 hj1 hj1n => ?_))))
  show zR E _ _ X 1122 _ _ _ _ _ _ _
  refine r_is_9_5 qL_law_1122 rfl rfl ?_
  refine r_aload_n qL_law_1124 rfl ?_
  refine r_aload_n qL_law_1125 rfl ?_
  refine r_iload qL_law_1126 rfl ?_
  refine r_iconst (v := nI 1) qL_law_1128 (by decide) ?_
  first | with_reducible refine r_iaddN qL_law_1129 ?_ | refine r_iadd qL_law_1129 ?_
  refine r_sld hX qL_law_1130 (by omega) hL ?_
  refine r_cv1 (cu2 := CU + 1) (su2 := SU + 6) qL_law_1131 kW_239 rfl (by decide +kernel) (c := 4) (by assumption) (by decide) rfl rfl rfl rfl (lbc (by omega)) (lbs (by omega)) ?_
  refine c_X4_bathOf hB ?_
  show zR E _ _ X 1134 _ _ _ _ _ _ _
  refine r_is_9_6 qL_law_1134 rfl rfl ?_
  refine r_aload_n qL_law_1136 rfl ?_
  refine r_cv0 (cu2 := CU + 1) (su2 := SU + 6) qL_law_1137 kW_180 rfl (by decide +kernel) (c := 4) (by assumption) (by decide) rfl rfl rfl rfl (lbc (by omega)) (lbs (by omega)) ?_
  refine c_X4_thrown w1 ?_
  rw [wA_s, pk_us]
  show zR E _ _ X 1140 _ _ _ _ _ _ _
  refine r_iload qL_law_1140 rfl ?_
  refine r_icmp_eq (t := 1147) qL_law_1142 (by decide) (fun hc1142 => ?_) (fun hc1142 => absurd hc1142 (fun h => h rfl))
  refine r_iload qL_law_1147 rfl ?_
  refine r_if_ne (t := 1164) qL_law_1149 (by decide) (fun hc1149 => ?_) (fun hc1149 => ?_)
  · refine r_goto (t := 3557) qL_law_1164 (by decide) ?_
    exact KN _ _ _ _ _ _ _ _ _ (by omega) (by omega) ⟨hS, _, _, _, _, hN.ask0 hS (hj1n _ jx)⟩
  · have hABC := c3_z0 hc1149
    refine r_aload_n qL_law_1152 rfl ?_
    refine r_iconst (v := nI 0) qL_law_1153 (by decide) ?_
    refine r_lald qL_law_1154 (by assumption) (in_0 o1.2) ?_
    refine r_iload qL_law_1155 rfl ?_
    refine r_i2l qL_law_1157 ?_
    refine r_lcmp qL_law_1158 ?_
    refine r_if_eq (t := 1164) qL_law_1159 (by decide) (fun hc1159 => ?_) (fun hc1159 => absurd hc1159 (fun h => h ((lg_cmp_eq _ _).mpr ((hj1 hABC).trans (by rw [if_pos (by first | exact hABC.1 | exact ⟨hABC.1, hABC.2.1⟩ | exact hABC)])))))
    refine r_goto (t := 3557) qL_law_1164 (by decide) ?_
    exact KN _ _ _ _ _ _ _ _ _ (by omega) (by omega) ⟨hS, _, _, _, _, hN.ask0 hS (hj1n _ jx)⟩
theorem lc_18 {E : Ev} {Z : Fx → State → Prop} {X : Fx} {g : Sh} {i : Ni} {j : Nj} {CU SU q bb L0 : Nat} {xs : Nat → Int32} {c rd tx ur sl sf sb : Nat} {A : Nat → Nat → Nat} {x n d b p s o ol : Nat} (hX : zScr E X bb L0 xs) (hq : q + 6 ≤ L0) (hL : L0 ≤ 3072) (hCU : CU + 14 ≤ 601024) (hSU : SU + 1046 ≤ 7293034) (hI : iInv g i j c rd tx ur sl sf sb A x n d b p s o ol) (KN : lawN E Z X CU SU q bb c rd tx ur sl sf sb A x n d b p s o ol) : zR E mL_law Z X 1167 [.ref (bb + 1), .ref c, .ref x, .ref ol, .int (nI q), zJ, zJ, zJ, zJ] [] g i j CU SU := by
  obtain ⟨hS, u, w, L, O, hN⟩ := hI
  have hY := hS.y
  have hW := hS.ww
  have hX3 : zX3 g c (A 0) := hY.x
  have hB : zB g i x n d b p s o := ⟨hW, hS.r3, hN.1.1⟩
  have hH : zH i (A 0) (i n) := hN.1.2.1
  have w1 := hW.1
  have x1 := hS.kc
  have o1 := hS.oo
  have o11 := o1.1
  have jx := hS.jx
  refine r_aload_n qL_law_1167 rfl ?_
  refine r_aload_n qL_law_1168 rfl ?_
  refine r_iload qL_law_1169 rfl ?_
  refine r_iconst (v := nI 1) qL_law_1171 (by decide) ?_
  first | with_reducible refine r_iaddN qL_law_1172 ?_ | refine r_iadd qL_law_1172 ?_
  refine r_sld hX qL_law_1173 (by omega) hL ?_
  refine r_aload_n qL_law_1174 rfl ?_
  refine r_cH3 (cu2 := CU + 1) (su2 := SU + 6) qL_law_1175 kW_240 rfl (by decide +kernel) rfl rfl rfl (lbc (by omega)) (lbs (by omega)) ?_
  refine c_L_height x1 (fun K1 hK1 => c_X3_height hX3 hH (hK1 _ _ _ _ (lk3 o1 (by first | exact Or.inr rfl | exact Or.inl trivial) (by first | exact Or.inr rfl | exact Or.inl trivial) (by first | exact Or.inr rfl | exact Or.inl trivial) (fun j1 hj1 hj1n => ?_))))
  show zR E _ _ X 1178 _ _ _ _ _ _ _
  refine r_is_9_5 qL_law_1178 rfl rfl ?_
  refine r_aload_n qL_law_1180 rfl ?_
  refine r_aload_n qL_law_1181 rfl ?_
  refine r_iload qL_law_1182 rfl ?_
  refine r_iconst (v := nI 1) qL_law_1184 (by decide) ?_
  first | with_reducible refine r_iaddN qL_law_1185 ?_ | refine r_iadd qL_law_1185 ?_
  refine r_sld hX qL_law_1186 (by omega) hL ?_
  refine r_cv1 (cu2 := CU + 1) (su2 := SU + 6) qL_law_1187 kW_242 rfl (by decide +kernel) (c := 4) (by assumption) (by decide) rfl rfl rfl rfl (lbc (by omega)) (lbs (by omega)) ?_
  refine c_X4_height hB ?_
  show zR E _ _ X 1190 _ _ _ _ _ _ _
  refine r_is_9_6 qL_law_1190 rfl rfl ?_
  refine r_aload_n qL_law_1192 rfl ?_
  refine r_cv0 (cu2 := CU + 1) (su2 := SU + 6) qL_law_1193 kW_180 rfl (by decide +kernel) (c := 4) (by assumption) (by decide) rfl rfl rfl rfl (lbc (by omega)) (lbs (by omega)) ?_
  refine c_X4_thrown w1 ?_
  rw [wA_s, pk_us]
  show zR E _ _ X 1196 _ _ _ _ _ _ _
  refine r_iload qL_law_1196 rfl ?_
  refine r_icmp_eq (t := 1203) qL_law_1198 (by decide) (fun hc1198 => ?_) (fun hc1198 => absurd hc1198 (fun h => h rfl))
  refine r_iload qL_law_1203 rfl ?_
  refine r_if_ne (t := 1220) qL_law_1205 (by decide) (fun hc1205 => ?_) (fun hc1205 => ?_)
  · refine r_goto (t := 3557) qL_law_1220 (by decide) ?_
    exact KN _ _ _ _ _ _ _ _ _ (by omega) (by omega) ⟨hS, _, _, _, _, hN.ask0 hS (hj1n _ jx)⟩
  · have hABC := c3_z0 hc1205
    refine r_aload_n qL_law_1208 rfl ?_
    refine r_iconst (v := nI 0) qL_law_1209 (by decide) ?_
    refine r_lald qL_law_1210 (by assumption) (in_0 o1.2) ?_
    refine r_iload qL_law_1211 rfl ?_
    refine r_i2l qL_law_1213 ?_
    refine r_lcmp qL_law_1214 ?_
    refine r_if_eq (t := 1220) qL_law_1215 (by decide) (fun hc1215 => ?_) (fun hc1215 => absurd hc1215 (fun h => h ((lg_cmp_eq _ _).mpr ((hj1 hABC).trans (by rw [if_pos (by first | exact hABC.1 | exact ⟨hABC.1, hABC.2.1⟩ | exact hABC)])))))
    refine r_goto (t := 3557) qL_law_1220 (by decide) ?_
    exact KN _ _ _ _ _ _ _ _ _ (by omega) (by omega) ⟨hS, _, _, _, _, hN.ask0 hS (hj1n _ jx)⟩
theorem lc_19 {E : Ev} {Z : Fx → State → Prop} {X : Fx} {g : Sh} {i : Ni} {j : Nj} {CU SU q bb L0 : Nat} {xs : Nat → Int32} {c rd tx ur sl sf sb : Nat} {A : Nat → Nat → Nat} {x n d b p s o ol : Nat} (hX : zScr E X bb L0 xs) (hq : q + 6 ≤ L0) (hL : L0 ≤ 3072) (hCU : CU + 14 ≤ 601024) (hSU : SU + 1046 ≤ 7293034) (hI : iInv g i j c rd tx ur sl sf sb A x n d b p s o ol) (KN : lawN E Z X CU SU q bb c rd tx ur sl sf sb A x n d b p s o ol) : zR E mL_law Z X 1223 [.ref (bb + 1), .ref c, .ref x, .ref ol, .int (nI q), zJ, zJ, zJ, zJ] [] g i j CU SU := by
  obtain ⟨hS, u, w, L, O, hN⟩ := hI
  have hY := hS.y
  have hW := hS.ww
  have hX3 : zX3 g c (A 0) := hY.x
  have hB : zB g i x n d b p s o := ⟨hW, hS.r3, hN.1.1⟩
  have hH : zH i (A 0) (i n) := hN.1.2.1
  have w1 := hW.1
  have x1 := hS.kc
  have o1 := hS.oo
  have o11 := o1.1
  have jx := hS.jx
  refine r_aload_n qL_law_1223 rfl ?_
  refine r_aload_n qL_law_1224 rfl ?_
  refine r_iload qL_law_1225 rfl ?_
  refine r_iconst (v := nI 1) qL_law_1227 (by decide) ?_
  first | with_reducible refine r_iaddN qL_law_1228 ?_ | refine r_iadd qL_law_1228 ?_
  refine r_sld hX qL_law_1229 (by omega) hL ?_
  refine r_aload_n qL_law_1230 rfl ?_
  refine r_iload qL_law_1231 rfl ?_
  refine r_iconst (v := nI 2) qL_law_1233 (by decide) ?_
  first | with_reducible refine r_iaddN qL_law_1234 ?_ | refine r_iadd qL_law_1234 ?_
  refine r_sld hX qL_law_1235 (by omega) hL ?_
  refine r_aload_n qL_law_1236 rfl ?_
  refine r_cH4 (cu2 := CU + 2) (su2 := SU + 12) qL_law_1237 kW_243 rfl (by decide +kernel) rfl rfl rfl (lbc (by omega)) (lbs (by omega)) ?_
  refine c_L_freeHeightAt x1 (fun K1 hK1 => c_X3_freeHeightAt hX3 hH (hK1 _ _ _ _ (lk3 o1 (by first | exact Or.inr rfl | exact Or.inl trivial) (by first | exact Or.inr rfl | exact Or.inl trivial) (by first | exact Or.inr rfl | exact Or.inl trivial) (fun j1 hj1 hj1n => ?_))))
  show zR E _ _ X 1240 _ _ _ _ _ _ _
  refine r_is_9_5 qL_law_1240 rfl rfl ?_
  refine r_aload_n qL_law_1242 rfl ?_
  refine r_aload_n qL_law_1243 rfl ?_
  refine r_iload qL_law_1244 rfl ?_
  refine r_iconst (v := nI 1) qL_law_1246 (by decide) ?_
  first | with_reducible refine r_iaddN qL_law_1247 ?_ | refine r_iadd qL_law_1247 ?_
  refine r_sld hX qL_law_1248 (by omega) hL ?_
  refine r_aload_n qL_law_1249 rfl ?_
  refine r_iload qL_law_1250 rfl ?_
  refine r_iconst (v := nI 2) qL_law_1252 (by decide) ?_
  first | with_reducible refine r_iaddN qL_law_1253 ?_ | refine r_iadd qL_law_1253 ?_
  refine r_sld hX qL_law_1254 (by omega) hL ?_
  refine r_cv2 (cu2 := CU + 2) (su2 := SU + 12) qL_law_1255 kW_246 rfl (by decide +kernel) (c := 4) (by assumption) (by decide) rfl rfl rfl rfl (lbc (by omega)) (lbs (by omega)) ?_
  refine c_X4_freeHeightAt hB ?_
  show zR E _ _ X 1258 _ _ _ _ _ _ _
  refine r_is_9_6 qL_law_1258 rfl rfl ?_
  refine r_aload_n qL_law_1260 rfl ?_
  refine r_cv0 (cu2 := CU + 2) (su2 := SU + 12) qL_law_1261 kW_180 rfl (by decide +kernel) (c := 4) (by assumption) (by decide) rfl rfl rfl rfl (lbc (by omega)) (lbs (by omega)) ?_
  refine c_X4_thrown w1 ?_
  rw [wA_s, pk_us]
  show zR E _ _ X 1264 _ _ _ _ _ _ _
  refine r_iload qL_law_1264 rfl ?_
  refine r_icmp_eq (t := 1271) qL_law_1266 (by decide) (fun hc1266 => ?_) (fun hc1266 => absurd hc1266 (fun h => h rfl))
  refine r_iload qL_law_1271 rfl ?_
  refine r_if_ne (t := 1288) qL_law_1273 (by decide) (fun hc1273 => ?_) (fun hc1273 => ?_)
  · refine r_goto (t := 3557) qL_law_1288 (by decide) ?_
    exact KN _ _ _ _ _ _ _ _ _ (by omega) (by omega) ⟨hS, _, _, _, _, hN.ask0 hS (hj1n _ jx)⟩
  · have hABC := c3_z0 hc1273
    refine r_aload_n qL_law_1276 rfl ?_
    refine r_iconst (v := nI 0) qL_law_1277 (by decide) ?_
    refine r_lald qL_law_1278 (by assumption) (in_0 o1.2) ?_
    refine r_iload qL_law_1279 rfl ?_
    refine r_i2l qL_law_1281 ?_
    refine r_lcmp qL_law_1282 ?_
    refine r_if_eq (t := 1288) qL_law_1283 (by decide) (fun hc1283 => ?_) (fun hc1283 => absurd hc1283 (fun h => h ((lg_cmp_eq _ _).mpr ((hj1 hABC).trans (by rw [if_pos (by first | exact hABC.1 | exact ⟨hABC.1, hABC.2.1⟩ | exact hABC)])))))
    refine r_goto (t := 3557) qL_law_1288 (by decide) ?_
    exact KN _ _ _ _ _ _ _ _ _ (by omega) (by omega) ⟨hS, _, _, _, _, hN.ask0 hS (hj1n _ jx)⟩
theorem lc_20 {E : Ev} {Z : Fx → State → Prop} {X : Fx} {g : Sh} {i : Ni} {j : Nj} {CU SU q bb L0 : Nat} {xs : Nat → Int32} {c rd tx ur sl sf sb : Nat} {A : Nat → Nat → Nat} {x n d b p s o ol : Nat} (hX : zScr E X bb L0 xs) (hq : q + 6 ≤ L0) (hL : L0 ≤ 3072) (hCU : CU + 14 ≤ 601024) (hSU : SU + 1046 ≤ 7293034) (hI : iInv g i j c rd tx ur sl sf sb A x n d b p s o ol) (KN : lawN E Z X CU SU q bb c rd tx ur sl sf sb A x n d b p s o ol) : zR E mL_law Z X 1291 [.ref (bb + 1), .ref c, .ref x, .ref ol, .int (nI q), zJ, zJ, zJ, zJ] [] g i j CU SU := by
  obtain ⟨hS, u, w, L, O, hN⟩ := hI
  have hY := hS.y
  have hW := hS.ww
  have hX3 : zX3 g c (A 0) := hY.x
  have hB : zB g i x n d b p s o := ⟨hW, hS.r3, hN.1.1⟩
  have hH : zH i (A 0) (i n) := hN.1.2.1
  have w1 := hW.1
  have x1 := hS.kc
  have o1 := hS.oo
  have o11 := o1.1
  have jx := hS.jx
  refine r_aload_n qL_law_1291 rfl ?_
  refine r_aload_n qL_law_1292 rfl ?_
  refine r_iload qL_law_1293 rfl ?_
  refine r_iconst (v := nI 1) qL_law_1295 (by decide) ?_
  first | with_reducible refine r_iaddN qL_law_1296 ?_ | refine r_iadd qL_law_1296 ?_
  refine r_sld hX qL_law_1297 (by omega) hL ?_
  refine r_aload_n qL_law_1298 rfl ?_
  refine r_cH3 (cu2 := CU + 1) (su2 := SU + 6) qL_law_1299 kW_247 rfl (by decide +kernel) rfl rfl rfl (lbc (by omega)) (lbs (by omega)) ?_
  refine c_L_greatestTemperature x1 (fun K1 hK1 => c_X3_greatestTemperature hX3 hH (hK1 _ _ _ _ (lk3 o1 (by first | exact Or.inr rfl | exact Or.inl trivial) (by first | exact Or.inr rfl | exact Or.inl trivial) (by first | exact Or.inr rfl | exact Or.inl trivial) (fun j1 hj1 hj1n => ?_))))
  show zR E _ _ X 1302 _ _ _ _ _ _ _
  refine r_is_9_5 qL_law_1302 rfl rfl ?_
  refine r_aload_n qL_law_1304 rfl ?_
  refine r_aload_n qL_law_1305 rfl ?_
  refine r_iload qL_law_1306 rfl ?_
  refine r_iconst (v := nI 1) qL_law_1308 (by decide) ?_
  first | with_reducible refine r_iaddN qL_law_1309 ?_ | refine r_iadd qL_law_1309 ?_
  refine r_sld hX qL_law_1310 (by omega) hL ?_
  refine r_cv1 (cu2 := CU + 1) (su2 := SU + 6) qL_law_1311 kW_249 rfl (by decide +kernel) (c := 4) (by assumption) (by decide) rfl rfl rfl rfl (lbc (by omega)) (lbs (by omega)) ?_
  refine c_X4_greatestTemperature hB ?_
  show zR E _ _ X 1314 _ _ _ _ _ _ _
  refine r_is_9_6 qL_law_1314 rfl rfl ?_
  refine r_aload_n qL_law_1316 rfl ?_
  refine r_cv0 (cu2 := CU + 1) (su2 := SU + 6) qL_law_1317 kW_180 rfl (by decide +kernel) (c := 4) (by assumption) (by decide) rfl rfl rfl rfl (lbc (by omega)) (lbs (by omega)) ?_
  refine c_X4_thrown w1 ?_
  rw [wA_s, pk_us]
  show zR E _ _ X 1320 _ _ _ _ _ _ _
  refine r_iload qL_law_1320 rfl ?_
  refine r_icmp_eq (t := 1327) qL_law_1322 (by decide) (fun hc1322 => ?_) (fun hc1322 => absurd hc1322 (fun h => h rfl))
  refine r_iload qL_law_1327 rfl ?_
  refine r_if_ne (t := 1344) qL_law_1329 (by decide) (fun hc1329 => ?_) (fun hc1329 => ?_)
  · refine r_goto (t := 3557) qL_law_1344 (by decide) ?_
    exact KN _ _ _ _ _ _ _ _ _ (by omega) (by omega) ⟨hS, _, _, _, _, hN.ask0 hS (hj1n _ jx)⟩
  · have hABC := c3_z0 hc1329
    refine r_aload_n qL_law_1332 rfl ?_
    refine r_iconst (v := nI 0) qL_law_1333 (by decide) ?_
    refine r_lald qL_law_1334 (by assumption) (in_0 o1.2) ?_
    refine r_iload qL_law_1335 rfl ?_
    refine r_i2l qL_law_1337 ?_
    refine r_lcmp qL_law_1338 ?_
    refine r_if_eq (t := 1344) qL_law_1339 (by decide) (fun hc1339 => ?_) (fun hc1339 => absurd hc1339 (fun h => h ((lg_cmp_eq _ _).mpr ((hj1 hABC).trans (by rw [if_pos (by first | exact hABC.1 | exact ⟨hABC.1, hABC.2.1⟩ | exact hABC)])))))
    refine r_goto (t := 3557) qL_law_1344 (by decide) ?_
    exact KN _ _ _ _ _ _ _ _ _ (by omega) (by omega) ⟨hS, _, _, _, _, hN.ask0 hS (hj1n _ jx)⟩
theorem lc_21 {E : Ev} {Z : Fx → State → Prop} {X : Fx} {g : Sh} {i : Ni} {j : Nj} {CU SU q bb L0 : Nat} {xs : Nat → Int32} {c rd tx ur sl sf sb : Nat} {A : Nat → Nat → Nat} {x n d b p s o ol : Nat} (hX : zScr E X bb L0 xs) (hq : q + 6 ≤ L0) (hL : L0 ≤ 3072) (hCU : CU + 14 ≤ 601024) (hSU : SU + 1046 ≤ 7293034) (hI : iInv g i j c rd tx ur sl sf sb A x n d b p s o ol) (KN : lawN E Z X CU SU q bb c rd tx ur sl sf sb A x n d b p s o ol) : zR E mL_law Z X 1347 [.ref (bb + 1), .ref c, .ref x, .ref ol, .int (nI q), zJ, zJ, zJ, zJ] [] g i j CU SU := by
  obtain ⟨hS, u, w, L, O, hN⟩ := hI
  have hY := hS.y
  have hW := hS.ww
  have hX3 : zX3 g c (A 0) := hY.x
  have hB : zB g i x n d b p s o := ⟨hW, hS.r3, hN.1.1⟩
  have hH : zH i (A 0) (i n) := hN.1.2.1
  have w1 := hW.1
  have x1 := hS.kc
  have o1 := hS.oo
  have o11 := o1.1
  have jx := hS.jx
  refine r_aload_n qL_law_1347 rfl ?_
  refine r_cv0 (cu2 := CU) (su2 := SU) qL_law_1348 kW_250 rfl (by decide +kernel) (c := 3) (by assumption) (by decide) rfl rfl rfl rfl (lbc (by omega)) (lbs (by omega)) ?_
  refine c_X3_thumbedTube hX3 hH ?_
  show zR E _ _ X 1351 _ _ _ _ _ _ _
  refine r_aload_n qL_law_1351 rfl ?_
  refine r_cv0 (cu2 := CU) (su2 := SU) qL_law_1352 kW_253 rfl (by decide +kernel) (c := 4) (by assumption) (by decide) rfl rfl rfl rfl (lbc (by omega)) (lbs (by omega)) ?_
  refine c_X4_thumbedTube hW ?_
  show zR E _ _ X 1355 _ _ _ _ _ _ _
  refine r_icmp_eq (t := 3557) qL_law_1355 (by decide) (fun hc1355 => ?_) (fun hc1355 => absurd hc1355 (fun h => h rfl))
  exact KN _ _ _ _ _ _ _ _ _ (by omega) (by omega) ⟨hS, _, _, _, _, hN.ask0 hS rfl⟩
theorem lc_22 {E : Ev} {Z : Fx → State → Prop} {X : Fx} {g : Sh} {i : Ni} {j : Nj} {CU SU q bb L0 : Nat} {xs : Nat → Int32} {c rd tx ur sl sf sb : Nat} {A : Nat → Nat → Nat} {x n d b p s o ol : Nat} (hX : zScr E X bb L0 xs) (hq : q + 6 ≤ L0) (hL : L0 ≤ 3072) (hCU : CU + 14 ≤ 601024) (hSU : SU + 1046 ≤ 7293034) (hI : iInv g i j c rd tx ur sl sf sb A x n d b p s o ol) (KN : lawN E Z X CU SU q bb c rd tx ur sl sf sb A x n d b p s o ol) : zR E mL_law Z X 1360 [.ref (bb + 1), .ref c, .ref x, .ref ol, .int (nI q), zJ, zJ, zJ, zJ] [] g i j CU SU := by
  obtain ⟨hS, u, w, L, O, hN⟩ := hI
  have hY := hS.y
  have hW := hS.ww
  have hX3 : zX3 g c (A 0) := hY.x
  have hB : zB g i x n d b p s o := ⟨hW, hS.r3, hN.1.1⟩
  have hH : zH i (A 0) (i n) := hN.1.2.1
  have w1 := hW.1
  have x1 := hS.kc
  have o1 := hS.oo
  have o11 := o1.1
  have jx := hS.jx
  refine r_aload_n qL_law_1360 rfl ?_
  refine r_cv0 (cu2 := CU) (su2 := SU) qL_law_1361 kW_254 rfl (by decide +kernel) (c := 3) (by assumption) (by decide) rfl rfl rfl rfl (lbc (by omega)) (lbs (by omega)) ?_
  refine c_X3_thumbLeft hX3 hH ?_
  show zR E _ _ X 1364 _ _ _ _ _ _ _
  refine r_aload_n qL_law_1364 rfl ?_
  refine r_cv0 (cu2 := CU) (su2 := SU) qL_law_1365 kW_257 rfl (by decide +kernel) (c := 4) (by assumption) (by decide) rfl rfl rfl rfl (lbc (by omega)) (lbs (by omega)) ?_
  refine c_X4_thumbLeft hW ?_
  show zR E _ _ X 1368 _ _ _ _ _ _ _
  refine r_icmp_eq (t := 3557) qL_law_1368 (by decide) (fun hc1368 => ?_) (fun hc1368 => absurd hc1368 (fun h => h rfl))
  exact KN _ _ _ _ _ _ _ _ _ (by omega) (by omega) ⟨hS, _, _, _, _, hN.ask0 hS rfl⟩
theorem lc_23 {E : Ev} {Z : Fx → State → Prop} {X : Fx} {g : Sh} {i : Ni} {j : Nj} {CU SU q bb L0 : Nat} {xs : Nat → Int32} {c rd tx ur sl sf sb : Nat} {A : Nat → Nat → Nat} {x n d b p s o ol : Nat} (hX : zScr E X bb L0 xs) (hq : q + 6 ≤ L0) (hL : L0 ≤ 3072) (hCU : CU + 14 ≤ 601024) (hSU : SU + 1046 ≤ 7293034) (hI : iInv g i j c rd tx ur sl sf sb A x n d b p s o ol) (KN : lawN E Z X CU SU q bb c rd tx ur sl sf sb A x n d b p s o ol) : zR E mL_law Z X 1373 [.ref (bb + 1), .ref c, .ref x, .ref ol, .int (nI q), zJ, zJ, zJ, zJ] [] g i j CU SU := by
  obtain ⟨hS, u, w, L, O, hN⟩ := hI
  have hY := hS.y
  have hW := hS.ww
  have hX3 : zX3 g c (A 0) := hY.x
  have hB : zB g i x n d b p s o := ⟨hW, hS.r3, hN.1.1⟩
  have hH : zH i (A 0) (i n) := hN.1.2.1
  have w1 := hW.1
  have x1 := hS.kc
  have o1 := hS.oo
  have o11 := o1.1
  have jx := hS.jx
  refine r_aload_n qL_law_1373 rfl ?_
  refine r_aload_n qL_law_1374 rfl ?_
  refine r_iload qL_law_1375 rfl ?_
  refine r_iconst (v := nI 1) qL_law_1377 (by decide) ?_
  first | with_reducible refine r_iaddN qL_law_1378 ?_ | refine r_iadd qL_law_1378 ?_
  refine r_sld hX qL_law_1379 (by omega) hL ?_
  refine r_aload_n qL_law_1380 rfl ?_
  refine r_cH3 (cu2 := CU + 1) (su2 := SU + 6) qL_law_1381 kW_258 rfl (by decide +kernel) rfl rfl rfl (lbc (by omega)) (lbs (by omega)) ?_
  refine c_L_pointCount x1 (fun K1 hK1 => c_X3_pointCount hX3 hH (hK1 _ _ _ _ (lk3 o1 (by first | exact Or.inr rfl | exact Or.inl trivial) (by first | exact Or.inr rfl | exact Or.inl trivial) (by first | exact Or.inr rfl | exact Or.inl trivial) (fun j1 hj1 hj1n => ?_))))
  show zR E _ _ X 1384 _ _ _ _ _ _ _
  refine r_is_9_5 qL_law_1384 rfl rfl ?_
  refine r_aload_n qL_law_1386 rfl ?_
  refine r_aload_n qL_law_1387 rfl ?_
  refine r_iload qL_law_1388 rfl ?_
  refine r_iconst (v := nI 1) qL_law_1390 (by decide) ?_
  first | with_reducible refine r_iaddN qL_law_1391 ?_ | refine r_iadd qL_law_1391 ?_
  refine r_sld hX qL_law_1392 (by omega) hL ?_
  refine r_cv1 (cu2 := CU + 1) (su2 := SU + 6) qL_law_1393 kW_260 rfl (by decide +kernel) (c := 4) (by assumption) (by decide) rfl rfl rfl rfl (lbc (by omega)) (lbs (by omega)) ?_
  refine c_X4_pointCount hB ?_
  show zR E _ _ X 1396 _ _ _ _ _ _ _
  refine r_is_9_6 qL_law_1396 rfl rfl ?_
  refine r_aload_n qL_law_1398 rfl ?_
  refine r_cv0 (cu2 := CU + 1) (su2 := SU + 6) qL_law_1399 kW_180 rfl (by decide +kernel) (c := 4) (by assumption) (by decide) rfl rfl rfl rfl (lbc (by omega)) (lbs (by omega)) ?_
  refine c_X4_thrown w1 ?_
  rw [wA_s, pk_us]
  show zR E _ _ X 1402 _ _ _ _ _ _ _
  refine r_iload qL_law_1402 rfl ?_
  refine r_icmp_eq (t := 1409) qL_law_1404 (by decide) (fun hc1404 => ?_) (fun hc1404 => absurd hc1404 (fun h => h rfl))
  refine r_iload qL_law_1409 rfl ?_
  refine r_if_ne (t := 1426) qL_law_1411 (by decide) (fun hc1411 => ?_) (fun hc1411 => ?_)
  · refine r_goto (t := 3557) qL_law_1426 (by decide) ?_
    exact KN _ _ _ _ _ _ _ _ _ (by omega) (by omega) ⟨hS, _, _, _, _, hN.ask0 hS (hj1n _ jx)⟩
  · have hABC := c3_z0 hc1411
    refine r_aload_n qL_law_1414 rfl ?_
    refine r_iconst (v := nI 0) qL_law_1415 (by decide) ?_
    refine r_lald qL_law_1416 (by assumption) (in_0 o1.2) ?_
    refine r_iload qL_law_1417 rfl ?_
    refine r_i2l qL_law_1419 ?_
    refine r_lcmp qL_law_1420 ?_
    refine r_if_eq (t := 1426) qL_law_1421 (by decide) (fun hc1421 => ?_) (fun hc1421 => absurd hc1421 (fun h => h ((lg_cmp_eq _ _).mpr ((hj1 hABC).trans (by rw [if_pos (by first | exact hABC.1 | exact ⟨hABC.1, hABC.2.1⟩ | exact hABC)])))))
    refine r_goto (t := 3557) qL_law_1426 (by decide) ?_
    exact KN _ _ _ _ _ _ _ _ _ (by omega) (by omega) ⟨hS, _, _, _, _, hN.ask0 hS (hj1n _ jx)⟩
theorem lc_24 {E : Ev} {Z : Fx → State → Prop} {X : Fx} {g : Sh} {i : Ni} {j : Nj} {CU SU q bb L0 : Nat} {xs : Nat → Int32} {c rd tx ur sl sf sb : Nat} {A : Nat → Nat → Nat} {x n d b p s o ol : Nat} (hX : zScr E X bb L0 xs) (hq : q + 6 ≤ L0) (hL : L0 ≤ 3072) (hCU : CU + 14 ≤ 601024) (hSU : SU + 1046 ≤ 7293034) (hI : iInv g i j c rd tx ur sl sf sb A x n d b p s o ol) (KN : lawN E Z X CU SU q bb c rd tx ur sl sf sb A x n d b p s o ol) : zR E mL_law Z X 1429 [.ref (bb + 1), .ref c, .ref x, .ref ol, .int (nI q), zJ, zJ, zJ, zJ] [] g i j CU SU := by
  obtain ⟨hS, u, w, L, O, hN⟩ := hI
  have hY := hS.y
  have hW := hS.ww
  have hX3 : zX3 g c (A 0) := hY.x
  have hB : zB g i x n d b p s o := ⟨hW, hS.r3, hN.1.1⟩
  have hH : zH i (A 0) (i n) := hN.1.2.1
  have w1 := hW.1
  have x1 := hS.kc
  have o1 := hS.oo
  have o11 := o1.1
  have jx := hS.jx
  refine r_aload_n qL_law_1429 rfl ?_
  refine r_aload_n qL_law_1430 rfl ?_
  refine r_iload qL_law_1431 rfl ?_
  refine r_iconst (v := nI 1) qL_law_1433 (by decide) ?_
  first | with_reducible refine r_iaddN qL_law_1434 ?_ | refine r_iadd qL_law_1434 ?_
  refine r_sld hX qL_law_1435 (by omega) hL ?_
  refine r_aload_n qL_law_1436 rfl ?_
  refine r_iload qL_law_1437 rfl ?_
  refine r_iconst (v := nI 2) qL_law_1439 (by decide) ?_
  first | with_reducible refine r_iaddN qL_law_1440 ?_ | refine r_iadd qL_law_1440 ?_
  refine r_sld hX qL_law_1441 (by omega) hL ?_
  refine r_aload_n qL_law_1442 rfl ?_
  refine r_cH4 (cu2 := CU + 2) (su2 := SU + 12) qL_law_1443 kW_261 rfl (by decide +kernel) rfl rfl rfl (lbc (by omega)) (lbs (by omega)) ?_
  refine c_L_pointDegrees x1 (fun K1 hK1 => c_X3_pointDegrees hX3 hH (hK1 _ _ _ _ (lk3 o1 (by first | exact Or.inr rfl | exact Or.inl trivial) (by first | exact Or.inr rfl | exact Or.inl trivial) (by first | exact Or.inr rfl | exact Or.inl trivial) (fun j1 hj1 hj1n => ?_))))
  show zR E _ _ X 1446 _ _ _ _ _ _ _
  refine r_is_9_5 qL_law_1446 rfl rfl ?_
  refine r_aload_n qL_law_1448 rfl ?_
  refine r_aload_n qL_law_1449 rfl ?_
  refine r_iload qL_law_1450 rfl ?_
  refine r_iconst (v := nI 1) qL_law_1452 (by decide) ?_
  first | with_reducible refine r_iaddN qL_law_1453 ?_ | refine r_iadd qL_law_1453 ?_
  refine r_sld hX qL_law_1454 (by omega) hL ?_
  refine r_aload_n qL_law_1455 rfl ?_
  refine r_iload qL_law_1456 rfl ?_
  refine r_iconst (v := nI 2) qL_law_1458 (by decide) ?_
  first | with_reducible refine r_iaddN qL_law_1459 ?_ | refine r_iadd qL_law_1459 ?_
  refine r_sld hX qL_law_1460 (by omega) hL ?_
  refine r_cv2 (cu2 := CU + 2) (su2 := SU + 12) qL_law_1461 kW_263 rfl (by decide +kernel) (c := 4) (by assumption) (by decide) rfl rfl rfl rfl (lbc (by omega)) (lbs (by omega)) ?_
  refine c_X4_pointDegrees hB ?_
  show zR E _ _ X 1464 _ _ _ _ _ _ _
  refine r_is_9_6 qL_law_1464 rfl rfl ?_
  refine r_aload_n qL_law_1466 rfl ?_
  refine r_cv0 (cu2 := CU + 2) (su2 := SU + 12) qL_law_1467 kW_180 rfl (by decide +kernel) (c := 4) (by assumption) (by decide) rfl rfl rfl rfl (lbc (by omega)) (lbs (by omega)) ?_
  refine c_X4_thrown w1 ?_
  rw [wA_s, pk_us]
  show zR E _ _ X 1470 _ _ _ _ _ _ _
  refine r_iload qL_law_1470 rfl ?_
  refine r_icmp_eq (t := 1477) qL_law_1472 (by decide) (fun hc1472 => ?_) (fun hc1472 => absurd hc1472 (fun h => h rfl))
  refine r_iload qL_law_1477 rfl ?_
  refine r_if_ne (t := 1494) qL_law_1479 (by decide) (fun hc1479 => ?_) (fun hc1479 => ?_)
  · refine r_goto (t := 3557) qL_law_1494 (by decide) ?_
    exact KN _ _ _ _ _ _ _ _ _ (by omega) (by omega) ⟨hS, _, _, _, _, hN.ask0 hS (hj1n _ jx)⟩
  · have hABC := c3_z0 hc1479
    refine r_aload_n qL_law_1482 rfl ?_
    refine r_iconst (v := nI 0) qL_law_1483 (by decide) ?_
    refine r_lald qL_law_1484 (by assumption) (in_0 o1.2) ?_
    refine r_iload qL_law_1485 rfl ?_
    refine r_i2l qL_law_1487 ?_
    refine r_lcmp qL_law_1488 ?_
    refine r_if_eq (t := 1494) qL_law_1489 (by decide) (fun hc1489 => ?_) (fun hc1489 => absurd hc1489 (fun h => h ((lg_cmp_eq _ _).mpr ((hj1 hABC).trans (by rw [if_pos (by first | exact hABC.1 | exact ⟨hABC.1, hABC.2.1⟩ | exact hABC)])))))
    refine r_goto (t := 3557) qL_law_1494 (by decide) ?_
    exact KN _ _ _ _ _ _ _ _ _ (by omega) (by omega) ⟨hS, _, _, _, _, hN.ask0 hS (hj1n _ jx)⟩
theorem lc_25 {E : Ev} {Z : Fx → State → Prop} {X : Fx} {g : Sh} {i : Ni} {j : Nj} {CU SU q bb L0 : Nat} {xs : Nat → Int32} {c rd tx ur sl sf sb : Nat} {A : Nat → Nat → Nat} {x n d b p s o ol : Nat} (hX : zScr E X bb L0 xs) (hq : q + 6 ≤ L0) (hL : L0 ≤ 3072) (hCU : CU + 14 ≤ 601024) (hSU : SU + 1046 ≤ 7293034) (hI : iInv g i j c rd tx ur sl sf sb A x n d b p s o ol) (KN : lawN E Z X CU SU q bb c rd tx ur sl sf sb A x n d b p s o ol) : zR E mL_law Z X 1497 [.ref (bb + 1), .ref c, .ref x, .ref ol, .int (nI q), zJ, zJ, zJ, zJ] [] g i j CU SU := by
  obtain ⟨hS, u, w, L, O, hN⟩ := hI
  have hY := hS.y
  have hW := hS.ww
  have hX3 : zX3 g c (A 0) := hY.x
  have hB : zB g i x n d b p s o := ⟨hW, hS.r3, hN.1.1⟩
  have hH : zH i (A 0) (i n) := hN.1.2.1
  have w1 := hW.1
  have x1 := hS.kc
  have o1 := hS.oo
  have o11 := o1.1
  have jx := hS.jx
  refine r_aload_n qL_law_1497 rfl ?_
  refine r_aload_n qL_law_1498 rfl ?_
  refine r_iload qL_law_1499 rfl ?_
  refine r_iconst (v := nI 1) qL_law_1501 (by decide) ?_
  first | with_reducible refine r_iaddN qL_law_1502 ?_ | refine r_iadd qL_law_1502 ?_
  refine r_sld hX qL_law_1503 (by omega) hL ?_
  refine r_aload_n qL_law_1504 rfl ?_
  refine r_iload qL_law_1505 rfl ?_
  refine r_iconst (v := nI 2) qL_law_1507 (by decide) ?_
  first | with_reducible refine r_iaddN qL_law_1508 ?_ | refine r_iadd qL_law_1508 ?_
  refine r_sld hX qL_law_1509 (by omega) hL ?_
  refine r_aload_n qL_law_1510 rfl ?_
  refine r_cH4 (cu2 := CU + 2) (su2 := SU + 12) qL_law_1511 kW_264 rfl (by decide +kernel) rfl rfl rfl (lbc (by omega)) (lbs (by omega)) ?_
  refine c_L_pointHeight x1 (fun K1 hK1 => c_X3_pointHeight hX3 hH (hK1 _ _ _ _ (lk3 o1 (by first | exact Or.inr rfl | exact Or.inl trivial) (by first | exact Or.inr rfl | exact Or.inl trivial) (by first | exact Or.inr rfl | exact Or.inl trivial) (fun j1 hj1 hj1n => ?_))))
  show zR E _ _ X 1514 _ _ _ _ _ _ _
  refine r_is_9_5 qL_law_1514 rfl rfl ?_
  refine r_aload_n qL_law_1516 rfl ?_
  refine r_aload_n qL_law_1517 rfl ?_
  refine r_iload qL_law_1518 rfl ?_
  refine r_iconst (v := nI 1) qL_law_1520 (by decide) ?_
  first | with_reducible refine r_iaddN qL_law_1521 ?_ | refine r_iadd qL_law_1521 ?_
  refine r_sld hX qL_law_1522 (by omega) hL ?_
  refine r_aload_n qL_law_1523 rfl ?_
  refine r_iload qL_law_1524 rfl ?_
  refine r_iconst (v := nI 2) qL_law_1526 (by decide) ?_
  first | with_reducible refine r_iaddN qL_law_1527 ?_ | refine r_iadd qL_law_1527 ?_
  refine r_sld hX qL_law_1528 (by omega) hL ?_
  refine r_cv2 (cu2 := CU + 2) (su2 := SU + 12) qL_law_1529 kW_266 rfl (by decide +kernel) (c := 4) (by assumption) (by decide) rfl rfl rfl rfl (lbc (by omega)) (lbs (by omega)) ?_
  refine c_X4_pointHeight hB ?_
  show zR E _ _ X 1532 _ _ _ _ _ _ _
  refine r_is_9_6 qL_law_1532 rfl rfl ?_
  refine r_aload_n qL_law_1534 rfl ?_
  refine r_cv0 (cu2 := CU + 2) (su2 := SU + 12) qL_law_1535 kW_180 rfl (by decide +kernel) (c := 4) (by assumption) (by decide) rfl rfl rfl rfl (lbc (by omega)) (lbs (by omega)) ?_
  refine c_X4_thrown w1 ?_
  rw [wA_s, pk_us]
  show zR E _ _ X 1538 _ _ _ _ _ _ _
  refine r_iload qL_law_1538 rfl ?_
  refine r_icmp_eq (t := 1545) qL_law_1540 (by decide) (fun hc1540 => ?_) (fun hc1540 => absurd hc1540 (fun h => h rfl))
  refine r_iload qL_law_1545 rfl ?_
  refine r_if_ne (t := 1562) qL_law_1547 (by decide) (fun hc1547 => ?_) (fun hc1547 => ?_)
  · refine r_goto (t := 3557) qL_law_1562 (by decide) ?_
    exact KN _ _ _ _ _ _ _ _ _ (by omega) (by omega) ⟨hS, _, _, _, _, hN.ask0 hS (hj1n _ jx)⟩
  · have hABC := c3_z0 hc1547
    refine r_aload_n qL_law_1550 rfl ?_
    refine r_iconst (v := nI 0) qL_law_1551 (by decide) ?_
    refine r_lald qL_law_1552 (by assumption) (in_0 o1.2) ?_
    refine r_iload qL_law_1553 rfl ?_
    refine r_i2l qL_law_1555 ?_
    refine r_lcmp qL_law_1556 ?_
    refine r_if_eq (t := 1562) qL_law_1557 (by decide) (fun hc1557 => ?_) (fun hc1557 => absurd hc1557 (fun h => h ((lg_cmp_eq _ _).mpr ((hj1 hABC).trans (by rw [if_pos (by first | exact hABC.1 | exact ⟨hABC.1, hABC.2.1⟩ | exact hABC)])))))
    refine r_goto (t := 3557) qL_law_1562 (by decide) ?_
    exact KN _ _ _ _ _ _ _ _ _ (by omega) (by omega) ⟨hS, _, _, _, _, hN.ask0 hS (hj1n _ jx)⟩
theorem lc_26 {E : Ev} {Z : Fx → State → Prop} {X : Fx} {g : Sh} {i : Ni} {j : Nj} {CU SU q bb L0 : Nat} {xs : Nat → Int32} {c rd tx ur sl sf sb : Nat} {A : Nat → Nat → Nat} {x n d b p s o ol : Nat} (hX : zScr E X bb L0 xs) (hq : q + 6 ≤ L0) (hL : L0 ≤ 3072) (hCU : CU + 14 ≤ 601024) (hSU : SU + 1046 ≤ 7293034) (hI : iInv g i j c rd tx ur sl sf sb A x n d b p s o ol) (KN : lawN E Z X CU SU q bb c rd tx ur sl sf sb A x n d b p s o ol) : zR E mL_law Z X 1565 [.ref (bb + 1), .ref c, .ref x, .ref ol, .int (nI q), zJ, zJ, zJ, zJ] [] g i j CU SU := by
  obtain ⟨hS, u, w, L, O, hN⟩ := hI
  have hY := hS.y
  have hW := hS.ww
  have hX3 : zX3 g c (A 0) := hY.x
  have hB : zB g i x n d b p s o := ⟨hW, hS.r3, hN.1.1⟩
  have hH : zH i (A 0) (i n) := hN.1.2.1
  have w1 := hW.1
  have x1 := hS.kc
  have o1 := hS.oo
  have o11 := o1.1
  have jx := hS.jx
  refine r_aload_n qL_law_1565 rfl ?_
  refine r_aload_n qL_law_1566 rfl ?_
  refine r_iload qL_law_1567 rfl ?_
  refine r_iconst (v := nI 1) qL_law_1569 (by decide) ?_
  first | with_reducible refine r_iaddN qL_law_1570 ?_ | refine r_iadd qL_law_1570 ?_
  refine r_sld hX qL_law_1571 (by omega) hL ?_
  refine r_aload_n qL_law_1572 rfl ?_
  refine r_cH3 (cu2 := CU + 1) (su2 := SU + 6) qL_law_1573 kW_267 rfl (by decide +kernel) rfl rfl rfl (lbc (by omega)) (lbs (by omega)) ?_
  refine c_L_hasScale x1 (fun K1 hK1 => c_X3_hasScale hX3 hH (hK1 _ _ _ _ (lkb o1 rfl (fun j1 hj1 hj1n => ?_))))
  show zR E _ _ X 1576 _ _ _ _ _ _ _
  refine r_is_9_5 qL_law_1576 rfl rfl ?_
  refine r_aload_n qL_law_1578 rfl ?_
  refine r_aload_n qL_law_1579 rfl ?_
  refine r_iload qL_law_1580 rfl ?_
  refine r_iconst (v := nI 1) qL_law_1582 (by decide) ?_
  first | with_reducible refine r_iaddN qL_law_1583 ?_ | refine r_iadd qL_law_1583 ?_
  refine r_sld hX qL_law_1584 (by omega) hL ?_
  refine r_cv1 (cu2 := CU + 1) (su2 := SU + 6) qL_law_1585 kW_269 rfl (by decide +kernel) (c := 4) (by assumption) (by decide) rfl rfl rfl rfl (lbc (by omega)) (lbs (by omega)) ?_
  refine c_X4_hasScale hB ?_
  show zR E _ _ X 1588 _ _ _ _ _ _ _
  refine r_is_9_6 qL_law_1588 rfl rfl ?_
  refine r_aload_n qL_law_1590 rfl ?_
  refine r_cv0 (cu2 := CU + 1) (su2 := SU + 6) qL_law_1591 kW_180 rfl (by decide +kernel) (c := 4) (by assumption) (by decide) rfl rfl rfl rfl (lbc (by omega)) (lbs (by omega)) ?_
  refine c_X4_thrown w1 ?_
  rw [wA_s, pk_us]
  show zR E _ _ X 1594 _ _ _ _ _ _ _
  refine r_iload qL_law_1594 rfl ?_
  refine r_icmp_eq (t := 1601) qL_law_1596 (by decide) (fun hc1596 => ?_) (fun hc1596 => absurd hc1596 (fun h => h rfl))
  refine r_iload qL_law_1601 rfl ?_
  refine r_if_ne (t := 1625) qL_law_1603 (by decide) (fun hc1603 => ?_) (fun hc1603 => ?_)
  · refine r_goto (t := 3557) qL_law_1625 (by decide) ?_
    exact KN _ _ _ _ _ _ _ _ _ (by omega) (by omega) ⟨hS, _, _, _, _, hN.ask0 hS (hj1n _ jx)⟩
  · have hABC := c3_z0 hc1603
    rw [if_pos (by first | exact hABC.1 | exact ⟨hABC.1, hABC.2.1⟩ | exact hABC)]
    refine r_aload_n qL_law_1606 rfl ?_
    refine r_iconst (v := nI 0) qL_law_1607 (by decide) ?_
    refine r_lald qL_law_1608 (by assumption) (in_0 o1.2) ?_
    refine r_iload qL_law_1609 rfl ?_
    refine r_if_eq (t := 1618) qL_law_1611 (by decide) (fun hc1611 => ?_) (fun hc1611 => ?_)
    · refine r_lconst (v := 0) qL_law_1618 (by decide) ?_
      refine r_lcmp qL_law_1619 ?_
      refine r_if_eq (t := 1625) qL_law_1620 (by decide) (fun hc1620 => ?_) (fun hc1620 => absurd hc1620 (fun h => h ((lg_cmp_eq _ _).mpr (by first | exact bl_0 (hj1 hABC) hc1611 | exact bl_1 (zb_01 _) (hj1 hABC) hc1611))))
      refine r_goto (t := 3557) qL_law_1625 (by decide) ?_
      exact KN _ _ _ _ _ _ _ _ _ (by omega) (by omega) ⟨hS, _, _, _, _, hN.ask0 hS (hj1n _ jx)⟩
    · refine r_lconst (v := 1) qL_law_1614 (by decide) ?_
      refine r_goto (t := 1619) qL_law_1615 (by decide) ?_
      refine r_lcmp qL_law_1619 ?_
      refine r_if_eq (t := 1625) qL_law_1620 (by decide) (fun hc1620 => ?_) (fun hc1620 => absurd hc1620 (fun h => h ((lg_cmp_eq _ _).mpr (by first | exact bl_0 (hj1 hABC) hc1611 | exact bl_1 (zb_01 _) (hj1 hABC) hc1611))))
      refine r_goto (t := 3557) qL_law_1625 (by decide) ?_
      exact KN _ _ _ _ _ _ _ _ _ (by omega) (by omega) ⟨hS, _, _, _, _, hN.ask0 hS (hj1n _ jx)⟩
theorem lc_27 {E : Ev} {Z : Fx → State → Prop} {X : Fx} {g : Sh} {i : Ni} {j : Nj} {CU SU q bb L0 : Nat} {xs : Nat → Int32} {c rd tx ur sl sf sb : Nat} {A : Nat → Nat → Nat} {x n d b p s o ol : Nat} (hX : zScr E X bb L0 xs) (hq : q + 6 ≤ L0) (hL : L0 ≤ 3072) (hCU : CU + 14 ≤ 601024) (hSU : SU + 1046 ≤ 7293034) (hI : iInv g i j c rd tx ur sl sf sb A x n d b p s o ol) (KN : lawN E Z X CU SU q bb c rd tx ur sl sf sb A x n d b p s o ol) : zR E mL_law Z X 1628 [.ref (bb + 1), .ref c, .ref x, .ref ol, .int (nI q), zJ, zJ, zJ, zJ] [] g i j CU SU := by
  obtain ⟨hS, u, w, L, O, hN⟩ := hI
  have hY := hS.y
  have hW := hS.ww
  have hX3 : zX3 g c (A 0) := hY.x
  have hB : zB g i x n d b p s o := ⟨hW, hS.r3, hN.1.1⟩
  have hH : zH i (A 0) (i n) := hN.1.2.1
  have w1 := hW.1
  have x1 := hS.kc
  have o1 := hS.oo
  have o11 := o1.1
  have jx := hS.jx
  refine r_aload_n qL_law_1628 rfl ?_
  refine r_aload_n qL_law_1629 rfl ?_
  refine r_iload qL_law_1630 rfl ?_
  refine r_iconst (v := nI 1) qL_law_1632 (by decide) ?_
  first | with_reducible refine r_iaddN qL_law_1633 ?_ | refine r_iadd qL_law_1633 ?_
  refine r_sld hX qL_law_1634 (by omega) hL ?_
  refine r_aload_n qL_law_1635 rfl ?_
  refine r_cH3 (cu2 := CU + 2) (su2 := SU + 12) qL_law_1636 kW_270 rfl (by decide +kernel) rfl rfl rfl (lbc (by omega)) (lbs (by omega)) ?_
  refine c_L_reading x1 (fun K1 hK1 => c_X3_reading hX3 hH (hK1 _ _ _ _ (lk3 o1 (by first | exact Or.inr rfl | exact Or.inl trivial) (by first | exact Or.inr rfl | exact Or.inl trivial) (by first | exact Or.inr rfl | exact Or.inl trivial) (fun j1 hj1 hj1n => ?_))))
  show zR E _ _ X 1639 _ _ _ _ _ _ _
  refine r_is_9_5 qL_law_1639 rfl rfl ?_
  refine r_aload_n qL_law_1641 rfl ?_
  refine r_aload_n qL_law_1642 rfl ?_
  refine r_iload qL_law_1643 rfl ?_
  refine r_iconst (v := nI 1) qL_law_1645 (by decide) ?_
  first | with_reducible refine r_iaddN qL_law_1646 ?_ | refine r_iadd qL_law_1646 ?_
  refine r_sld hX qL_law_1647 (by omega) hL ?_
  refine r_cv1 (cu2 := CU + 2) (su2 := SU + 12) qL_law_1648 kW_272 rfl (by decide +kernel) (c := 4) (by assumption) (by decide) rfl rfl rfl rfl (lbc (by omega)) (lbs (by omega)) ?_
  refine c_X4_reading hB ?_
  show zR E _ _ X 1651 _ _ _ _ _ _ _
  refine r_is_9_6 qL_law_1651 rfl rfl ?_
  refine r_aload_n qL_law_1653 rfl ?_
  refine r_cv0 (cu2 := CU + 2) (su2 := SU + 12) qL_law_1654 kW_180 rfl (by decide +kernel) (c := 4) (by assumption) (by decide) rfl rfl rfl rfl (lbc (by omega)) (lbs (by omega)) ?_
  refine c_X4_thrown w1 ?_
  rw [wA_s, pk_us]
  show zR E _ _ X 1657 _ _ _ _ _ _ _
  refine r_iload qL_law_1657 rfl ?_
  refine r_icmp_eq (t := 1664) qL_law_1659 (by decide) (fun hc1659 => ?_) (fun hc1659 => absurd hc1659 (fun h => h rfl))
  refine r_iload qL_law_1664 rfl ?_
  refine r_if_ne (t := 1681) qL_law_1666 (by decide) (fun hc1666 => ?_) (fun hc1666 => ?_)
  · refine r_goto (t := 3557) qL_law_1681 (by decide) ?_
    exact KN _ _ _ _ _ _ _ _ _ (by omega) (by omega) ⟨hS, _, _, _, _, hN.ask0 hS (hj1n _ jx)⟩
  · have hABC := c3_z0 hc1666
    refine r_aload_n qL_law_1669 rfl ?_
    refine r_iconst (v := nI 0) qL_law_1670 (by decide) ?_
    refine r_lald qL_law_1671 (by assumption) (in_0 o1.2) ?_
    refine r_iload qL_law_1672 rfl ?_
    refine r_i2l qL_law_1674 ?_
    refine r_lcmp qL_law_1675 ?_
    refine r_if_eq (t := 1681) qL_law_1676 (by decide) (fun hc1676 => ?_) (fun hc1676 => absurd hc1676 (fun h => h ((lg_cmp_eq _ _).mpr ((hj1 hABC).trans (by rw [if_pos (by first | exact hABC.1 | exact ⟨hABC.1, hABC.2.1⟩ | exact hABC)])))))
    refine r_goto (t := 3557) qL_law_1681 (by decide) ?_
    exact KN _ _ _ _ _ _ _ _ _ (by omega) (by omega) ⟨hS, _, _, _, _, hN.ask0 hS (hj1n _ jx)⟩
theorem lc_28 {E : Ev} {Z : Fx → State → Prop} {X : Fx} {g : Sh} {i : Ni} {j : Nj} {CU SU q bb L0 : Nat} {xs : Nat → Int32} {c rd tx ur sl sf sb : Nat} {A : Nat → Nat → Nat} {x n d b p s o ol : Nat} (hX : zScr E X bb L0 xs) (hq : q + 6 ≤ L0) (hL : L0 ≤ 3072) (hCU : CU + 14 ≤ 601024) (hSU : SU + 1046 ≤ 7293034) (hI : iInv g i j c rd tx ur sl sf sb A x n d b p s o ol) (KN : lawN E Z X CU SU q bb c rd tx ur sl sf sb A x n d b p s o ol) : zR E mL_law Z X 1684 [.ref (bb + 1), .ref c, .ref x, .ref ol, .int (nI q), zJ, zJ, zJ, zJ] [] g i j CU SU := by
  obtain ⟨hS, u, w, L, O, hN⟩ := hI
  have hY := hS.y
  have hW := hS.ww
  have hX3 : zX3 g c (A 0) := hY.x
  have hB : zB g i x n d b p s o := ⟨hW, hS.r3, hN.1.1⟩
  have hH : zH i (A 0) (i n) := hN.1.2.1
  have w1 := hW.1
  have x1 := hS.kc
  have o1 := hS.oo
  have o11 := o1.1
  have jx := hS.jx
  refine r_aload_n qL_law_1684 rfl ?_
  refine r_aload_n qL_law_1685 rfl ?_
  refine r_iload qL_law_1686 rfl ?_
  refine r_iconst (v := nI 1) qL_law_1688 (by decide) ?_
  first | with_reducible refine r_iaddN qL_law_1689 ?_ | refine r_iadd qL_law_1689 ?_
  refine r_sld hX qL_law_1690 (by omega) hL ?_
  refine r_aload_n qL_law_1691 rfl ?_
  refine r_cH3 (cu2 := CU + 2) (su2 := SU + 12) qL_law_1692 kW_273 rfl (by decide +kernel) rfl rfl rfl (lbc (by omega)) (lbs (by omega)) ?_
  refine c_L_readingError x1 (fun K1 hK1 => c_X3_readingError hX3 hH (hK1 _ _ _ _ (lk3 o1 (by first | exact Or.inr rfl | exact Or.inl trivial) (by first | exact Or.inr rfl | exact Or.inl trivial) (by first | exact Or.inr rfl | exact Or.inl trivial) (fun j1 hj1 hj1n => ?_))))
  show zR E _ _ X 1695 _ _ _ _ _ _ _
  refine r_is_9_5 qL_law_1695 rfl rfl ?_
  refine r_aload_n qL_law_1697 rfl ?_
  refine r_aload_n qL_law_1698 rfl ?_
  refine r_iload qL_law_1699 rfl ?_
  refine r_iconst (v := nI 1) qL_law_1701 (by decide) ?_
  first | with_reducible refine r_iaddN qL_law_1702 ?_ | refine r_iadd qL_law_1702 ?_
  refine r_sld hX qL_law_1703 (by omega) hL ?_
  refine r_cv1 (cu2 := CU + 2) (su2 := SU + 12) qL_law_1704 kW_275 rfl (by decide +kernel) (c := 4) (by assumption) (by decide) rfl rfl rfl rfl (lbc (by omega)) (lbs (by omega)) ?_
  refine c_X4_readingError hB ?_
  show zR E _ _ X 1707 _ _ _ _ _ _ _
  refine r_is_9_6 qL_law_1707 rfl rfl ?_
  refine r_aload_n qL_law_1709 rfl ?_
  refine r_cv0 (cu2 := CU + 2) (su2 := SU + 12) qL_law_1710 kW_180 rfl (by decide +kernel) (c := 4) (by assumption) (by decide) rfl rfl rfl rfl (lbc (by omega)) (lbs (by omega)) ?_
  refine c_X4_thrown w1 ?_
  rw [wA_s, pk_us]
  show zR E _ _ X 1713 _ _ _ _ _ _ _
  refine r_iload qL_law_1713 rfl ?_
  refine r_icmp_eq (t := 1720) qL_law_1715 (by decide) (fun hc1715 => ?_) (fun hc1715 => absurd hc1715 (fun h => h rfl))
  refine r_iload qL_law_1720 rfl ?_
  refine r_if_ne (t := 1737) qL_law_1722 (by decide) (fun hc1722 => ?_) (fun hc1722 => ?_)
  · refine r_goto (t := 3557) qL_law_1737 (by decide) ?_
    exact KN _ _ _ _ _ _ _ _ _ (by omega) (by omega) ⟨hS, _, _, _, _, hN.ask0 hS (hj1n _ jx)⟩
  · have hABC := c3_z0 hc1722
    refine r_aload_n qL_law_1725 rfl ?_
    refine r_iconst (v := nI 0) qL_law_1726 (by decide) ?_
    refine r_lald qL_law_1727 (by assumption) (in_0 o1.2) ?_
    refine r_iload qL_law_1728 rfl ?_
    refine r_i2l qL_law_1730 ?_
    refine r_lcmp qL_law_1731 ?_
    refine r_if_eq (t := 1737) qL_law_1732 (by decide) (fun hc1732 => ?_) (fun hc1732 => absurd hc1732 (fun h => h ((lg_cmp_eq _ _).mpr ((hj1 hABC).trans (by rw [if_pos (by first | exact hABC.1 | exact ⟨hABC.1, hABC.2.1⟩ | exact hABC)])))))
    refine r_goto (t := 3557) qL_law_1737 (by decide) ?_
    exact KN _ _ _ _ _ _ _ _ _ (by omega) (by omega) ⟨hS, _, _, _, _, hN.ask0 hS (hj1n _ jx)⟩
theorem lc_29 {E : Ev} {Z : Fx → State → Prop} {X : Fx} {g : Sh} {i : Ni} {j : Nj} {CU SU q bb L0 : Nat} {xs : Nat → Int32} {c rd tx ur sl sf sb : Nat} {A : Nat → Nat → Nat} {x n d b p s o ol : Nat} (hX : zScr E X bb L0 xs) (hq : q + 6 ≤ L0) (hL : L0 ≤ 3072) (hCU : CU + 14 ≤ 601024) (hSU : SU + 1046 ≤ 7293034) (hI : iInv g i j c rd tx ur sl sf sb A x n d b p s o ol) (KN : lawN E Z X CU SU q bb c rd tx ur sl sf sb A x n d b p s o ol) : zR E mL_law Z X 1740 [.ref (bb + 1), .ref c, .ref x, .ref ol, .int (nI q), zJ, zJ, zJ, zJ] [] g i j CU SU := by
  obtain ⟨hS, u, w, L, O, hN⟩ := hI
  have hY := hS.y
  have hW := hS.ww
  have hX3 : zX3 g c (A 0) := hY.x
  have hB : zB g i x n d b p s o := ⟨hW, hS.r3, hN.1.1⟩
  have hH : zH i (A 0) (i n) := hN.1.2.1
  have w1 := hW.1
  have x1 := hS.kc
  have o1 := hS.oo
  have o11 := o1.1
  have jx := hS.jx
  refine r_aload_n qL_law_1740 rfl ?_
  refine r_aload_n qL_law_1741 rfl ?_
  refine r_iload qL_law_1742 rfl ?_
  refine r_iconst (v := nI 1) qL_law_1744 (by decide) ?_
  first | with_reducible refine r_iaddN qL_law_1745 ?_ | refine r_iadd qL_law_1745 ?_
  refine r_sld hX qL_law_1746 (by omega) hL ?_
  refine r_aload_n qL_law_1747 rfl ?_
  refine r_iload qL_law_1748 rfl ?_
  refine r_iconst (v := nI 2) qL_law_1750 (by decide) ?_
  first | with_reducible refine r_iaddN qL_law_1751 ?_ | refine r_iadd qL_law_1751 ?_
  refine r_sld hX qL_law_1752 (by omega) hL ?_
  refine r_aload_n qL_law_1753 rfl ?_
  refine r_cH4 (cu2 := CU + 3) (su2 := SU + 18) qL_law_1754 kW_276 rfl (by decide +kernel) rfl rfl rfl (lbc (by omega)) (lbs (by omega)) ?_
  refine c_L_scaleAt x1 (fun K1 hK1 => c_X3_scaleAt hX3 hH (hK1 _ _ _ _ (lk3 o1 (by first | exact Or.inr rfl | exact Or.inl trivial) (by first | exact Or.inr rfl | exact Or.inl trivial) (by first | exact Or.inr rfl | exact Or.inl trivial) (fun j1 hj1 hj1n => ?_))))
  show zR E _ _ X 1757 _ _ _ _ _ _ _
  refine r_is_9_5 qL_law_1757 rfl rfl ?_
  refine r_aload_n qL_law_1759 rfl ?_
  refine r_aload_n qL_law_1760 rfl ?_
  refine r_iload qL_law_1761 rfl ?_
  refine r_iconst (v := nI 1) qL_law_1763 (by decide) ?_
  first | with_reducible refine r_iaddN qL_law_1764 ?_ | refine r_iadd qL_law_1764 ?_
  refine r_sld hX qL_law_1765 (by omega) hL ?_
  refine r_aload_n qL_law_1766 rfl ?_
  refine r_iload qL_law_1767 rfl ?_
  refine r_iconst (v := nI 2) qL_law_1769 (by decide) ?_
  first | with_reducible refine r_iaddN qL_law_1770 ?_ | refine r_iadd qL_law_1770 ?_
  refine r_sld hX qL_law_1771 (by omega) hL ?_
  refine r_cv2 (cu2 := CU + 3) (su2 := SU + 18) qL_law_1772 kW_278 rfl (by decide +kernel) (c := 4) (by assumption) (by decide) rfl rfl rfl rfl (lbc (by omega)) (lbs (by omega)) ?_
  refine c_X4_scaleAt hB ?_
  show zR E _ _ X 1775 _ _ _ _ _ _ _
  refine r_is_9_6 qL_law_1775 rfl rfl ?_
  refine r_aload_n qL_law_1777 rfl ?_
  refine r_cv0 (cu2 := CU + 3) (su2 := SU + 18) qL_law_1778 kW_180 rfl (by decide +kernel) (c := 4) (by assumption) (by decide) rfl rfl rfl rfl (lbc (by omega)) (lbs (by omega)) ?_
  refine c_X4_thrown w1 ?_
  rw [wA_s, pk_us]
  show zR E _ _ X 1781 _ _ _ _ _ _ _
  refine r_iload qL_law_1781 rfl ?_
  refine r_icmp_eq (t := 1788) qL_law_1783 (by decide) (fun hc1783 => ?_) (fun hc1783 => absurd hc1783 (fun h => h rfl))
  refine r_iload qL_law_1788 rfl ?_
  refine r_if_ne (t := 1805) qL_law_1790 (by decide) (fun hc1790 => ?_) (fun hc1790 => ?_)
  · refine r_goto (t := 3557) qL_law_1805 (by decide) ?_
    exact KN _ _ _ _ _ _ _ _ _ (by omega) (by omega) ⟨hS, _, _, _, _, hN.ask0 hS (hj1n _ jx)⟩
  · have hABC := c3_z0 hc1790
    refine r_aload_n qL_law_1793 rfl ?_
    refine r_iconst (v := nI 0) qL_law_1794 (by decide) ?_
    refine r_lald qL_law_1795 (by assumption) (in_0 o1.2) ?_
    refine r_iload qL_law_1796 rfl ?_
    refine r_i2l qL_law_1798 ?_
    refine r_lcmp qL_law_1799 ?_
    refine r_if_eq (t := 1805) qL_law_1800 (by decide) (fun hc1800 => ?_) (fun hc1800 => absurd hc1800 (fun h => h ((lg_cmp_eq _ _).mpr ((hj1 hABC).trans (by rw [if_pos (by first | exact hABC.1 | exact ⟨hABC.1, hABC.2.1⟩ | exact hABC)])))))
    refine r_goto (t := 3557) qL_law_1805 (by decide) ?_
    exact KN _ _ _ _ _ _ _ _ _ (by omega) (by omega) ⟨hS, _, _, _, _, hN.ask0 hS (hj1n _ jx)⟩
theorem lc_30 {E : Ev} {Z : Fx → State → Prop} {X : Fx} {g : Sh} {i : Ni} {j : Nj} {CU SU q bb L0 : Nat} {xs : Nat → Int32} {c rd tx ur sl sf sb : Nat} {A : Nat → Nat → Nat} {x n d b p s o ol : Nat} (hX : zScr E X bb L0 xs) (hq : q + 6 ≤ L0) (hL : L0 ≤ 3072) (hCU : CU + 14 ≤ 601024) (hSU : SU + 1046 ≤ 7293034) (hI : iInv g i j c rd tx ur sl sf sb A x n d b p s o ol) (KN : lawN E Z X CU SU q bb c rd tx ur sl sf sb A x n d b p s o ol) : zR E mL_law Z X 1808 [.ref (bb + 1), .ref c, .ref x, .ref ol, .int (nI q), zJ, zJ, zJ, zJ] [] g i j CU SU := by
  obtain ⟨hS, u, w, L, O, hN⟩ := hI
  have hY := hS.y
  have hW := hS.ww
  have hX3 : zX3 g c (A 0) := hY.x
  have hB : zB g i x n d b p s o := ⟨hW, hS.r3, hN.1.1⟩
  have hH : zH i (A 0) (i n) := hN.1.2.1
  have w1 := hW.1
  have x1 := hS.kc
  have o1 := hS.oo
  have o11 := o1.1
  have jx := hS.jx
  refine r_aload_n qL_law_1808 rfl ?_
  refine r_aload_n qL_law_1809 rfl ?_
  refine r_iload qL_law_1810 rfl ?_
  refine r_iconst (v := nI 1) qL_law_1812 (by decide) ?_
  first | with_reducible refine r_iaddN qL_law_1813 ?_ | refine r_iadd qL_law_1813 ?_
  refine r_sld hX qL_law_1814 (by omega) hL ?_
  refine r_aload_n qL_law_1815 rfl ?_
  refine r_cH3 (cu2 := CU + 2) (su2 := SU + 12) qL_law_1816 kW_279 rfl (by decide +kernel) rfl rfl rfl (lbc (by omega)) (lbs (by omega)) ?_
  refine c_L_fitError x1 (fun K1 hK1 => c_X3_fitError hX3 hH (hK1 _ _ _ _ (lk3 o1 (by first | exact Or.inr rfl | exact Or.inl trivial) (by first | exact Or.inr rfl | exact Or.inl trivial) (by first | exact Or.inr rfl | exact Or.inl trivial) (fun j1 hj1 hj1n => ?_))))
  show zR E _ _ X 1819 _ _ _ _ _ _ _
  refine r_is_9_5 qL_law_1819 rfl rfl ?_
  refine r_aload_n qL_law_1821 rfl ?_
  refine r_aload_n qL_law_1822 rfl ?_
  refine r_iload qL_law_1823 rfl ?_
  refine r_iconst (v := nI 1) qL_law_1825 (by decide) ?_
  first | with_reducible refine r_iaddN qL_law_1826 ?_ | refine r_iadd qL_law_1826 ?_
  refine r_sld hX qL_law_1827 (by omega) hL ?_
  refine r_cv1 (cu2 := CU + 2) (su2 := SU + 12) qL_law_1828 kW_281 rfl (by decide +kernel) (c := 4) (by assumption) (by decide) rfl rfl rfl rfl (lbc (by omega)) (lbs (by omega)) ?_
  refine c_X4_fitError hB ?_
  show zR E _ _ X 1831 _ _ _ _ _ _ _
  refine r_is_9_6 qL_law_1831 rfl rfl ?_
  refine r_aload_n qL_law_1833 rfl ?_
  refine r_cv0 (cu2 := CU + 2) (su2 := SU + 12) qL_law_1834 kW_180 rfl (by decide +kernel) (c := 4) (by assumption) (by decide) rfl rfl rfl rfl (lbc (by omega)) (lbs (by omega)) ?_
  refine c_X4_thrown w1 ?_
  rw [wA_s, pk_us]
  show zR E _ _ X 1837 _ _ _ _ _ _ _
  refine r_iload qL_law_1837 rfl ?_
  refine r_icmp_eq (t := 1844) qL_law_1839 (by decide) (fun hc1839 => ?_) (fun hc1839 => absurd hc1839 (fun h => h rfl))
  refine r_iload qL_law_1844 rfl ?_
  refine r_if_ne (t := 1861) qL_law_1846 (by decide) (fun hc1846 => ?_) (fun hc1846 => ?_)
  · refine r_goto (t := 3557) qL_law_1861 (by decide) ?_
    exact KN _ _ _ _ _ _ _ _ _ (by omega) (by omega) ⟨hS, _, _, _, _, hN.ask0 hS (hj1n _ jx)⟩
  · have hABC := c3_z0 hc1846
    refine r_aload_n qL_law_1849 rfl ?_
    refine r_iconst (v := nI 0) qL_law_1850 (by decide) ?_
    refine r_lald qL_law_1851 (by assumption) (in_0 o1.2) ?_
    refine r_iload qL_law_1852 rfl ?_
    refine r_i2l qL_law_1854 ?_
    refine r_lcmp qL_law_1855 ?_
    refine r_if_eq (t := 1861) qL_law_1856 (by decide) (fun hc1856 => ?_) (fun hc1856 => absurd hc1856 (fun h => h ((lg_cmp_eq _ _).mpr ((hj1 hABC).trans (by rw [if_pos (by first | exact hABC.1 | exact ⟨hABC.1, hABC.2.1⟩ | exact hABC)])))))
    refine r_goto (t := 3557) qL_law_1861 (by decide) ?_
    exact KN _ _ _ _ _ _ _ _ _ (by omega) (by omega) ⟨hS, _, _, _, _, hN.ask0 hS (hj1n _ jx)⟩

