/-! ===== P67: all ===== -/
def hP (N : Nat → Int32) (k : Nat) (h : Int64) : Nat → Int64
  | 0 => h
  | p + 1 => 1009 * hP N k h p + 1000 * (sDeg N k p).toInt64 + (sHgt N k p).toInt64
def hT0 (N : Nat → Int32) (k : Nat) (h : Int64) : Int64 := 1000003 * h + 1000000 * (N (42 + 21 * k + 4)).toInt64 + 100 * (N (42 + 21 * k + 5)).toInt64 + 10 * (N (42 + 21 * k + 7)).toInt64 + (zb (N (42 + 21 * k + 6) = nI 1)).toInt64
def hTb (N : Nat → Int32) : Nat → Int64
  | 0 => 7
  | k + 1 => hP N k (hT0 N k (hTb N k)) (sMany N k)
def hSp (N : Nat → Int32) (h : Int64) : Nat → Int64
  | 0 => h
  | s + 1 => 1013 * hSp N h s + (N (10 + 4 * s + 3)).toInt64
def hAll (E : Ev) (N : Nat → Int32) : Int64 := 1019 * hSp N (hTb N (vT E)) (vS E) + 100000 * (N 2).toInt64 + 100 * (N 0).toInt64 + 10 * (N 6).toInt64 + (N 7).toInt64
set_option maxHeartbeats 4000000 in
set_option maxRecDepth 20000 in
theorem c_L_all {E : Ev} {g : Sh} {i : Ni} {j : Nj} {K : Kp} {c : Nat} {a : Nat → Nat} {N : Nat → Int32} (hX : zX3 g c a) (hH : zH i a N) (hD : dOk E N) (hK : K (.inl (some (.long (hAll E N)))) g i j) : zCon E mL_all [.ref c, .ref (eS E 4 + 1)] g i j K := by
  refine zcon_of (by decide +kernel) rfl rfl (lo := [.ref c, .ref (eS E 4 + 1), zJ, zJ, zJ, zJ]) rfl (fun X => ?_)
  have x1 := hX.1
  have hO := hH.1
  have hT5 := vT_lt E
  have hS3 := vS_lt E
  have eT := hD.T
  have eSS := hD.S
  have K133 : ∀ r s : Nat, s + r = vS E → ∀ CU SU : Nat, CU + r ≤ 200 → SU + 6 * r ≤ 1200 → ∀ z : Value, zR E mL_all (zZ E mL_all K) X 133 [.ref c, .ref (eS E 4 + 1), .long (hSp N (hTb N (vT E)) s), zJ, .int (nI s), z] [] g i j CU SU := by
    intro r
    induction r with
    | zero =>
      intro s hs CU SU hCU hSU z
      obtain rfl : s = vS E := by omega
      refine r_iload qL_all_133 rfl ?_
      refine r_aload_n qL_all_135 rfl ?_
      refine r_cs1 (cu2 := CU) (su2 := SU) qL_all_136 kL_44 rfl (by decide +kernel) rfl rfl rfl (lbx (m := 200) rfl (by omega)) (lbx (m := 1200) rfl (by omega)) ?_
      refine c_L_spirits ?_
      show zR E _ _ X 139 _ _ _ _ _ _ _
      refine r_icmp_ge (t := 162) qL_all_139 (by decide) (fun hc139 => ?_) (fun hc139 => absurd hc139 (fun h => h (Int32.le_refl _)))
      refine r_ldc2 qL_all_162 lL_200 ?_
      refine r_lload_n qL_all_165 rfl ?_
      refine r_lmul qL_all_166 ?_
      refine r_ldc2 qL_all_167 lL_202 ?_
      refine r_aload_n qL_all_170 rfl ?_
      refine r_cv0 (cu2 := CU) (su2 := SU) qL_all_171 kL_138 rfl (by decide +kernel) (c := 3) (by assumption) (by decide) rfl rfl rfl rfl (lbx (m := 200) rfl (by omega)) (lbx (m := 1200) rfl (by omega)) ?_
      refine c_X3_minute hX hH ?_
      show zR E _ _ X 174 _ _ _ _ _ _ _
      refine r_i2l qL_all_174 ?_
      refine r_lmul qL_all_175 ?_
      refine r_ladd qL_all_176 ?_
      refine r_ldc2 qL_all_177 lL_184 ?_
      refine r_aload_n qL_all_180 rfl ?_
      refine r_cv0 (cu2 := CU) (su2 := SU) qL_all_181 kL_141 rfl (by decide +kernel) (c := 3) (by assumption) (by decide) rfl rfl rfl rfl (lbx (m := 200) rfl (by omega)) (lbx (m := 1200) rfl (by omega)) ?_
      refine c_X3_roomDegrees hX hH ?_
      show zR E _ _ X 184 _ _ _ _ _ _ _
      refine r_i2l qL_all_184 ?_
      refine r_lmul qL_all_185 ?_
      refine r_ladd qL_all_186 ?_
      refine r_ldc2 qL_all_187 lL_186 ?_
      refine r_aload_n qL_all_190 rfl ?_
      refine r_cv0 (cu2 := CU) (su2 := SU) qL_all_191 kL_144 rfl (by decide +kernel) (c := 3) (by assumption) (by decide) rfl rfl rfl rfl (lbx (m := 200) rfl (by omega)) (lbx (m := 1200) rfl (by omega)) ?_
      refine c_X3_thumbedTube hX hH ?_
      show zR E _ _ X 194 _ _ _ _ _ _ _
      refine r_i2l qL_all_194 ?_
      refine r_lmul qL_all_195 ?_
      refine r_ladd qL_all_196 ?_
      refine r_aload_n qL_all_197 rfl ?_
      refine r_cv0 (cu2 := CU) (su2 := SU) qL_all_198 kL_147 rfl (by decide +kernel) (c := 3) (by assumption) (by decide) rfl rfl rfl rfl (lbx (m := 200) rfl (by omega)) (lbx (m := 1200) rfl (by omega)) ?_
      refine c_X3_thumbLeft hX hH ?_
      show zR E _ _ X 201 _ _ _ _ _ _ _
      refine r_i2l qL_all_201 ?_
      refine r_ladd qL_all_202 ?_
      refine r_lret qL_all_203 rfl (lbx (m := 200) rfl (by omega)) (lbx (m := 1200) rfl (by omega)) ?_
      exact hK
    | succ r ih =>
      intro s hs CU SU hCU hSU z
      refine r_iload qL_all_133 rfl ?_
      refine r_aload_n qL_all_135 rfl ?_
      refine r_cs1 (cu2 := CU) (su2 := SU) qL_all_136 kL_44 rfl (by decide +kernel) rfl rfl rfl (lbx (m := 200) rfl (by omega)) (lbx (m := 1200) rfl (by omega)) ?_
      refine c_L_spirits ?_
      show zR E _ _ X 139 _ _ _ _ _ _ _
      refine r_icmp_ge (t := 162) qL_all_139 (by decide) (fun hc139 => absurd hc139 (nI_ge (show s < vS E by omega) (by omega))) (fun hc139 => ?_)
      refine r_ldc2 qL_all_142 lL_198 ?_
      refine r_lload_n qL_all_145 rfl ?_
      refine r_lmul qL_all_146 ?_
      refine r_aload_n qL_all_147 rfl ?_
      refine r_iload qL_all_148 rfl ?_
      refine r_cv1 (cu2 := CU + 1) (su2 := SU + 6) qL_all_150 kL_156 rfl (by decide +kernel) (c := 3) (by assumption) (by decide) rfl rfl rfl rfl (lbx (m := 200) rfl (by omega)) (lbx (m := 1200) rfl (by omega)) ?_
      refine q_spiritLost hX hH (by omega) ?_
      show zR E _ _ X 153 _ _ _ _ _ _ _
      refine r_i2l qL_all_153 ?_
      refine r_ladd qL_all_154 ?_
      refine r_ls_6_2 qL_all_155 rfl rfl ?_
      refine r_ii_6_4 qL_all_156 rfl rfl (nI_inc s) ?_
      refine r_goto (t := 133) qL_all_159 (by decide) ?_
      exact ih (s + 1) (by omega) _ _ (by omega) (by omega) _
  have K7 : ∀ r k : Nat, k + r = vT E → ∀ CU SU : Nat, CU + 36 * r ≤ 190 → SU + 216 * r ≤ 1140 → ∀ z : Value, zR E mL_all (zZ E mL_all K) X 7 [.ref c, .ref (eS E 4 + 1), .long (hTb N k), zJ, .int (nI k), z] [] g i j CU SU := by
    intro r
    induction r with
    | zero =>
      intro k hk CU SU hCU hSU z
      obtain rfl : k = vT E := by omega
      refine r_iload qL_all_7 rfl ?_
      refine r_aload_n qL_all_9 rfl ?_
      refine r_cs1 (cu2 := CU) (su2 := SU) qL_all_10 kL_106 rfl (by decide +kernel) rfl rfl rfl (lbx (m := 200) rfl (by omega)) (lbx (m := 1200) rfl (by omega)) ?_
      refine c_L_tubes ?_
      show zR E _ _ X 13 _ _ _ _ _ _ _
      refine r_icmp_ge (t := 130) qL_all_13 (by decide) (fun hc13 => ?_) (fun hc13 => absurd hc13 (fun h => h (Int32.le_refl _)))
      refine r_iconst (v := nI 0) qL_all_130 (by decide) ?_
      refine r_is_6_4 qL_all_131 rfl rfl ?_
      exact K133 (vS E) 0 (by omega) _ _ (by omega) (by omega) _
    | succ r ih =>
      intro k hk CU SU hCU hSU z
      have hkN : k < zn (N 5) := by omega
      have hm6 := (hO.many hkN).2
      have K77 : ∀ r2 q : Nat, q + r2 = sMany N k → ∀ CU2 SU2 : Nat, CU2 + 5 * r2 ≤ CU + 34 → SU2 + 30 * r2 ≤ SU + 204 → zR E mL_all (zZ E mL_all K) X 77 [.ref c, .ref (eS E 4 + 1), .long (hP N k (hT0 N k (hTb N k)) q), zJ, .int (nI k), .int (nI q)] [] g i j CU2 SU2 := by
        intro r2
        induction r2 with
        | zero =>
          intro q hq CU2 SU2 hC2 hS2
          obtain rfl : q = sMany N k := by omega
          refine r_iload qL_all_77 rfl ?_
          refine r_aload_n qL_all_79 rfl ?_
          refine r_iload qL_all_80 rfl ?_
          refine r_cv1 (cu2 := CU2 + 1) (su2 := SU2 + 6) qL_all_82 kL_175 rfl (by decide +kernel) (c := 3) (by assumption) (by decide) rfl rfl rfl rfl (lbx (m := 200) rfl (by omega)) (lbx (m := 1200) rfl (by omega)) ?_
          refine q_pointCount hX hH hkN ?_
          show zR E _ _ X 85 _ _ _ _ _ _ _
          refine r_icmp_ge (t := 124) qL_all_85 (by decide) (fun hc85 => ?_) (fun hc85 => absurd hc85 (fun h => h (Int32.le_refl _)))
          refine r_ii_6_4 qL_all_124 rfl rfl (nI_inc k) ?_
          refine r_goto (t := 7) qL_all_127 (by decide) ?_
          exact ih (k + 1) (by omega) _ _ (by omega) (by omega) _
        | succ r2 ih2 =>
          intro q hq CU2 SU2 hC2 hS2
          have hqm : q < sMany N k := by omega
          refine r_iload qL_all_77 rfl ?_
          refine r_aload_n qL_all_79 rfl ?_
          refine r_iload qL_all_80 rfl ?_
          refine r_cv1 (cu2 := CU2 + 1) (su2 := SU2 + 6) qL_all_82 kL_175 rfl (by decide +kernel) (c := 3) (by assumption) (by decide) rfl rfl rfl rfl (lbx (m := 200) rfl (by omega)) (lbx (m := 1200) rfl (by omega)) ?_
          refine q_pointCount hX hH hkN ?_
          show zR E _ _ X 85 _ _ _ _ _ _ _
          refine r_icmp_ge (t := 124) qL_all_85 (by decide) (fun hc85 => absurd hc85 (nI_ge hqm (by omega))) (fun hc85 => ?_)
          refine r_ldc2 qL_all_88 lL_188 ?_
          refine r_lload_n qL_all_91 rfl ?_
          refine r_lmul qL_all_92 ?_
          refine r_ldc2 qL_all_93 lL_190 ?_
          refine r_aload_n qL_all_96 rfl ?_
          refine r_iload qL_all_97 rfl ?_
          refine r_iload qL_all_99 rfl ?_
          refine r_cv2 (cu2 := CU2 + 3) (su2 := SU2 + 18) qL_all_101 kL_192 rfl (by decide +kernel) (c := 3) (by assumption) (by decide) rfl rfl rfl rfl (lbx (m := 200) rfl (by omega)) (lbx (m := 1200) rfl (by omega)) ?_
          refine q_pointDegrees hX hH hkN hqm ?_
          show zR E _ _ X 104 _ _ _ _ _ _ _
          refine r_i2l qL_all_104 ?_
          refine r_lmul qL_all_105 ?_
          refine r_ladd qL_all_106 ?_
          refine r_aload_n qL_all_107 rfl ?_
          refine r_iload qL_all_108 rfl ?_
          refine r_iload qL_all_110 rfl ?_
          refine r_cv2 (cu2 := CU2 + 5) (su2 := SU2 + 30) qL_all_112 kL_195 rfl (by decide +kernel) (c := 3) (by assumption) (by decide) rfl rfl rfl rfl (lbx (m := 200) rfl (by omega)) (lbx (m := 1200) rfl (by omega)) ?_
          refine q_pointHeight hX hH hkN hqm ?_
          show zR E _ _ X 115 _ _ _ _ _ _ _
          refine r_i2l qL_all_115 ?_
          refine r_ladd qL_all_116 ?_
          refine r_ls_6_2 qL_all_117 rfl rfl ?_
          refine r_ii_6_5 qL_all_118 rfl rfl (nI_inc q) ?_
          refine r_goto (t := 77) qL_all_121 (by decide) ?_
          exact ih2 (q + 1) (by omega) _ _ (by omega) (by omega)
      have K74 : ∀ h : Int64, h = hT0 N k (hTb N k) → zR E mL_all (zZ E mL_all K) X 74 [.ref c, .ref (eS E 4 + 1), .long h, zJ, .int (nI k), z] [] g i j (CU + 4) (SU + 24) := by
        intro h hh
        subst hh
        refine r_iconst (v := nI 0) qL_all_74 (by decide) ?_
        refine r_is_6_5 qL_all_75 rfl rfl ?_
        exact K77 (sMany N k) 0 (by omega) _ _ (by omega) (by omega)
      refine r_iload qL_all_7 rfl ?_
      refine r_aload_n qL_all_9 rfl ?_
      refine r_cs1 (cu2 := CU) (su2 := SU) qL_all_10 kL_106 rfl (by decide +kernel) rfl rfl rfl (lbx (m := 200) rfl (by omega)) (lbx (m := 1200) rfl (by omega)) ?_
      refine c_L_tubes ?_
      show zR E _ _ X 13 _ _ _ _ _ _ _
      refine r_icmp_ge (t := 130) qL_all_13 (by decide) (fun hc13 => absurd hc13 (nI_ge (show k < vT E by omega) (by omega))) (fun hc13 => ?_)
      refine r_ldc2 qL_all_16 lL_180 ?_
      refine r_lload_n qL_all_19 rfl ?_
      refine r_lmul qL_all_20 ?_
      refine r_ldc2 qL_all_21 lL_182 ?_
      refine r_aload_n qL_all_24 rfl ?_
      refine r_iload qL_all_25 rfl ?_
      refine r_cv1 (cu2 := CU + 1) (su2 := SU + 6) qL_all_27 kL_162 rfl (by decide +kernel) (c := 3) (by assumption) (by decide) rfl rfl rfl rfl (lbx (m := 200) rfl (by omega)) (lbx (m := 1200) rfl (by omega)) ?_
      refine q_fillOf hX hH hkN ?_
      show zR E _ _ X 30 _ _ _ _ _ _ _
      refine r_i2l qL_all_30 ?_
      refine r_lmul qL_all_31 ?_
      refine r_ladd qL_all_32 ?_
      refine r_ldc2 qL_all_33 lL_184 ?_
      refine r_aload_n qL_all_36 rfl ?_
      refine r_iload qL_all_37 rfl ?_
      refine r_cv1 (cu2 := CU + 2) (su2 := SU + 12) qL_all_39 kL_165 rfl (by decide +kernel) (c := 3) (by assumption) (by decide) rfl rfl rfl rfl (lbx (m := 200) rfl (by omega)) (lbx (m := 1200) rfl (by omega)) ?_
      refine q_temperatureOf hX hH hkN ?_
      show zR E _ _ X 42 _ _ _ _ _ _ _
      refine r_i2l qL_all_42 ?_
      refine r_lmul qL_all_43 ?_
      refine r_ladd qL_all_44 ?_
      refine r_ldc2 qL_all_45 lL_186 ?_
      refine r_aload_n qL_all_48 rfl ?_
      refine r_iload qL_all_49 rfl ?_
      refine r_cv1 (cu2 := CU + 3) (su2 := SU + 18) qL_all_51 kL_168 rfl (by decide +kernel) (c := 3) (by assumption) (by decide) rfl rfl rfl rfl (lbx (m := 200) rfl (by omega)) (lbx (m := 1200) rfl (by omega)) ?_
      refine q_bathOf hX hH hkN ?_
      show zR E _ _ X 54 _ _ _ _ _ _ _
      refine r_i2l qL_all_54 ?_
      refine r_lmul qL_all_55 ?_
      refine r_ladd qL_all_56 ?_
      refine r_aload_n qL_all_57 rfl ?_
      refine r_iload qL_all_58 rfl ?_
      refine r_cv1 (cu2 := CU + 4) (su2 := SU + 24) qL_all_60 kL_171 rfl (by decide +kernel) (c := 3) (by assumption) (by decide) rfl rfl rfl rfl (lbx (m := 200) rfl (by omega)) (lbx (m := 1200) rfl (by omega)) ?_
      refine q_isLeaky hX hH hkN ?_
      show zR E _ _ X 63 _ _ _ _ _ _ _
      refine r_if_eq (t := 70) qL_all_63 (by decide) (fun hc63 => ?_) (fun hc63 => ?_)
      · refine r_iconst (v := nI 0) qL_all_70 (by decide) ?_
        refine r_i2l qL_all_71 ?_
        refine r_ladd qL_all_72 ?_
        refine r_ls_6_2 qL_all_73 rfl rfl ?_
        refine K74 _ ?_
        rw [hT0]
        first | rw [zb_t (zb_ne.mp hc63)] | rw [zb_f (zb_0.mp hc63)]
      · refine r_iconst (v := nI 1) qL_all_66 (by decide) ?_
        refine r_goto (t := 71) qL_all_67 (by decide) ?_
        refine r_i2l qL_all_71 ?_
        refine r_ladd qL_all_72 ?_
        refine r_ls_6_2 qL_all_73 rfl rfl ?_
        refine K74 _ ?_
        rw [hT0]
        first | rw [zb_t (zb_ne.mp hc63)] | rw [zb_f (zb_0.mp hc63)]
  refine r_ldc2 qL_all_0 lL_178 ?_
  refine r_ls_6_2 qL_all_3 rfl rfl ?_
  refine r_iconst (v := nI 0) qL_all_4 (by decide) ?_
  refine r_is_6_4 qL_all_5 rfl rfl ?_
  exact K7 (vT E) 0 (by omega) 0 0 (by omega) (by omega) _

