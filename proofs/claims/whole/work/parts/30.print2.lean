set_option maxHeartbeats 4000000 in
set_option maxRecDepth 20000 in
theorem c_X4_printTube {E : Ev} {g : Sh} {i : Ni} {j : Nj} {K : Kp} {x n d b p s o : Nat} {t : Int32} (hB : zB g i x n d b p s o) (hN : zNm (i n)) (hK0 : ¬ tv (i n 5) t → ∀ i' : Ni, i' x = upd (i x) 0 (c3 (tv (i n 5) t) True True) → (∀ r, r ≠ x → i' r = i r) → K (.inl (some (.int (nI 0)))) g i' j) (hK1 : tv (i n 5) t → ∀ i' : Ni, zL (i' x) (i' o) (pTx (i n) (zn t)) → i' x 0 = nI 0 → (∀ m, m ≠ 0 → m ≠ 35 → i' x m = i x m) → (∀ r, r ≠ x → r ≠ o → i' r = i r) → K (.inl (some (.int (nI (pTx (i n) (zn t)).length)))) g i' j) : zCon E mX4_printTube [.ref x, .int t] g i j K := by
  refine zcon_of (by decide +kernel) rfl rfl (lo := [.ref x, .int t, zJ, zJ]) rfl (fun X => ?_)
  have hB' := hB
  obtain ⟨hW, hR3, hO⟩ := hB
  have w1 := hW.1
  have w2 := hW.2.1
  have nx := hW.nx
  have hM' := hW.m hR3
  obtain ⟨ox, no, w7, w8, w9⟩ := hW.oo
  obtain ⟨wn8, wn9⟩ := hW.2.2.2.2.2.2.2.1
  obtain ⟨hT, hT8⟩ := hO.T8
  have KA : ∀ (k : Nat) (i0 : Ni), k < zn (i n 5) → i0 n = i n → zL (i0 x) (i0 o) [] → (∀ i' : Ni, zP x o i0 i' (pTx (i n) k) → K (.inl (some (.int (nI (pTx (i n) k).length)))) g i' j) → zR E mX4_printTube (zZ E mX4_printTube K) X 19 [.ref x, .int (nI k), zJ, zJ] [] g i0 j 0 0 := by
    intro k i0 hk e0 hl0 hK
    clear hK0 hK1
    have h8 := hO.k8 hk
    obtain ⟨s, hs, hs3, hs5⟩ := hO.S hk
    obtain ⟨L, w, hL, hL1, hL4, hw, hw31⟩ := hN.1 s hs3
    obtain ⟨H, hH, hH9⟩ := sHigh_in hO hk
    obtain ⟨-, -, -, b3, -⟩ := hO.tu hk
    obtain ⟨Z, hZ, hZ9, -⟩ := b3.ex (by decide)
    have eN : ∀ {i' : Ni} {l : List Int32}, zP x o i0 i' l → i' n = i n := fun h => (h.2.2 n nx no).trans e0
    have hT' : pTx (i n) k = sNam w L L ++ [nI 32] ++ dig H ++ [nI 47] ++ dig Z ++ pNum (i n) k ++ (if i n 6 = nI k then [nI 42] else []) := by
      rw [pTx, hs, zn_nI (by omega), hL, zn_nI (by omega), hw, zn_nI hw31, hH, zn_nI (by omega), hZ, zn_nI (by omega)]
    rw [hT'] at hK
    clear hT'
    have K141 : ∀ (l : List Int32) (i2 : Ni) (a c : Int32), zP x o i0 i2 l → l.length ≤ 80 → (∀ i' : Ni, zP x o i0 i' (l ++ (if i n 6 = nI k then [nI 42] else [])) → K (.inl (some (.int (nI (l ++ (if i n 6 = nI k then [nI 42] else [])).length)))) g i' j) → zR E mX4_printTube (zZ E mX4_printTube K) X 141 [.ref x, .int (nI k), .int a, .int c] [] g i2 j 0 0 := by
      clear hK
      intro l i2 a c hP hll hK
      refine r_aload_n qX4_printTube_141 rfl ?_
      refine r_getr qX4_printTube_142 fX4_17 rfl (by assumption) (by first | assumption | rfl) ?_
      refine r_bipush (v := nI 6) qX4_printTube_145 (by decide) ?_
      refine r_ialdN qX4_printTube_147 (by assumption) (by assumption) (by omega) rfl ?_
      rw [eN hP]
      refine r_iload_n qX4_printTube_148 rfl ?_
      refine r_icmp_ne (t := 158) qX4_printTube_149 (by decide) (fun hc149 => ?_) (fun hc149 => ?_)
      · rw [if_neg hc149, List.append_nil] at hK; have p3 := hP
        refine r_aload_n qX4_printTube_158 rfl ?_
        refine r_geti qX4_printTube_159 fX4_463 rfl (by assumption) ?_
        refine r_iret qX4_printTube_162 rfl rfl rfl rfl ?_
        rw [p3.1.1]; exact hK _ p3
      · rw [if_pos hc149] at hK
        refine r_aload_n qX4_printTube_152 rfl ?_
        refine r_bipush (v := nI 42) qX4_printTube_153 (by decide) ?_
        refine r_cv1 (cu2 := 0) (su2 := 0) qX4_printTube_155 kX4_466 rfl (by decide +kernel) (c := 4) (by assumption) (by decide) rfl rfl rfl rfl rfl rfl ?_
        refine cP_put hW hP (by omega) (fun i3 p3 => ?_)
        show zR E _ _ X 158 _ _ _ _ _ _ _
        refine r_aload_n qX4_printTube_158 rfl ?_
        refine r_geti qX4_printTube_159 fX4_463 rfl (by assumption) ?_
        refine r_iret qX4_printTube_162 rfl rfl rfl rfl ?_
        rw [p3.1.1]; exact hK _ p3
    have K95 : ∀ (l : List Int32) (i2 : Ni) (a c : Int32), zP x o i0 i2 l → l.length ≤ 40 → (∀ i' : Ni, zP x o i0 i' (l ++ pNum (i n) k ++ (if i n 6 = nI k then [nI 42] else [])) → K (.inl (some (.int (nI (l ++ pNum (i n) k ++ (if i n 6 = nI k then [nI 42] else [])).length)))) g i' j) → zR E mX4_printTube (zZ E mX4_printTube K) X 95 [.ref x, .int (nI k), .int a, .int c] [] g i2 j 0 0 := by
      clear hK
      intro l i2 a c hP hll hK
      have e2 := eN hP
      rw [pNum] at hK
      by_cases h2m : 2 ≤ sMany (i n) k
      · rw [if_pos h2m] at hK
        have hr := sTells_in hO hk h2m (hi := sHigh (i n) k) (by rw [hH]; exact zIn_nI (by omega) (by omega) (by omega))
        obtain ⟨hr1, hr2⟩ := jabs_nat hr
        have K129 : ∀ (m : List Int32) (i3 : Ni), zP x o i0 i3 (l ++ ([nI 32] ++ [nI 64] ++ m)) → m.length ≤ 1 → m = (if sRead (i n) k < 0 then [nI 45] else []) → zR E mX4_printTube (zZ E mX4_printTube K) X 129 [.ref x, .int (nI k), .int a, .int c] [] g i3 j 0 0 := by
          intro m i3 p3 hm hm2
          have e3 := eN p3
          rw [← hm2] at hK
          refine r_aload_n qX4_printTube_129 rfl ?_
          refine r_aload_n qX4_printTube_130 rfl ?_
          refine r_iload_n qX4_printTube_131 rfl ?_
          refine r_cv1 (cu2 := 0) (su2 := 0) qX4_printTube_132 kX4_422 rfl (by decide +kernel) (c := 4) (by assumption) (by decide) rfl rfl rfl rfl rfl rfl ?_
          refine c_X4_readNow hM' (by rw [e3]; exact hO) (by rw [e3]; exact hk) (by rw [e3]; exact h2m) ?_
          show zR E _ _ X 135 _ _ _ _ _ _ _
          rw [e3]
          refine r_mabs qX4_printTube_135 kX4_198 rfl rfl rfl rfl ?_
          refine r_cv1 (cu2 := 0) (su2 := 0) qX4_printTube_138 kX4_473 rfl (by decide +kernel) (c := 4) (by assumption) (by decide) rfl rfl rfl rfl rfl rfl ?_
          refine cP_num hW hr1 hr2 p3 (by simp only [List.length_append, List.length_cons, List.length_nil]; omega) (fun i4 p4 => ?_)
          show zR E _ _ X 141 _ _ _ _ _ _ _
          refine K141 _ i4 a c p4 ?_ ?_
          · have := dig_len (sRead (i n) k).toInt.natAbs; change (l ++ ([nI 32] ++ [nI 64] ++ m) ++ dig (sRead (i n) k).toInt.natAbs).length ≤ 80; simp only [List.length_append, List.length_cons, List.length_nil]; omega
          · intro i' pp; have q := hK i'; rw [← List.append_assoc l] at q; exact q pp
        refine r_aload_n qX4_printTube_95 rfl ?_
        refine r_iload_n qX4_printTube_96 rfl ?_
        refine r_cv1 (cu2 := 0) (su2 := 0) qX4_printTube_97 kX4_416 rfl (by decide +kernel) (c := 4) (by assumption) (by decide) rfl rfl rfl rfl rfl rfl ?_
        refine c_X4_isScaled hM' (by rw [e2]; exact hO) (by rw [e2]; exact hk) ?_
        show zR E _ _ X 100 _ _ _ _ _ _ _
        rw [e2, zb_t h2m]
        refine r_if_eq (t := 141) qX4_printTube_100 (by decide) (fun hc100 => absurd hc100 (by decide)) (fun hc100 => ?_)
        refine r_aload_n qX4_printTube_103 rfl ?_
        refine r_bipush (v := nI 32) qX4_printTube_104 (by decide) ?_
        refine r_cv1 (cu2 := 0) (su2 := 0) qX4_printTube_106 kX4_466 rfl (by decide +kernel) (c := 4) (by assumption) (by decide) rfl rfl rfl rfl rfl rfl ?_
        refine cP_put hW hP (by omega) (fun i3 p3 => ?_)
        show zR E _ _ X 109 _ _ _ _ _ _ _
        refine r_aload_n qX4_printTube_109 rfl ?_
        refine r_bipush (v := nI 64) qX4_printTube_110 (by decide) ?_
        refine r_cv1 (cu2 := 0) (su2 := 0) qX4_printTube_112 kX4_466 rfl (by decide +kernel) (c := 4) (by assumption) (by decide) rfl rfl rfl rfl rfl rfl ?_
        refine cP_put hW p3 (by simp only [List.length_append, List.length_cons, List.length_nil]; omega) (fun i4 p4 => ?_)
        show zR E _ _ X 115 _ _ _ _ _ _ _
        refine r_aload_n qX4_printTube_115 rfl ?_
        refine r_iload_n qX4_printTube_116 rfl ?_
        refine r_cv1 (cu2 := 0) (su2 := 0) qX4_printTube_117 kX4_422 rfl (by decide +kernel) (c := 4) (by assumption) (by decide) rfl rfl rfl rfl rfl rfl ?_
        refine c_X4_readNow hM' (by rw [eN p4]; exact hO) (by rw [eN p4]; exact hk) (by rw [eN p4]; exact h2m) ?_
        show zR E _ _ X 120 _ _ _ _ _ _ _
        rw [eN p4]
        refine r_if_ge (t := 129) qX4_printTube_120 (by decide) (fun hc120 => ?_) (fun hc120 => ?_)
        · first | exact K129 [] i4 (by rw [List.append_nil, ← List.append_assoc]; exact p4) (by decide) (by rw [if_neg (Int32.not_lt.mpr hc120)]) | exact K129 [nI 45] i5 (by rw [← List.append_assoc, ← List.append_assoc]; exact p5) (by decide) (by rw [if_pos (Int32.not_le.mp hc120)])
        · refine r_aload_n qX4_printTube_123 rfl ?_
          refine r_bipush (v := nI 45) qX4_printTube_124 (by decide) ?_
          refine r_cv1 (cu2 := 0) (su2 := 0) qX4_printTube_126 kX4_466 rfl (by decide +kernel) (c := 4) (by assumption) (by decide) rfl rfl rfl rfl rfl rfl ?_
          refine cP_put hW p4 (by simp only [List.length_append, List.length_cons, List.length_nil]; omega) (fun i5 p5 => ?_)
          show zR E _ _ X 129 _ _ _ _ _ _ _
          first | exact K129 [] i4 (by rw [List.append_nil, ← List.append_assoc]; exact p4) (by decide) (by rw [if_neg (Int32.not_lt.mpr hc120)]) | exact K129 [nI 45] i5 (by rw [← List.append_assoc, ← List.append_assoc]; exact p5) (by decide) (by rw [if_pos (Int32.not_le.mp hc120)])
      · rw [if_neg h2m, List.append_nil] at hK
        refine r_aload_n qX4_printTube_95 rfl ?_
        refine r_iload_n qX4_printTube_96 rfl ?_
        refine r_cv1 (cu2 := 0) (su2 := 0) qX4_printTube_97 kX4_416 rfl (by decide +kernel) (c := 4) (by assumption) (by decide) rfl rfl rfl rfl rfl rfl ?_
        refine c_X4_isScaled hM' (by rw [e2]; exact hO) (by rw [e2]; exact hk) ?_
        show zR E _ _ X 100 _ _ _ _ _ _ _
        rw [e2, zb_f h2m]
        refine r_if_eq (t := 141) qX4_printTube_100 (by decide) (fun hc100 => ?_) (fun hc100 => absurd hc100 (by decide))
        exact K141 l i2 a c hP (by omega) hK
    have K64 : ∀ (i2 : Ni) (a c : Int32), zP x o i0 i2 (sNam w L L) → zR E mX4_printTube (zZ E mX4_printTube K) X 64 [.ref x, .int (nI k), .int a, .int c] [] g i2 j 0 0 := by
      intro i2 a c hP
      have hn := sNam_len w L L
      have hd1 := dig_len H
      have hd2 := dig_len Z
      refine r_aload_n qX4_printTube_64 rfl ?_
      refine r_bipush (v := nI 32) qX4_printTube_65 (by decide) ?_
      refine r_cv1 (cu2 := 0) (su2 := 0) qX4_printTube_67 kX4_466 rfl (by decide +kernel) (c := 4) (by assumption) (by decide) rfl rfl rfl rfl rfl rfl ?_
      refine cP_put hW hP (by omega) (fun i3 p3 => ?_)
      show zR E _ _ X 70 _ _ _ _ _ _ _
      refine r_aload_n qX4_printTube_70 rfl ?_
      refine r_aload_n qX4_printTube_71 rfl ?_
      refine r_iload_n qX4_printTube_72 rfl ?_
      refine r_cv1 (cu2 := 0) (su2 := 0) qX4_printTube_73 kX4_186 rfl (by decide +kernel) (c := 4) (by assumption) (by decide) rfl rfl rfl rfl rfl rfl ?_
      refine c_X4_heightNow hM' (by rw [eN p3]; exact hO.f hk) ?_
      show zR E _ _ X 76 _ _ _ _ _ _ _
      rw [eN p3, hH]
      refine r_cv1 (cu2 := 0) (su2 := 0) qX4_printTube_76 kX4_473 rfl (by decide +kernel) (c := 4) (by assumption) (by decide) rfl rfl rfl rfl rfl rfl ?_
      refine cP_num hW rfl (by omega) p3 (by simp only [List.length_append, List.length_cons, List.length_nil]; omega) (fun i4 p4 => ?_)
      show zR E _ _ X 79 _ _ _ _ _ _ _
      refine r_aload_n qX4_printTube_79 rfl ?_
      refine r_bipush (v := nI 47) qX4_printTube_80 (by decide) ?_
      refine r_cv1 (cu2 := 0) (su2 := 0) qX4_printTube_82 kX4_466 rfl (by decide +kernel) (c := 4) (by assumption) (by decide) rfl rfl rfl rfl rfl rfl ?_
      refine cP_put hW p4 (by simp only [List.length_append, List.length_cons, List.length_nil]; omega) (fun i5 p5 => ?_)
      show zR E _ _ X 85 _ _ _ _ _ _ _
      refine r_aload_n qX4_printTube_85 rfl ?_
      refine r_aload_n qX4_printTube_86 rfl ?_
      refine r_iload_n qX4_printTube_87 rfl ?_
      refine r_iconst (v := nI 3) qX4_printTube_88 (by decide) ?_
      refine r_cv2 (cu2 := 0) (su2 := 0) qX4_printTube_89 kX4_148 rfl (by decide +kernel) (c := 4) (by assumption) (by decide) rfl rfl rfl rfl rfl rfl ?_
      refine c_X4_of hM' (by omega) ?_
      show zR E _ _ X 92 _ _ _ _ _ _ _
      rw [eN p5, hZ]
      refine r_cv1 (cu2 := 0) (su2 := 0) qX4_printTube_92 kX4_473 rfl (by decide +kernel) (c := 4) (by assumption) (by decide) rfl rfl rfl rfl rfl rfl ?_
      refine cP_num hW rfl (by omega) p5 (by simp only [List.length_append, List.length_cons, List.length_nil]; omega) (fun i6 p6 => ?_)
      show zR E _ _ X 95 _ _ _ _ _ _ _
      exact K95 _ i6 a c p6 (by simp only [List.length_append, List.length_cons, List.length_nil]; omega) hK
    have K28 : ∀ q m : Nat, q = L - m → m ≤ L → ∀ i2 : Ni, zP x o i0 i2 (sNam w L m) → zR E mX4_printTube (zZ E mX4_printTube K) X 28 [.ref x, .int (nI k), .int (nI s), .int (nI m)] [] g i2 j 0 0 := by
      intro q
      induction q with
      | zero =>
        intro m hm hm2 i2 hP
        obtain rfl : m = L := by omega
        refine r_iload_n qX4_printTube_28 rfl ?_
        refine r_aload_n qX4_printTube_29 rfl ?_
        refine r_iload_n qX4_printTube_30 rfl ?_
        refine r_iconst (v := nI 1) qX4_printTube_31 (by decide) ?_
        refine r_cv2 (cu2 := 0) (su2 := 0) qX4_printTube_32 kX4_152 rfl (by decide +kernel) (c := 4) (by assumption) (by decide) rfl rfl rfl rfl rfl rfl ?_
        refine c_X4_ofSpirit hM' (by omega) ?_
        show zR E _ _ X 35 _ _ _ _ _ _ _
        rw [eN hP, hL]
        refine r_icmp_ge (t := 64) qX4_printTube_35 (by decide) (fun hc35 => ?_) (fun hc35 => absurd hc35 (fun h => h (nI_le (by omega) (by omega))))
        exact K64 i2 _ _ hP
      | succ q ih =>
        intro m hm hm2 i2 hP
        have hn := sNam_len w L m
        refine r_iload_n qX4_printTube_28 rfl ?_
        refine r_aload_n qX4_printTube_29 rfl ?_
        refine r_iload_n qX4_printTube_30 rfl ?_
        refine r_iconst (v := nI 1) qX4_printTube_31 (by decide) ?_
        refine r_cv2 (cu2 := 0) (su2 := 0) qX4_printTube_32 kX4_152 rfl (by decide +kernel) (c := 4) (by assumption) (by decide) rfl rfl rfl rfl rfl rfl ?_
        refine c_X4_ofSpirit hM' (by omega) ?_
        show zR E _ _ X 35 _ _ _ _ _ _ _
        rw [eN hP, hL]
        refine r_icmp_ge (t := 64) qX4_printTube_35 (by decide) (fun hc35 => absurd hc35 (nI_ge (by omega) (by omega))) (fun hc35 => ?_)
        refine r_aload_n qX4_printTube_38 rfl ?_
        refine r_aload_n qX4_printTube_39 rfl ?_
        refine r_iload_n qX4_printTube_40 rfl ?_
        refine r_iconst (v := nI 0) qX4_printTube_41 (by decide) ?_
        refine r_cv2 (cu2 := 0) (su2 := 0) qX4_printTube_42 kX4_152 rfl (by decide +kernel) (c := 4) (by assumption) (by decide) rfl rfl rfl rfl rfl rfl ?_
        refine c_X4_ofSpirit hM' (by omega) ?_
        show zR E _ _ X 45 _ _ _ _ _ _ _
        rw [eN hP, hw]
        refine r_aload_n qX4_printTube_45 rfl ?_
        refine r_iload_n qX4_printTube_46 rfl ?_
        refine r_iconst (v := nI 1) qX4_printTube_47 (by decide) ?_
        refine r_cv2 (cu2 := 0) (su2 := 0) qX4_printTube_48 kX4_152 rfl (by decide +kernel) (c := 4) (by assumption) (by decide) rfl rfl rfl rfl rfl rfl ?_
        refine c_X4_ofSpirit hM' (by omega) ?_
        show zR E _ _ X 51 _ _ _ _ _ _ _
        rw [eN hP, hL]
        refine r_iload_n qX4_printTube_51 rfl ?_
        refine r_cs3 (cu2 := 0) (su2 := 0) qX4_printTube_52 kX4_469 rfl (by decide +kernel) rfl rfl rfl rfl rfl ?_
        refine c_X4_letterOf hw31 hL4 (by omega) ?_
        show zR E _ _ X 55 _ _ _ _ _ _ _
        refine r_cv1 (cu2 := 0) (su2 := 0) qX4_printTube_55 kX4_466 rfl (by decide +kernel) (c := 4) (by assumption) (by decide) rfl rfl rfl rfl rfl rfl ?_
        refine cP_put hW hP (by omega) (fun i3 p3 => ?_)
        show zR E _ _ X 58 _ _ _ _ _ _ _
        refine r_ii_4_3 qX4_printTube_58 rfl rfl (nI_inc m) ?_
        refine r_goto (t := 28) qX4_printTube_61 (by decide) ?_
        exact ih (m + 1) (by omega) (by omega) i3 p3
    refine r_aload_n qX4_printTube_19 rfl ?_
    refine r_iload_n qX4_printTube_20 rfl ?_
    refine r_iconst (v := nI 0) qX4_printTube_21 (by decide) ?_
    refine r_cv2 (cu2 := 0) (su2 := 0) qX4_printTube_22 kX4_148 rfl (by decide +kernel) (c := 4) (by assumption) (by decide) rfl rfl rfl rfl rfl rfl ?_
    refine c_X4_of (by first | assumption | omega | rfl | decide) (by first | assumption | omega | rfl | decide) ?_
    show zR E _ _ X 25 _ _ _ _ _ _ _
    rw [e0, hs]
    refine r_is_4_2 qX4_printTube_25 rfl rfl ?_
    refine r_iconst (v := nI 0) qX4_printTube_26 (by decide) ?_
    refine r_is_4_3 qX4_printTube_27 rfl rfl ?_
    exact K28 L 0 (by omega) (by omega) i0 ⟨hl0, fun _ _ => rfl, fun _ _ _ => rfl⟩
  refine r_aload_n qX4_printTube_0 rfl ?_
  refine r_aload_n qX4_printTube_1 rfl ?_
  refine r_iload_n qX4_printTube_2 rfl ?_
  refine r_cv1 (cu2 := 0) (su2 := 0) qX4_printTube_3 kX4_396 rfl (by decide +kernel) (c := 4) (by assumption) (by decide) rfl rfl rfl rfl rfl rfl ?_
  refine c_X4_hasTube (by first | assumption | omega | rfl | decide) (by first | assumption | omega | rfl | decide) (by first | assumption | omega | rfl | decide) ?_
  show zR E _ _ X 6 _ _ _ _ _ _ _
  refine r_cv1 (cu2 := 0) (su2 := 0) qX4_printTube_6 kX4_371 rfl (by decide +kernel) (c := 4) (by assumption) (by decide) rfl rfl rfl rfl rfl rfl ?_
  refine c_X4_passes1 (by first | assumption | omega | rfl | decide) ?_
  show zR E _ _ X 9 _ _ _ _ _ _ _
  generalize hi : wA i x (upd (i x) 0 (c3 (tv (i n 5) t) True True)) = i'
  have ex : i' x = upd (i x) 0 (c3 (tv (i n 5) t) True True) := by rw [← hi, wA_s]
  have eo : ∀ r, r ≠ x → i' r = i r := fun r hr => by rw [← hi]; exact wA_n hr
  clear hi
  refine r_if_ne (t := 14) qX4_printTube_9 (by decide) (fun hc9 => ?_) (fun hc9 => ?_)
  · have hv := zb_ne.mp hc9; clear hc9 hK0; replace hK1 := hK1 hv; rw [c3_0 hv trivial trivial] at ex
    obtain ⟨e, hk⟩ := tv_nat hv; clear hv; generalize zn t = k at *; subst e
    refine r_aload_n qX4_printTube_14 rfl ?_
    refine r_iconst (v := nI 0) qX4_printTube_15 (by decide) ?_
    refine r_puti qX4_printTube_16 fX4_463 (Or.inl rfl) rfl rfl rfl (by assumption) ?_
    refine KA k _ hk (by rw [wA_n nx]; exact eo n nx) ⟨by rw [wA_s, pk_us]; rfl, by decide, fun k hk => absurd hk (Nat.not_lt_zero k)⟩ (fun i3 p3 => hK1 i3 p3.1 (by rw [p3.2.1 0 (by decide), wA_s, pk_un (by decide), ex, pk_us]) (fun m h0 h35 => by rw [p3.2.1 m h35, wA_s, pk_un h35, ex, pk_un h0]) (fun r h1 h2 => by rw [p3.2.2 r h1 h2, wA_n h1]; exact eo r h1))
  · have hv := zb_0.mp hc9; replace hK0 := hK0 hv
    refine r_iconst (v := nI 0) qX4_printTube_12 (by decide) ?_
    refine r_iret qX4_printTube_13 rfl rfl rfl rfl ?_
    exact hK0 _ ex eo

