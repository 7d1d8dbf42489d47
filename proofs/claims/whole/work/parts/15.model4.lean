theorem zTf.warm {N : Nat → Int32} {k : Nat} (h : zTf N k) : zTf (sWarm N k) k := h.up (by omega) (by omega)
theorem zTf.lose {N : Nat → Int32} {k : Nat} {v : Int32} (h : zTf N k) : zTf (sLose N k v) k := by
  obtain ⟨h8, ⟨s, hs, hs5⟩, hb⟩ := id h
  rw [sLose, hs, zn_nI (by omega)]
  exact (h.up (by omega) (by omega)).up (by omega) (by omega)
theorem zTf.leak {N : Nat → Int32} {k : Nat} (h : zTf N k) : zTf (sLeak N k) k := by
  rw [sLeak]
  split
  · exact h.lose
  · exact h
set_option maxHeartbeats 4000000 in
set_option maxRecDepth 20000 in
theorem c_X4_passFor {E : Ev} {g : Sh} {i : Ni} {j : Nj} {K : Kp} {x r k : Nat} (hM : zM g x r) (hO : zOk (i r)) (hk : k < zn (i r 5)) (hK : K (.inl (some (.int (sOut (i r) k)))) g (wA i r (sFor (i r) k)) j) : zCon E mX4_passFor [.ref x, .int (nI k)] g i j K := by
  refine zcon_of (by decide +kernel) rfl rfl (lo := [.ref x, .int (nI k), zJ, zJ, zJ]) rfl (fun X => ?_)
  have hM' := hM
  obtain ⟨h1, h2, h3, h4⟩ := hM
  have h8 := hO.k8 hk
  have hf := hO.f hk
  have hlag := hO.lag
  have hfw := hf.warm
  have hfl := hfw.leak
  have K99 : ∀ (a b c : Value), zR E mX4_passFor (zZ E mX4_passFor K) X 99 [.ref x, .int (nI k), .int (sAround (i r) k - i r (42 + 21 * k + 5)), .int (zb (jabs (sAround (i r) k - i r (42 + 21 * k + 5)) < i r 1)), zJ] [] g (wA i r (sLeak (sWarm (i r) k) k)) j 0 0 := by
    intro a b c
    rw [sOut, sFor] at hK
    generalize sLeak (sWarm (i r) k) k = M at *
    have hfm := hfl.lose (v := sSpilt M k)
    have K177 : ∀ Q : Nat → Int32, Q = sThumb (sLose M k (sSpilt M k)) k → zR E mX4_passFor (zZ E mX4_passFor K) X 177 [.ref x, .int (nI k), .int (sAround (i r) k - i r (42 + 21 * k + 5)), .int (zb (jabs (sAround (i r) k - i r (42 + 21 * k + 5)) < i r 1)), .int (sSpilt M k)] [] g (wA i r Q) j 0 0 := by
      intro Q hQ
      subst hQ
      refine r_iload qX4_passFor_177 rfl ?_
      refine r_iret qX4_passFor_179 rfl rfl rfl rfl ?_
      exact hK
    refine r_aload_n qX4_passFor_99 rfl ?_
    refine r_iload_n qX4_passFor_100 rfl ?_
    refine r_iconst (v := nI 4) qX4_passFor_101 (by decide) ?_
    refine r_cv2 (cu2 := 0) (su2 := 0) qX4_passFor_102 kX4_148 rfl (by decide +kernel) (c := 4) (by assumption) (by decide) rfl rfl rfl rfl rfl rfl ?_
    refine c_X4_of (by first | assumption | omega | rfl | decide) (by first | assumption | omega | rfl | decide) ?_
    show zR E _ _ X 105 _ _ _ _ _ _ _
    simp only [wA_s]
    refine r_iconst (v := nI 0) qX4_passFor_105 (by decide) ?_
    refine r_aload_n qX4_passFor_106 rfl ?_
    refine r_iload_n qX4_passFor_107 rfl ?_
    refine r_cv1 (cu2 := 0) (su2 := 0) qX4_passFor_108 kX4_158 rfl (by decide +kernel) (c := 4) (by assumption) (by decide) rfl rfl rfl rfl rfl rfl ?_
    refine c_X4_freeNow hM' (by rw [wA_s]; exact hfl) ?_
    show zR E _ _ X 111 _ _ _ _ _ _ _
    refine r_aload_n qX4_passFor_111 rfl ?_
    refine r_iload_n qX4_passFor_112 rfl ?_
    refine r_iconst (v := nI 3) qX4_passFor_113 (by decide) ?_
    refine r_cv2 (cu2 := 0) (su2 := 0) qX4_passFor_114 kX4_148 rfl (by decide +kernel) (c := 4) (by assumption) (by decide) rfl rfl rfl rfl rfl rfl ?_
    refine c_X4_of (by first | assumption | omega | rfl | decide) (by first | assumption | omega | rfl | decide) ?_
    show zR E _ _ X 117 _ _ _ _ _ _ _
    simp only [wA_s]
    refine r_isub qX4_passFor_117 ?_
    refine r_mmax qX4_passFor_118 kX4_201 rfl rfl rfl rfl ?_
    refine r_mmin qX4_passFor_121 kX4_161 rfl rfl rfl rfl ?_
    refine r_is_5_4 qX4_passFor_124 rfl rfl ?_
    refine r_aload_n qX4_passFor_126 rfl ?_
    refine r_iload_n qX4_passFor_127 rfl ?_
    refine r_iload qX4_passFor_128 rfl ?_
    refine r_cv2 (cu2 := 0) (su2 := 0) qX4_passFor_130 kX4_204 rfl (by decide +kernel) (c := 4) (by assumption) (by decide) rfl rfl rfl rfl rfl rfl ?_
    refine c_X4_lose hM' (by rw [wA_s]; exact hfl) ?_
    show zR E _ _ X 133 _ _ _ _ _ _ _
    simp only [wA_s, wA_wA]; change zR E _ _ X 133 _ _ _ (wA i r (sLose M k (sSpilt M k))) _ _ _
    refine r_aload_n qX4_passFor_133 rfl ?_
    refine r_getr qX4_passFor_134 fX4_24 rfl (by assumption) (by first | assumption | rfl) ?_
    refine r_bipush (v := nI 6) qX4_passFor_137 (by decide) ?_
    refine r_ialdN qX4_passFor_139 (by assumption) (by assumption) (by omega) rfl ?_
    simp only [wA_s]
    refine r_iload_n qX4_passFor_140 rfl ?_
    refine r_icmp_ne (t := 177) qX4_passFor_141 (by decide) (fun hc141 => ?_) (fun hc141 => ?_)
    · (try simp only [wA_s, wA_wA]); first | exact K177 _ (by rw [sThumb, if_neg hc141]) | exact K177 _ (by rw [sThumb, if_pos hc141, if_neg hc168]) | exact K177 _ (by rw [sThumb, if_pos hc141, if_pos hc168])
    · refine r_aload_n qX4_passFor_144 rfl ?_
      refine r_getr qX4_passFor_145 fX4_24 rfl (by assumption) (by first | assumption | rfl) ?_
      refine r_bipush (v := nI 7) qX4_passFor_148 (by decide) ?_
      refine r_dup2 qX4_passFor_150 rfl rfl ?_
      refine r_ialdN qX4_passFor_151 (by assumption) (by assumption) (by omega) rfl ?_
      refine r_iconst (v := nI 1) qX4_passFor_152 (by decide) ?_
      refine r_isub qX4_passFor_153 ?_
      refine r_iastN qX4_passFor_154 (by assumption) (by assumption) (by omega) rfl ?_
      simp only [wA_s, wA_wA]
      refine r_aload_n qX4_passFor_155 rfl ?_
      refine r_getr qX4_passFor_156 fX4_24 rfl (by assumption) (by first | assumption | rfl) ?_
      refine r_bipush (v := nI 6) qX4_passFor_159 (by decide) ?_
      refine r_aload_n qX4_passFor_161 rfl ?_
      refine r_getr qX4_passFor_162 fX4_24 rfl (by assumption) (by first | assumption | rfl) ?_
      refine r_bipush (v := nI 7) qX4_passFor_165 (by decide) ?_
      refine r_ialdN qX4_passFor_167 (by assumption) (by assumption) (by omega) rfl ?_
      simp only [wA_s, wA_wA, pk_us]
      refine r_if_ne (t := 175) qX4_passFor_168 (by decide) (fun hc168 => ?_) (fun hc168 => ?_)
      · refine r_iload_n qX4_passFor_175 rfl ?_
        refine r_iastN qX4_passFor_176 (by assumption) (by assumption) (by omega) rfl ?_
        (try simp only [wA_s, wA_wA]); first | exact K177 _ (by rw [sThumb, if_neg hc141]) | exact K177 _ (by rw [sThumb, if_pos hc141, if_neg hc168]) | exact K177 _ (by rw [sThumb, if_pos hc141, if_pos hc168])
      · refine r_iconst (v := (-1)) qX4_passFor_171 (by decide) ?_
        refine r_goto (t := 176) qX4_passFor_172 (by decide) ?_
        refine r_iastN qX4_passFor_176 (by assumption) (by assumption) (by omega) rfl ?_
        (try simp only [wA_s, wA_wA]); first | exact K177 _ (by rw [sThumb, if_neg hc141]) | exact K177 _ (by rw [sThumb, if_pos hc141, if_neg hc168]) | exact K177 _ (by rw [sThumb, if_pos hc141, if_pos hc168])
  have K61 : zR E mX4_passFor (zZ E mX4_passFor K) X 61 [.ref x, .int (nI k), .int (sAround (i r) k - i r (42 + 21 * k + 5)), .int (zb (jabs (sAround (i r) k - i r (42 + 21 * k + 5)) < i r 1)), zJ] [] g (wA i r (sWarm (i r) k)) j 0 0 := by
    have K99' := K99 zJ zJ zJ
    rw [sLeak] at K99'
    generalize sWarm (i r) k = M at *
    refine r_aload_n qX4_passFor_61 rfl ?_
    refine r_iload_n qX4_passFor_62 rfl ?_
    refine r_bipush (v := nI 6) qX4_passFor_63 (by decide) ?_
    refine r_cv2 (cu2 := 0) (su2 := 0) qX4_passFor_65 kX4_148 rfl (by decide +kernel) (c := 4) (by assumption) (by decide) rfl rfl rfl rfl rfl rfl ?_
    refine c_X4_of (by first | assumption | omega | rfl | decide) (by first | assumption | omega | rfl | decide) ?_
    show zR E _ _ X 68 _ _ _ _ _ _ _
    simp only [wA_s]
    refine r_iconst (v := nI 1) qX4_passFor_68 (by decide) ?_
    refine r_icmp_ne (t := 99) qX4_passFor_69 (by decide) (fun hc69 => ?_) (fun hc69 => ?_)
    · first | (rw [if_neg (fun h => hc69 h.1)] at K99'; exact K99') | (rw [if_neg (fun h => absurd h.2.1 (Int32.not_lt.mpr hc78))] at K99'; exact K99') | (rw [if_neg (fun h => hc90 h.2.2)] at K99'; exact K99') | (rw [if_pos ⟨hc69, Int32.not_le.mp hc78, hc90⟩] at K99'; simp only [wA_s, wA_wA]; exact K99')
    · refine r_aload_n qX4_passFor_72 rfl ?_
      refine r_iload_n qX4_passFor_73 rfl ?_
      refine r_iconst (v := nI 4) qX4_passFor_74 (by decide) ?_
      refine r_cv2 (cu2 := 0) (su2 := 0) qX4_passFor_75 kX4_148 rfl (by decide +kernel) (c := 4) (by assumption) (by decide) rfl rfl rfl rfl rfl rfl ?_
      refine c_X4_of (by first | assumption | omega | rfl | decide) (by first | assumption | omega | rfl | decide) ?_
      show zR E _ _ X 78 _ _ _ _ _ _ _
      simp only [wA_s]
      refine r_if_le (t := 99) qX4_passFor_78 (by decide) (fun hc78 => ?_) (fun hc78 => ?_)
      · first | (rw [if_neg (fun h => hc69 h.1)] at K99'; exact K99') | (rw [if_neg (fun h => absurd h.2.1 (Int32.not_lt.mpr hc78))] at K99'; exact K99') | (rw [if_neg (fun h => hc90 h.2.2)] at K99'; exact K99') | (rw [if_pos ⟨hc69, Int32.not_le.mp hc78, hc90⟩] at K99'; simp only [wA_s, wA_wA]; exact K99')
      · refine r_aload_n qX4_passFor_81 rfl ?_
        refine r_getr qX4_passFor_82 fX4_24 rfl (by assumption) (by first | assumption | rfl) ?_
        refine r_iconst (v := nI 2) qX4_passFor_85 (by decide) ?_
        refine r_ialdN qX4_passFor_86 (by assumption) (by assumption) (by omega) rfl ?_
        simp only [wA_s]
        refine r_bipush (v := nI 10) qX4_passFor_87 (by decide) ?_
        refine r_irem qX4_passFor_89 (by decide) ?_
        refine r_if_ne (t := 99) qX4_passFor_90 (by decide) (fun hc90 => ?_) (fun hc90 => ?_)
        · first | (rw [if_neg (fun h => hc69 h.1)] at K99'; exact K99') | (rw [if_neg (fun h => absurd h.2.1 (Int32.not_lt.mpr hc78))] at K99'; exact K99') | (rw [if_neg (fun h => hc90 h.2.2)] at K99'; exact K99') | (rw [if_pos ⟨hc69, Int32.not_le.mp hc78, hc90⟩] at K99'; simp only [wA_s, wA_wA]; exact K99')
        · refine r_aload_n qX4_passFor_93 rfl ?_
          refine r_iload_n qX4_passFor_94 rfl ?_
          refine r_iconst (v := nI 1) qX4_passFor_95 (by decide) ?_
          refine r_cv2 (cu2 := 0) (su2 := 0) qX4_passFor_96 kX4_204 rfl (by decide +kernel) (c := 4) (by assumption) (by decide) rfl rfl rfl rfl rfl rfl ?_
          refine c_X4_lose hM' (by rw [wA_s]; exact hfw) ?_
          show zR E _ _ X 99 _ _ _ _ _ _ _
          first | (rw [if_neg (fun h => hc69 h.1)] at K99'; exact K99') | (rw [if_neg (fun h => absurd h.2.1 (Int32.not_lt.mpr hc78))] at K99'; exact K99') | (rw [if_neg (fun h => hc90 h.2.2)] at K99'; exact K99') | (rw [if_pos ⟨hc69, Int32.not_le.mp hc78, hc90⟩] at K99'; simp only [wA_s, wA_wA]; exact K99')
  have K32 : zR E mX4_passFor (zZ E mX4_passFor K) X 32 [.ref x, .int (nI k), .int (sAround (i r) k - i r (42 + 21 * k + 5)), .int (zb (jabs (sAround (i r) k - i r (42 + 21 * k + 5)) < i r 1)), zJ] [] g i j 0 0 := by
    rw [sWarm] at K61
    refine r_aload_n qX4_passFor_32 rfl ?_
    refine r_iload_n qX4_passFor_33 rfl ?_
    refine r_iconst (v := nI 5) qX4_passFor_34 (by decide) ?_
    refine r_aload_n qX4_passFor_35 rfl ?_
    refine r_iload_n qX4_passFor_36 rfl ?_
    refine r_iconst (v := nI 5) qX4_passFor_37 (by decide) ?_
    refine r_cv2 (cu2 := 0) (su2 := 0) qX4_passFor_38 kX4_148 rfl (by decide +kernel) (c := 4) (by assumption) (by decide) rfl rfl rfl rfl rfl rfl ?_
    refine c_X4_of (by first | assumption | omega | rfl | decide) (by first | assumption | omega | rfl | decide) ?_
    show zR E _ _ X 41 _ _ _ _ _ _ _
    refine r_iload_n qX4_passFor_41 rfl ?_
    refine r_if_eq (t := 49) qX4_passFor_42 (by decide) (fun hc42 => ?_) (fun hc42 => ?_)
    · refine r_iload_n qX4_passFor_49 rfl ?_
      refine r_aload_n qX4_passFor_50 rfl ?_
      refine r_getr qX4_passFor_51 fX4_24 rfl (by assumption) (by first | assumption | rfl) ?_
      refine r_iconst (v := nI 1) qX4_passFor_54 (by decide) ?_
      refine r_ialdN qX4_passFor_55 (by assumption) (by assumption) (by omega) rfl ?_
      refine r_idiv qX4_passFor_56 hlag ?_
      first | with_reducible refine r_iaddN qX4_passFor_57 ?_ | refine r_iadd qX4_passFor_57 ?_
      refine r_cv3 (cu2 := 0) (su2 := 0) qX4_passFor_58 kX4_137 rfl (by decide +kernel) (c := 4) (by assumption) (by decide) rfl rfl rfl rfl rfl rfl ?_
      refine c_X4_set0 (by first | assumption | omega | rfl | decide) (by first | assumption | omega | rfl | decide) ?_
      show zR E _ _ X 61 _ _ _ _ _ _ _
      first | (rw [if_pos (zb_ne.mp hc42)] at K61; exact K61) | (rw [if_neg (zb_0.mp hc42)] at K61; exact K61)
    · refine r_iload_n qX4_passFor_45 rfl ?_
      refine r_goto (t := 57) qX4_passFor_46 (by decide) ?_
      first | with_reducible refine r_iaddN qX4_passFor_57 ?_ | refine r_iadd qX4_passFor_57 ?_
      refine r_cv3 (cu2 := 0) (su2 := 0) qX4_passFor_58 kX4_137 rfl (by decide +kernel) (c := 4) (by assumption) (by decide) rfl rfl rfl rfl rfl rfl ?_
      refine c_X4_set0 (by first | assumption | omega | rfl | decide) (by first | assumption | omega | rfl | decide) ?_
      show zR E _ _ X 61 _ _ _ _ _ _ _
      first | (rw [if_pos (zb_ne.mp hc42)] at K61; exact K61) | (rw [if_neg (zb_0.mp hc42)] at K61; exact K61)
  refine r_aload_n qX4_passFor_0 rfl ?_
  refine r_iload_n qX4_passFor_1 rfl ?_
  refine r_cv1 (cu2 := 0) (su2 := 0) qX4_passFor_2 kX4_169 rfl (by decide +kernel) (c := 4) (by assumption) (by decide) rfl rfl rfl rfl rfl rfl ?_
  refine c_X4_around (by first | assumption | omega | rfl | decide) (by first | assumption | omega | rfl | decide) (by first | assumption | omega | rfl | decide) ?_
  show zR E _ _ X 5 _ _ _ _ _ _ _
  refine r_aload_n qX4_passFor_5 rfl ?_
  refine r_iload_n qX4_passFor_6 rfl ?_
  refine r_iconst (v := nI 5) qX4_passFor_7 (by decide) ?_
  refine r_cv2 (cu2 := 0) (su2 := 0) qX4_passFor_8 kX4_148 rfl (by decide +kernel) (c := 4) (by assumption) (by decide) rfl rfl rfl rfl rfl rfl ?_
  refine c_X4_of (by first | assumption | omega | rfl | decide) (by first | assumption | omega | rfl | decide) ?_
  show zR E _ _ X 11 _ _ _ _ _ _ _
  refine r_isub qX4_passFor_11 ?_
  refine r_is_5_2 qX4_passFor_12 rfl rfl ?_
  refine r_iload_n qX4_passFor_13 rfl ?_
  refine r_mabs qX4_passFor_14 kX4_198 rfl rfl rfl rfl ?_
  refine r_aload_n qX4_passFor_17 rfl ?_
  refine r_getr qX4_passFor_18 fX4_24 rfl (by assumption) (by first | assumption | rfl) ?_
  refine r_iconst (v := nI 1) qX4_passFor_21 (by decide) ?_
  refine r_ialdN qX4_passFor_22 (by assumption) (by assumption) (by omega) rfl ?_
  refine r_icmp_ge (t := 30) qX4_passFor_23 (by decide) (fun hc23 => ?_) (fun hc23 => ?_)
  · refine r_iconst (v := nI 0) qX4_passFor_30 (by decide) ?_
    refine r_is_5_3 qX4_passFor_31 rfl rfl ?_
    first | (rw [zb_f (Int32.not_lt.mpr hc23)] at K32; exact K32) | (rw [zb_t (Int32.not_le.mp hc23)] at K32; exact K32)
  · refine r_iconst (v := nI 1) qX4_passFor_26 (by decide) ?_
    refine r_goto (t := 31) qX4_passFor_27 (by decide) ?_
    refine r_is_5_3 qX4_passFor_31 rfl rfl ?_
    first | (rw [zb_f (Int32.not_lt.mpr hc23)] at K32; exact K32) | (rw [zb_t (Int32.not_le.mp hc23)] at K32; exact K32)
set_option maxHeartbeats 4000000 in
set_option maxRecDepth 20000 in
theorem c_X4_passOne {E : Ev} {g : Sh} {i : Ni} {j : Nj} {K : Kp} {x r : Nat} (hM : zM g x r) (hO : zOk (i r)) (hK : K (.inl none) g (wA i r (sOne (i r))) j) : zCon E mX4_passOne [.ref x] g i j K := by
  refine zcon_of (by decide +kernel) rfl rfl (lo := [.ref x, zJ, zJ]) rfl (fun X => ?_)
  have hM' := hM
  obtain ⟨h1, h2, h3, h4⟩ := hM
  have hO2 : zOk (upd (i r) 2 (i r 2 + nI 1)) := hO.up (Or.inl rfl)
  have e5 : upd (i r) 2 (i r 2 + nI 1) 5 = i r 5 := pk_un (by omega)
  have ho := fun p hp => sTubes_ok hO2 (p := p) hp
  obtain ⟨hT, hT8⟩ := hO.T8
  rw [sOne] at hK
  rw [e5] at ho
  generalize hmm : zn (i r 5) = m at *
  generalize hN : upd (i r) 2 (i r 2 + nI 1) = N0 at *
  have K12 : ∀ n p : Nat, ∀ b : Value, n = m - p → p ≤ m → zR E mX4_passOne (zZ E mX4_passOne K) X 12 [.ref x, .int (nI p), b] [] g (wA i r (sTubes N0 p)) j 0 0 := by
    intro n
    induction n with
    | zero =>
      intro p b hp hpm
      obtain rfl : p = m := by omega
      obtain ⟨o1, o2⟩ := ho p hpm
      refine r_iload_n qX4_passOne_12 rfl ?_
      refine r_aload_n qX4_passOne_13 rfl ?_
      refine r_getr qX4_passOne_14 fX4_24 rfl (by assumption) (by first | assumption | rfl) ?_
      refine r_iconst (v := nI 5) qX4_passOne_17 (by decide) ?_
      refine r_ialdN qX4_passOne_18 (by assumption) (by assumption) (by omega) rfl ?_
      simp only [wA_s]; rw [o2, hT]
      refine r_icmp_ge (t := 72) qX4_passOne_19 (by decide) (fun hc19 => ?_) (fun hc19 => absurd hc19 (fun h => h (nI_le (by omega) (by omega))))
      refine r_vret qX4_passOne_72 rfl rfl rfl ?_
      exact hK
    | succ n ih =>
      intro p b hp hpm
      have hpl : p < m := by omega
      obtain ⟨o1, o2⟩ := ho p hpm
      refine r_iload_n qX4_passOne_12 rfl ?_
      refine r_aload_n qX4_passOne_13 rfl ?_
      refine r_getr qX4_passOne_14 fX4_24 rfl (by assumption) (by first | assumption | rfl) ?_
      refine r_iconst (v := nI 5) qX4_passOne_17 (by decide) ?_
      refine r_ialdN qX4_passOne_18 (by assumption) (by assumption) (by omega) rfl ?_
      simp only [wA_s]; rw [o2, hT]
      refine r_icmp_ge (t := 72) qX4_passOne_19 (by decide) (fun hc19 => absurd hc19 (nI_ge hpl (by omega))) (fun hc19 => ?_)
      refine r_aload_n qX4_passOne_22 rfl ?_
      refine r_iload_n qX4_passOne_23 rfl ?_
      refine r_cv1 (cu2 := 0) (su2 := 0) qX4_passOne_24 kX4_208 rfl (by decide +kernel) (c := 4) (by assumption) (by decide) rfl rfl rfl rfl rfl rfl ?_
      refine c_X4_passFor hM' (by rw [wA_s]; exact o1) (by rw [wA_s, o2, hmm]; exact hpl) ?_
      show zR E _ _ X 27 _ _ _ _ _ _ _
      simp only [wA_s, wA_wA]
      refine r_is_3_2 qX4_passOne_27 rfl rfl ?_
      refine r_aload_n qX4_passOne_28 rfl ?_
      refine r_getr qX4_passOne_29 fX4_24 rfl (by assumption) (by first | assumption | rfl) ?_
      refine r_bipush (v := nI 9) qX4_passOne_32 (by decide) ?_
      refine r_iload_n qX4_passOne_34 rfl ?_
      refine r_if_le (t := 52) qX4_passOne_35 (by decide) (fun hc35 => ?_) (fun hc35 => ?_)
      · refine r_aload_n qX4_passOne_52 rfl ?_
        refine r_getr qX4_passOne_53 fX4_24 rfl (by assumption) (by first | assumption | rfl) ?_
        refine r_bipush (v := nI 9) qX4_passOne_56 (by decide) ?_
        refine r_ialdN qX4_passOne_58 (by assumption) (by assumption) (by omega) rfl ?_
        refine r_iconst (v := nI 1) qX4_passOne_59 (by decide) ?_
        refine r_iload_n qX4_passOne_60 rfl ?_
        simp only [wA_s]
        refine r_ishl qX4_passOne_61 ?_
        refine r_iconst (v := (-1)) qX4_passOne_62 (by decide) ?_
        refine r_ixor qX4_passOne_63 ?_
        refine r_iand qX4_passOne_64 ?_
        refine r_iastN qX4_passOne_65 (by assumption) (by assumption) (by omega) rfl ?_
        simp only [wA_s, wA_wA]
        refine r_ii_3_1 qX4_passOne_66 rfl rfl (nI_inc p) ?_
        refine r_goto (t := 12) qX4_passOne_69 (by decide) ?_
        have z := fun b => ih (p + 1) b (by omega) (by omega); simp only [sTubes, sTube] at z; first | (rw [if_pos (Int32.not_le.mp hc35)] at z; exact z _) | (rw [if_neg (Int32.not_lt.mpr hc35)] at z; exact z _)
      · refine r_aload_n qX4_passOne_38 rfl ?_
        refine r_getr qX4_passOne_39 fX4_24 rfl (by assumption) (by first | assumption | rfl) ?_
        refine r_bipush (v := nI 9) qX4_passOne_42 (by decide) ?_
        refine r_ialdN qX4_passOne_44 (by assumption) (by assumption) (by omega) rfl ?_
        refine r_iconst (v := nI 1) qX4_passOne_45 (by decide) ?_
        refine r_iload_n qX4_passOne_46 rfl ?_
        simp only [wA_s]
        refine r_ishl qX4_passOne_47 ?_
        refine r_ior qX4_passOne_48 ?_
        refine r_goto (t := 65) qX4_passOne_49 (by decide) ?_
        refine r_iastN qX4_passOne_65 (by assumption) (by assumption) (by omega) rfl ?_
        simp only [wA_s, wA_wA]
        refine r_ii_3_1 qX4_passOne_66 rfl rfl (nI_inc p) ?_
        refine r_goto (t := 12) qX4_passOne_69 (by decide) ?_
        have z := fun b => ih (p + 1) b (by omega) (by omega); simp only [sTubes, sTube] at z; first | (rw [if_pos (Int32.not_le.mp hc35)] at z; exact z _) | (rw [if_neg (Int32.not_lt.mpr hc35)] at z; exact z _)
  refine r_aload_n qX4_passOne_0 rfl ?_
  refine r_getr qX4_passOne_1 fX4_24 rfl (by assumption) (by first | assumption | rfl) ?_
  refine r_iconst (v := nI 2) qX4_passOne_4 (by decide) ?_
  refine r_dup2 qX4_passOne_5 rfl rfl ?_
  refine r_ialdN qX4_passOne_6 (by assumption) (by assumption) (by omega) rfl ?_
  refine r_iconst (v := nI 1) qX4_passOne_7 (by decide) ?_
  first | with_reducible refine r_iaddN qX4_passOne_8 ?_ | refine r_iadd qX4_passOne_8 ?_
  refine r_iastN qX4_passOne_9 (by assumption) (by assumption) (by omega) rfl ?_
  refine r_iconst (v := nI 0) qX4_passOne_10 (by decide) ?_
  refine r_is_3_1 qX4_passOne_11 rfl rfl ?_
  rw [hN]; exact K12 m 0 _ (by omega) (by omega)
set_option maxHeartbeats 4000000 in
set_option maxRecDepth 20000 in
theorem c_X4_walk {E : Ev} {g : Sh} {i : Ni} {j : Nj} {K : Kp} {x r n : Nat} (hM : zM g x r) (hO : zOk (i r)) (hn : n < 1000) (hK : K (.inl none) g (wA i r (sWalk (i r) n)) j) : zCon E mX4_walk [.ref x, .int (nI n)] g i j K := by
  refine zcon_of (by decide +kernel) rfl rfl (lo := [.ref x, .int (nI n), zJ]) rfl (fun X => ?_)
  have hM' := hM
  obtain ⟨h1, h2, h3, h4⟩ := hM
  have K2 : ∀ q p : Nat, q = n - p → p ≤ n → zR E mX4_walk (zZ E mX4_walk K) X 2 [.ref x, .int (nI n), .int (nI p)] [] g (wA i r (sWalk (i r) p)) j 0 0 := by
    intro q
    induction q with
    | zero =>
      intro p hp hpm
      obtain rfl : p = n := by omega
      refine r_iload_n qX4_walk_2 rfl ?_
      refine r_iload_n qX4_walk_3 rfl ?_
      refine r_icmp_ge (t := 17) qX4_walk_4 (by decide) (fun hc4 => ?_) (fun hc4 => absurd hc4 (fun h => h (nI_le (by omega) (by omega))))
      refine r_vret qX4_walk_17 rfl rfl rfl ?_
      exact hK
    | succ q ih =>
      intro p hp hpm
      refine r_iload_n qX4_walk_2 rfl ?_
      refine r_iload_n qX4_walk_3 rfl ?_
      refine r_icmp_ge (t := 17) qX4_walk_4 (by decide) (fun hc4 => absurd hc4 (nI_ge (by omega) (by omega))) (fun hc4 => ?_)
      refine r_aload_n qX4_walk_7 rfl ?_
      refine r_cv0 (cu2 := 0) (su2 := 0) qX4_walk_8 kX4_211 rfl (by decide +kernel) (c := 4) (by assumption) (by decide) rfl rfl rfl rfl rfl rfl ?_
      refine c_X4_passOne hM' (by rw [wA_s]; exact (sWalk_ok hO p).1) ?_
      show zR E _ _ X 11 _ _ _ _ _ _ _
      simp only [wA_s, wA_wA]
      refine r_ii_3_2 qX4_walk_11 rfl rfl (nI_inc p) ?_
      refine r_goto (t := 2) qX4_walk_14 (by decide) ?_
      exact ih (p + 1) (by omega) (by omega)
  refine r_iconst (v := nI 0) qX4_walk_0 (by decide) ?_
  refine r_is_3_2 qX4_walk_1 rfl rfl ?_
  have z := K2 n 0 (by omega) (by omega); rw [sWalk, wA_self] at z; exact z

