/-! ===== THE CLASS: A TUBE CHANGES ===== -/
set_option maxHeartbeats 4000000 in
set_option maxRecDepth 20000 in
theorem c_X2_free {E : Ev} {g : Sh} {i : Ni} {j : Nj} {K : Kp} {u m : Nat} {t a b c : Int32} (w1 : gT g u = 3) (f8 : i u 8 = nI m) (hm1 : 1 ≤ m) (hm9 : m ≤ 9) (f10 : i u 10 = a) (f7 : i u 7 = b) (f6 : i u 6 = c) (hK : K (.inl (some (.int (a + b * c * (t + nI 300) / nI (m * 1000))))) g i j) : zCon E mX2_freeHeight [.ref u, .int t] g i j K := by
  refine zcon_of (by decide +kernel) rfl rfl (lo := [.ref u, .int t, zJ]) rfl (fun X => ?_)
  have hp : 0 < nI (m * 1000) := by rw [← nI_0]; exact nI_lt (by omega) (by omega)
  have hz : ¬ nI (m * 1000) = 0 := fun h => by rw [h] at hp; exact absurd hp (by decide)
  refine r_aload_n qX2_freeHeight_0 rfl ?_
  refine r_geti qX2_freeHeight_1 fX2_22 rfl (by assumption) ?_
  rw [f8]
  refine r_sipush (v := nI 1000) qX2_freeHeight_4 (by decide) ?_
  first | with_reducible refine r_imulN qX2_freeHeight_7 ?_ | refine r_imul qX2_freeHeight_7 ?_
  refine r_is_3_2 qX2_freeHeight_8 rfl rfl ?_
  refine r_iload_n qX2_freeHeight_9 rfl ?_
  refine r_if_gt (t := 18) qX2_freeHeight_10 (by decide) (fun hc10 => ?_) (fun hc10 => absurd hc10 (fun h => h hp))
  refine r_aload_n qX2_freeHeight_18 rfl ?_
  refine r_geti qX2_freeHeight_19 fX2_52 rfl (by assumption) ?_
  rw [f10]
  refine r_aload_n qX2_freeHeight_22 rfl ?_
  refine r_geti qX2_freeHeight_23 fX2_46 rfl (by assumption) ?_
  rw [f7]
  refine r_aload_n qX2_freeHeight_26 rfl ?_
  refine r_geti qX2_freeHeight_27 fX2_43 rfl (by assumption) ?_
  rw [f6]
  first | with_reducible refine r_imulN qX2_freeHeight_30 ?_ | refine r_imul qX2_freeHeight_30 ?_
  refine r_iload_n qX2_freeHeight_31 rfl ?_
  refine r_sipush (v := nI 300) qX2_freeHeight_32 (by decide) ?_
  first | with_reducible refine r_iaddN qX2_freeHeight_35 ?_ | refine r_iadd qX2_freeHeight_35 ?_
  first | with_reducible refine r_imulN qX2_freeHeight_36 ?_ | refine r_imul qX2_freeHeight_36 ?_
  refine r_iload_n qX2_freeHeight_37 rfl ?_
  refine r_idiv qX2_freeHeight_38 hz ?_
  first | with_reducible refine r_iaddN qX2_freeHeight_39 ?_ | refine r_iadd qX2_freeHeight_39 ?_
  refine r_iret qX2_freeHeight_40 rfl rfl rfl rfl ?_
  exact hK
/-- what leaks from tube k in the minute of the row -/
def sLk (N : Nat → Int32) (k : Nat) : Int32 := if N (42 + 21 * k + 6) = nI 1 ∧ 0 < N (42 + 21 * k + 4) ∧ N 2 - N 2 / nI 10 * nI 10 = 0 then nI 1 else nI 0
def sDry (N : Nat → Int32) (k : Nat) : Nat → Int32 := sLeak (sWarm N k) k
theorem sDry_c {N : Nat → Int32} (hO : zOk N) {k : Nat} (hk : k < zn (N 5)) : sDry N k = if N (42 + 21 * k + 6) = nI 1 ∧ 0 < N (42 + 21 * k + 4) ∧ N 2 - N 2 / nI 10 * nI 10 = 0 then sLose (sWarm N k) k (nI 1) else sWarm N k := by
  have h8 := hO.k8 hk
  rw [sDry, sLeak, sWarm_n (show 42 + 21 * k + 6 ≠ 42 + 21 * k + 5 by omega), sWarm_n (show 42 + 21 * k + 4 ≠ 42 + 21 * k + 5 by omega), sWarm_n (show 2 ≠ 42 + 21 * k + 5 by omega)]
theorem sDry_n {N : Nat → Int32} (hO : zOk N) {k s w : Nat} (hk : k < zn (N 5)) (hs : N (42 + 21 * k + 0) = nI s) (h5 : s < 5) (h1 : w ≠ 42 + 21 * k + 4) (h2 : w ≠ 42 + 21 * k + 5) (h3 : w ≠ 10 + 4 * s + 3) : sDry N k w = N w := by
  rw [sDry, sLeak_n (by rw [sWarm_n (by omega)]; exact hs) h5 h1 h3, sWarm_n h2]
theorem sDry_5 {N : Nat → Int32} (hO : zOk N) {k : Nat} (hk : k < zn (N 5)) : sDry N k (42 + 21 * k + 5) = sWarm N k (42 + 21 * k + 5) := by
  obtain ⟨s, s1, s2, s3⟩ := hO.S hk
  rw [sDry, sLeak_n (by rw [sWarm_n (by omega)]; exact s1) s3 (by omega) (by omega)]
theorem sDry_4 {N : Nat → Int32} (hO : zOk N) {k : Nat} (hk : k < zn (N 5)) : sDry N k (42 + 21 * k + 4) = N (42 + 21 * k + 4) - sLk N k := by
  obtain ⟨s, s1, s2, s3⟩ := hO.S hk
  rw [sDry_c hO hk, sLk]
  split
  · rw [sLose_f (by rw [sWarm_n (by omega)]; exact s1) s3, sWarm_n (by omega)]
  · rw [sWarm_n (by omega), nI_0, Int32.sub_zero]
theorem sDry_in {N : Nat → Int32} (hO : zOk N) {k : Nat} (hk : k < zn (N 5)) : zIn (N (42 + 21 * k + 4) - sLk N k) 0 999 := by
  obtain ⟨-, -, -, -, a4, -⟩ := hO.tu hk
  rw [sLk]
  split
  · rename_i h
    have h2 := h.2.1
    rw [Int32.lt_iff_toInt_lt] at h2
    have e := sub_in a4 (show zIn (nI 1) 1 1 from ⟨by decide, by decide⟩) (by decide) (by decide) (by decide) (by decide)
    obtain ⟨a, b⟩ := a4
    rw [show (nI 1).toInt = 1 by decide] at e
    rw [show (0 : Int32).toInt = 0 by decide] at h2
    exact ⟨by omega, by omega⟩
  · rw [nI_0, Int32.sub_zero]; exact a4
theorem sOut_e {N : Nat → Int32} (hO : zOk N) {k : Nat} (hk : k < zn (N 5)) {m : Nat} (hm : N (42 + 21 * k + 2) = nI m) : sOut N k = jmin (N (42 + 21 * k + 4) - sLk N k) (jmax (nI 0) (N (42 + 21 * k + 4) - sLk N k + N (42 + 21 * k + 1) * N (10 + 4 * zn (N (42 + 21 * k + 0)) + 2) * (sWarm N k (42 + 21 * k + 5) + nI 300) / nI (m * 1000) - N (42 + 21 * k + 3))) := by
  obtain ⟨s, s1, s2, s3⟩ := hO.S hk
  have D : ∀ w, w ≠ 42 + 21 * k + 4 → w ≠ 42 + 21 * k + 5 → w ≠ 10 + 4 * s + 3 → sDry N k w = N w := fun w => sDry_n hO hk s1 s3
  show sSpilt (sDry N k) k = _
  rw [sSpilt, sFree, sDry_4 hO hk, sDry_5 hO hk, D (42 + 21 * k + 0) (by omega) (by omega) (by omega), D (42 + 21 * k + 1) (by omega) (by omega) (by omega), D (42 + 21 * k + 2) (by omega) (by omega) (by omega), D (42 + 21 * k + 3) (by omega) (by omega) (by omega), s1, zn_nI (by omega), D (10 + 4 * s + 2) (by omega) (by omega) (by omega), hm, nI_mulN, Nat.mul_comm 1000 m]
theorem jmax_y {e : Int32} (h : ¬ e ≤ 0) : jmax (nI 0) e = e := by
  rw [jmax, if_pos (by rw [nI_0]; exact Int32.not_le.mp h)]
theorem jmax_n {e : Int32} (h : e ≤ 0) : jmax (nI 0) e = nI 0 := by
  rw [jmax, if_neg (by rw [nI_0]; exact Int32.not_lt.mpr h)]
theorem jmin_0 {f : Int32} (h : zIn f 0 999) : jmin f (nI 0) = nI 0 := by
  rw [jmin]
  split
  · rfl
  · rename_i h2
    obtain ⟨a, b⟩ := h
    rw [nI_0, Int32.lt_iff_toInt_lt, show (0 : Int32).toInt = 0 by decide] at h2
    rw [nI_0]
    refine Int32.toInt_inj.mp ?_
    rw [show (0 : Int32).toInt = 0 by decide]
    omega
set_option maxHeartbeats 4000000 in
set_option maxRecDepth 20000 in
theorem c_X2_passMinute {E : Ev} {g : Sh} {i : Ni} {j : Nj} {K : Kp} {u d h k : Nat} {N : Nat → Int32} (hT : zT3 g u d h) (hH : tH (i u) (i d) (i h) N k) (hO : zOk N) (hk : k < zn (N 5)) (hK : ∀ F : Nat → Int32, F 10 = N (42 + 21 * k + 4) - sLk N k - sOut N k → F 11 = sWarm N k (42 + 21 * k + 5) → F 15 = i u 15 + (sLk N k + sOut N k) → F 16 = sOut N k → (∀ f, f ≠ 10 → f ≠ 11 → f ≠ 15 → f ≠ 16 → F f = i u f) → K (.inl (some (.int (sLk N k + sOut N k)))) g (wA i u F) j) : zCon E mX2_passMinute [.ref u, .int (N 2), .int (sAround N k), .int (N 1)] g i j K := by
  refine zcon_of (by decide +kernel) rfl rfl (lo := [.ref u, .int (N 2), .int (sAround N k), .int (N 1), zJ, zJ, zJ]) rfl (fun X => ?_)
  have w1 := hT.1
  obtain ⟨f0, f3, f4, f6, f7, f8, f9, f10, f11, f12, f13, fP⟩ := id hH
  obtain ⟨-, b1, b2, b3, b4, b5, b6, -⟩ := hO.tu hk
  obtain ⟨m, hm, m9, m1⟩ := b2.ex (by decide)
  have hlag := hO.lag
  have hlg := hO.2.2.2.1
  have hl0 : ¬ N 1 ≤ 0 := fun h => by
    rw [Int32.le_iff_toInt_le, show (0 : Int32).toInt = 0 by decide] at h
    have := hlg.1
    omega
  have hso := sOut_e hO hk hm
  have hin := sDry_in hO hk
  have K115 : ∀ (w l v e : Int32), w = sWarm N k (42 + 21 * k + 5) → l = sLk N k → v = sOut N k → zR E mX2_passMinute (zZ E mX2_passMinute K) X 115 [.ref u, .int (N 2), .int (sAround N k), .int (N 1), .int (sAround N k - N (42 + 21 * k + 5)), .int l, .int e] [.int v, .ref u] g (wA i u (upd (upd (i u) 11 w) 10 (N (42 + 21 * k + 4) - l))) j 0 0 := by
    intro w l v e hw hl hv
    refine r_puti qX2_passMinute_115 fX2_68 (Or.inl rfl) rfl rfl rfl (by assumption) ?_
    simp only [wA_s, wA_wA]
    refine r_aload_n qX2_passMinute_118 rfl ?_
    refine r_dup qX2_passMinute_119 rfl ?_
    refine r_geti qX2_passMinute_120 fX2_52 rfl (by assumption) ?_
    simp (disch := decide) only [wA_s, pk_us, pk_un]
    refine r_aload_n qX2_passMinute_123 rfl ?_
    refine r_geti qX2_passMinute_124 fX2_68 rfl (by assumption) ?_
    simp (disch := decide) only [wA_s, pk_us, pk_un]
    refine r_isub qX2_passMinute_127 ?_
    refine r_puti qX2_passMinute_128 fX2_52 (Or.inl rfl) rfl rfl rfl (by assumption) ?_
    simp only [wA_s, wA_wA]
    refine r_aload_n qX2_passMinute_131 rfl ?_
    refine r_dup qX2_passMinute_132 rfl ?_
    refine r_geti qX2_passMinute_133 fX2_65 rfl (by assumption) ?_
    simp (disch := decide) only [wA_s, pk_us, pk_un]
    refine r_iload qX2_passMinute_136 rfl ?_
    refine r_aload_n qX2_passMinute_138 rfl ?_
    refine r_geti qX2_passMinute_139 fX2_68 rfl (by assumption) ?_
    simp (disch := decide) only [wA_s, pk_us, pk_un]
    first | with_reducible refine r_iaddN qX2_passMinute_142 ?_ | refine r_iadd qX2_passMinute_142 ?_
    first | with_reducible refine r_iaddN qX2_passMinute_143 ?_ | refine r_iadd qX2_passMinute_143 ?_
    refine r_puti qX2_passMinute_144 fX2_65 (Or.inl rfl) rfl rfl rfl (by assumption) ?_
    simp only [wA_s, wA_wA]
    refine r_iload qX2_passMinute_147 rfl ?_
    refine r_aload_n qX2_passMinute_149 rfl ?_
    refine r_geti qX2_passMinute_150 fX2_68 rfl (by assumption) ?_
    simp (disch := decide) only [wA_s, pk_us, pk_un]
    first | with_reducible refine r_iaddN qX2_passMinute_153 ?_ | refine r_iadd qX2_passMinute_153 ?_
    refine r_iret qX2_passMinute_154 rfl rfl rfl rfl ?_
    rw [← hl, ← hv] at hK; exact hK _ (by simp (disch := decide) only [pk_us, pk_un]) (by simp (disch := decide) only [pk_us, pk_un]; exact hw) (by simp (disch := decide) only [pk_us, pk_un]) (by simp (disch := decide) only [pk_us, pk_un]) (fun f a1 a2 a3 a4 => by rw [pk_un a3, pk_un a1, pk_un a4, pk_un a1, pk_un a2])
  have K68 : ∀ (w l : Int32), w = sWarm N k (42 + 21 * k + 5) → l = sLk N k → zR E mX2_passMinute (zZ E mX2_passMinute K) X 68 [.ref u, .int (N 2), .int (sAround N k), .int (N 1), .int (sAround N k - N (42 + 21 * k + 5)), zJ, zJ] [.int l] g (wA i u (upd (i u) 11 w)) j 0 0 := by
    intro w l hw hl
    rw [← hw, ← hl] at hso
    rw [← hl] at hin
    refine r_is_7_5 qX2_passMinute_68 rfl rfl ?_
    refine r_aload_n qX2_passMinute_70 rfl ?_
    refine r_dup qX2_passMinute_71 rfl ?_
    refine r_geti qX2_passMinute_72 fX2_52 rfl (by assumption) ?_
    simp (disch := decide) only [wA_s, pk_us, pk_un, f10]
    refine r_iload qX2_passMinute_75 rfl ?_
    refine r_isub qX2_passMinute_77 ?_
    refine r_puti qX2_passMinute_78 fX2_52 (Or.inl rfl) rfl rfl rfl (by assumption) ?_
    simp only [wA_s, wA_wA]
    refine r_aload_n qX2_passMinute_81 rfl ?_
    refine r_aload_n qX2_passMinute_82 rfl ?_
    refine r_geti qX2_passMinute_83 fX2_55 rfl (by assumption) ?_
    simp (disch := decide) only [wA_s, pk_us, pk_un]
    refine r_cv1 (cu2 := 0) (su2 := 0) qX2_passMinute_86 kX2_71 rfl (by decide +kernel) (c := 2) (by assumption) (by decide) rfl rfl rfl rfl rfl rfl ?_
    refine c_X2_free w1 (m := m) (by simp (disch := decide) only [wA_s, pk_us, pk_un, f8, hm]) (by omega) (by omega) (a := N (42 + 21 * k + 4) - l) (b := N (42 + 21 * k + 1)) (c := N (10 + 4 * zn (N (42 + 21 * k + 0)) + 2)) (by simp (disch := decide) only [wA_s, pk_us, pk_un]) (by simp (disch := decide) only [wA_s, pk_us, pk_un, f7]) (by simp (disch := decide) only [wA_s, pk_us, pk_un, f6]) ?_
    show zR E _ _ X 89 _ _ _ _ _ _ _
    refine r_aload_n qX2_passMinute_89 rfl ?_
    refine r_geti qX2_passMinute_90 fX2_49 rfl (by assumption) ?_
    simp (disch := decide) only [wA_s, pk_us, pk_un, f9]
    refine r_isub qX2_passMinute_93 ?_
    refine r_is_7_6 qX2_passMinute_94 rfl rfl ?_
    refine r_aload_n qX2_passMinute_96 rfl ?_
    refine r_iload qX2_passMinute_97 rfl ?_
    refine r_if_le (t := 114) qX2_passMinute_99 (by decide) (fun hc99 => ?_) (fun hc99 => ?_)
    · refine r_iconst (v := nI 0) qX2_passMinute_114 (by decide) ?_
      first | exact K115 w l _ _ hw hl (by rw [hso, jmax_n hc99, jmin_0 hin]) | exact K115 w l _ _ hw hl (by rw [hso, jmax_y hc99, jmin_c])
    · refine r_iload qX2_passMinute_102 rfl ?_
      refine r_aload_n qX2_passMinute_104 rfl ?_
      refine r_geti qX2_passMinute_105 fX2_52 rfl (by assumption) ?_
      simp (disch := decide) only [wA_s, pk_us, pk_un]
      refine r_mmin qX2_passMinute_108 kX2_75 rfl rfl rfl rfl ?_
      refine r_goto (t := 115) qX2_passMinute_111 (by decide) ?_
      first | exact K115 w l _ _ hw hl (by rw [hso, jmax_n hc99, jmin_0 hin]) | exact K115 w l _ _ hw hl (by rw [hso, jmax_y hc99, jmin_c])
  have K42 : ∀ w : Int32, w = sWarm N k (42 + 21 * k + 5) → zR E mX2_passMinute (zZ E mX2_passMinute K) X 42 [.ref u, .int (N 2), .int (sAround N k), .int (N 1), .int (sAround N k - N (42 + 21 * k + 5)), zJ, zJ] [] g (wA i u (upd (i u) 11 w)) j 0 0 := by
    intro w hw
    refine r_aload_n qX2_passMinute_42 rfl ?_
    refine r_geti qX2_passMinute_43 fX2_58 rfl (by assumption) ?_
    simp (disch := decide) only [wA_s, pk_us, pk_un, f13]
    refine r_if_eq (t := 67) qX2_passMinute_46 (by decide) (fun hc46 => ?_) (fun hc46 => ?_)
    · refine r_iconst (v := nI 0) qX2_passMinute_67 (by decide) ?_
      first | exact K68 w _ hw (by rw [sLk, if_neg (fun h => absurd (hc46.symm.trans h.1) (by decide))]) | exact K68 w _ hw (by rw [sLk, if_neg (fun h => absurd h.2.1 (Int32.not_lt.mpr hc53))]) | exact K68 w _ hw (by rw [sLk, if_neg (fun h => hc60 h.2.2)]) | exact K68 w _ hw (by rw [sLk, if_pos ⟨b6.resolve_left (fun h => hc46 (h.trans nI_0)), Int32.not_le.mp hc53, hc60⟩])
    · refine r_aload_n qX2_passMinute_49 rfl ?_
      refine r_geti qX2_passMinute_50 fX2_52 rfl (by assumption) ?_
      simp (disch := decide) only [wA_s, pk_us, pk_un, f10]
      refine r_if_le (t := 67) qX2_passMinute_53 (by decide) (fun hc53 => ?_) (fun hc53 => ?_)
      · refine r_iconst (v := nI 0) qX2_passMinute_67 (by decide) ?_
        first | exact K68 w _ hw (by rw [sLk, if_neg (fun h => absurd (hc46.symm.trans h.1) (by decide))]) | exact K68 w _ hw (by rw [sLk, if_neg (fun h => absurd h.2.1 (Int32.not_lt.mpr hc53))]) | exact K68 w _ hw (by rw [sLk, if_neg (fun h => hc60 h.2.2)]) | exact K68 w _ hw (by rw [sLk, if_pos ⟨b6.resolve_left (fun h => hc46 (h.trans nI_0)), Int32.not_le.mp hc53, hc60⟩])
      · refine r_iload_n qX2_passMinute_56 rfl ?_
        refine r_bipush (v := nI 10) qX2_passMinute_57 (by decide) ?_
        refine r_irem qX2_passMinute_59 (by decide) ?_
        refine r_if_ne (t := 67) qX2_passMinute_60 (by decide) (fun hc60 => ?_) (fun hc60 => ?_)
        · refine r_iconst (v := nI 0) qX2_passMinute_67 (by decide) ?_
          first | exact K68 w _ hw (by rw [sLk, if_neg (fun h => absurd (hc46.symm.trans h.1) (by decide))]) | exact K68 w _ hw (by rw [sLk, if_neg (fun h => absurd h.2.1 (Int32.not_lt.mpr hc53))]) | exact K68 w _ hw (by rw [sLk, if_neg (fun h => hc60 h.2.2)]) | exact K68 w _ hw (by rw [sLk, if_pos ⟨b6.resolve_left (fun h => hc46 (h.trans nI_0)), Int32.not_le.mp hc53, hc60⟩])
        · refine r_iconst (v := nI 1) qX2_passMinute_63 (by decide) ?_
          refine r_goto (t := 68) qX2_passMinute_64 (by decide) ?_
          first | exact K68 w _ hw (by rw [sLk, if_neg (fun h => absurd (hc46.symm.trans h.1) (by decide))]) | exact K68 w _ hw (by rw [sLk, if_neg (fun h => absurd h.2.1 (Int32.not_lt.mpr hc53))]) | exact K68 w _ hw (by rw [sLk, if_neg (fun h => hc60 h.2.2)]) | exact K68 w _ hw (by rw [sLk, if_pos ⟨b6.resolve_left (fun h => hc46 (h.trans nI_0)), Int32.not_le.mp hc53, hc60⟩])
  refine r_iload_n qX2_passMinute_0 rfl ?_
  refine r_aload_n qX2_passMinute_1 rfl ?_
  refine r_geti qX2_passMinute_2 fX2_55 rfl (by assumption) ?_
  rw [f11]
  refine r_isub qX2_passMinute_5 ?_
  refine r_is_7_4 qX2_passMinute_6 rfl rfl ?_
  refine r_iload_n qX2_passMinute_8 rfl ?_
  refine r_if_le (t := 21) qX2_passMinute_9 (by decide) (fun hc9 => absurd hc9 (hl0)) (fun hc9 => ?_)
  refine r_iload qX2_passMinute_12 rfl ?_
  refine r_mabs qX2_passMinute_14 kX2_81 rfl rfl rfl rfl ?_
  refine r_iload_n qX2_passMinute_17 rfl ?_
  refine r_icmp_ge (t := 29) qX2_passMinute_18 (by decide) (fun hc18 => ?_) (fun hc18 => ?_)
  · refine r_aload_n qX2_passMinute_29 rfl ?_
    refine r_dup qX2_passMinute_30 rfl ?_
    refine r_geti qX2_passMinute_31 fX2_55 rfl (by assumption) ?_
    rw [f11]
    refine r_iload qX2_passMinute_34 rfl ?_
    refine r_iload_n qX2_passMinute_36 rfl ?_
    refine r_idiv qX2_passMinute_37 hlag ?_
    first | with_reducible refine r_iaddN qX2_passMinute_38 ?_ | refine r_iadd qX2_passMinute_38 ?_
    refine r_puti qX2_passMinute_39 fX2_55 (Or.inl rfl) rfl rfl rfl (by assumption) ?_
    first | exact K42 _ (by rw [sWarm, pk_us, if_pos (Int32.not_le.mp hc18), Int32.add_comm, Int32.sub_add_cancel]) | exact K42 _ (by rw [sWarm, pk_us, if_neg (Int32.not_lt.mpr hc18)])
  · refine r_aload_n qX2_passMinute_21 rfl ?_
    refine r_iload_n qX2_passMinute_22 rfl ?_
    refine r_puti qX2_passMinute_23 fX2_55 (Or.inl rfl) rfl rfl rfl (by assumption) ?_
    refine r_goto (t := 42) qX2_passMinute_26 (by decide) ?_
    first | exact K42 _ (by rw [sWarm, pk_us, if_pos (Int32.not_le.mp hc18), Int32.add_comm, Int32.sub_add_cancel]) | exact K42 _ (by rw [sWarm, pk_us, if_neg (Int32.not_lt.mpr hc18)])
set_option maxHeartbeats 4000000 in
set_option maxRecDepth 20000 in
theorem c_X2_describe {E : Ev} {g : Sh} {i : Ni} {j : Nj} {K : Kp} {u : Nat} {a b c e t : Int32} (w1 : gT g u = 3) (hK : K (.inl none) g (wA i u (upd (upd (upd (upd (upd (upd (upd (upd (upd (upd (upd (i u) 7 a) 8 b) 9 c) 10 e) 14 e) 11 t) 3 (nI 0)) 12 (-1)) 13 (nI 0)) 15 (nI 0)) 16 (nI 0))) j) : zCon E mX2_describe [.ref u, .int a, .int b, .int c, .int e, .int t] g i j K := by
  refine zcon_of (by decide +kernel) rfl rfl (lo := [.ref u, .int a, .int b, .int c, .int e, .int t]) rfl (fun X => ?_)
  refine r_aload_n qX2_describe_0 rfl ?_
  refine r_iload_n qX2_describe_1 rfl ?_
  refine r_puti qX2_describe_2 fX2_46 (Or.inl rfl) rfl rfl rfl (by assumption) ?_
  refine r_aload_n qX2_describe_5 rfl ?_
  refine r_iload_n qX2_describe_6 rfl ?_
  refine r_puti qX2_describe_7 fX2_22 (Or.inl rfl) rfl rfl rfl (by assumption) ?_
  simp only [wA_s, wA_wA]
  refine r_aload_n qX2_describe_10 rfl ?_
  refine r_iload_n qX2_describe_11 rfl ?_
  refine r_puti qX2_describe_12 fX2_49 (Or.inl rfl) rfl rfl rfl (by assumption) ?_
  simp only [wA_s, wA_wA]
  refine r_aload_n qX2_describe_15 rfl ?_
  refine r_iload qX2_describe_16 rfl ?_
  refine r_puti qX2_describe_18 fX2_52 (Or.inl rfl) rfl rfl rfl (by assumption) ?_
  simp only [wA_s, wA_wA]
  refine r_aload_n qX2_describe_21 rfl ?_
  refine r_iload qX2_describe_22 rfl ?_
  refine r_puti qX2_describe_24 fX2_62 (Or.inl rfl) rfl rfl rfl (by assumption) ?_
  simp only [wA_s, wA_wA]
  refine r_aload_n qX2_describe_27 rfl ?_
  refine r_iload qX2_describe_28 rfl ?_
  refine r_puti qX2_describe_30 fX2_55 (Or.inl rfl) rfl rfl rfl (by assumption) ?_
  simp only [wA_s, wA_wA]
  refine r_aload_n qX2_describe_33 rfl ?_
  refine r_iconst (v := nI 0) qX2_describe_34 (by decide) ?_
  refine r_puti qX2_describe_35 fX2_34 (Or.inl rfl) rfl rfl rfl (by assumption) ?_
  simp only [wA_s, wA_wA]
  refine r_aload_n qX2_describe_38 rfl ?_
  refine r_iconst (v := (-1)) qX2_describe_39 (by decide) ?_
  refine r_puti qX2_describe_40 fX2_25 (Or.inl rfl) rfl rfl rfl (by assumption) ?_
  simp only [wA_s, wA_wA]
  refine r_aload_n qX2_describe_43 rfl ?_
  refine r_iconst (v := nI 0) qX2_describe_44 (by decide) ?_
  refine r_puti qX2_describe_45 fX2_58 (Or.inl rfl) rfl (by first | rfl | decide | assumption) (by first | rfl | decide | assumption) (by assumption) ?_
  simp only [wA_s, wA_wA]
  refine r_aload_n qX2_describe_48 rfl ?_
  refine r_iconst (v := nI 0) qX2_describe_49 (by decide) ?_
  refine r_puti qX2_describe_50 fX2_65 (Or.inl rfl) rfl rfl rfl (by assumption) ?_
  simp only [wA_s, wA_wA]
  refine r_aload_n qX2_describe_53 rfl ?_
  refine r_iconst (v := nI 0) qX2_describe_54 (by decide) ?_
  refine r_puti qX2_describe_55 fX2_68 (Or.inl rfl) rfl rfl rfl (by assumption) ?_
  simp only [wA_s, wA_wA]
  refine r_vret qX2_describe_58 rfl rfl rfl ?_
  exact hK
set_option maxHeartbeats 4000000 in
set_option maxRecDepth 20000 in
theorem c_X2_holdSpirit {E : Ev} {g : Sh} {i : Ni} {j : Nj} {K : Kp} {u : Nat} {a b c : Int32} (w1 : gT g u = 3) (hK : K (.inl none) g (wA i u (upd (upd (upd (i u) 4 a) 5 b) 6 c)) j) : zCon E mX2_holdSpirit [.ref u, .int a, .int b, .int c] g i j K := by
  refine zcon_of (by decide +kernel) rfl rfl (lo := [.ref u, .int a, .int b, .int c]) rfl (fun X => ?_)
  refine r_aload_n qX2_holdSpirit_0 rfl ?_
  refine r_iload_n qX2_holdSpirit_1 rfl ?_
  refine r_puti qX2_holdSpirit_2 fX2_37 (Or.inl rfl) rfl rfl rfl (by assumption) ?_
  refine r_aload_n qX2_holdSpirit_5 rfl ?_
  refine r_iload_n qX2_holdSpirit_6 rfl ?_
  refine r_puti qX2_holdSpirit_7 fX2_40 (Or.inl rfl) rfl rfl rfl (by assumption) ?_
  simp only [wA_s, wA_wA]
  refine r_aload_n qX2_holdSpirit_10 rfl ?_
  refine r_iload_n qX2_holdSpirit_11 rfl ?_
  refine r_puti qX2_holdSpirit_12 fX2_43 (Or.inl rfl) rfl rfl rfl (by assumption) ?_
  simp only [wA_s, wA_wA]
  refine r_vret qX2_holdSpirit_15 rfl rfl rfl ?_
  exact hK
set_option maxHeartbeats 4000000 in
set_option maxRecDepth 20000 in
theorem c_X2_addSpirit {E : Ev} {g : Sh} {i : Ni} {j : Nj} {K : Kp} {u : Nat} {a : Int32} (w1 : gT g u = 3) (hK : K (.inl none) g (wA i u (upd (upd (i u) 10 (i u 10 + a)) 14 (i u 14 + a))) j) : zCon E mX2_addSpirit [.ref u, .int a] g i j K := by
  refine zcon_of (by decide +kernel) rfl rfl (lo := [.ref u, .int a]) rfl (fun X => ?_)
  refine r_aload_n qX2_addSpirit_0 rfl ?_
  refine r_dup qX2_addSpirit_1 rfl ?_
  refine r_geti qX2_addSpirit_2 fX2_52 rfl (by assumption) ?_
  refine r_iload_n qX2_addSpirit_5 rfl ?_
  first | with_reducible refine r_iaddN qX2_addSpirit_6 ?_ | refine r_iadd qX2_addSpirit_6 ?_
  refine r_puti qX2_addSpirit_7 fX2_52 (Or.inl rfl) rfl rfl rfl (by assumption) ?_
  refine r_aload_n qX2_addSpirit_10 rfl ?_
  refine r_dup qX2_addSpirit_11 rfl ?_
  refine r_geti qX2_addSpirit_12 fX2_62 rfl (by assumption) ?_
  simp (disch := decide) only [wA_s, pk_us, pk_un]
  refine r_iload_n qX2_addSpirit_15 rfl ?_
  first | with_reducible refine r_iaddN qX2_addSpirit_16 ?_ | refine r_iadd qX2_addSpirit_16 ?_
  refine r_puti qX2_addSpirit_17 fX2_62 (Or.inl rfl) rfl rfl rfl (by assumption) ?_
  simp only [wA_s, wA_wA]
  refine r_vret qX2_addSpirit_20 rfl rfl rfl ?_
  exact hK


