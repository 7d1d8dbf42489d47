/-! ===== THE MODEL GOES ON TO THE NEXT TOKEN ===== -/
def zTok (f : Nat → Int32) (h : Nat → Int64) (B : Nat → Int32) (L s : Nat) : Prop := f 8 = nI s ∧ f 6 = nI (sEnd B L s) ∧ f 7 = nI (sKind B L s) ∧ f 9 = nI (sLtr B L s) ∧ f 11 = sVal B L s ∧ h 10 = sSpl B L s
/-- all but the token's fields is as it was -/
def zFr (x : Nat) (i0 i : Ni) (j0 j : Nj) : Prop := (∀ m, m ≠ 6 → m ≠ 7 → m ≠ 8 → m ≠ 9 → m ≠ 11 → i0 x m = i x m) ∧ (∀ r, r ≠ x → i0 r = i r) ∧ (∀ m, m ≠ 10 → j0 x m = j x m) ∧ ∀ r, r ≠ x → j0 r = j r
theorem zFr.F {x : Nat} {i0 i : Ni} {j0 j : Nj} {F : Nat → Int32} (h : zFr x i0 i j0 j) (hF : ∀ m, m ≠ 6 → m ≠ 7 → m ≠ 8 → m ≠ 9 → m ≠ 11 → F m = i0 x m) : zFr x (wA i0 x F) i j0 j :=
  ⟨fun m a b c d e => by rw [wA_s, hF m a b c d e]; exact h.1 m a b c d e, fun r hr => by rw [wA_n hr]; exact h.2.1 r hr, h.2.2.1, h.2.2.2⟩
theorem zFr.J {x : Nat} {i0 i : Ni} {j0 j : Nj} {v : Int64} (h : zFr x i0 i j0 j) : zFr x i0 i (wB j0 x (vp_updL (j0 x) 10 v)) j :=
  ⟨h.1, h.2.1, fun m a => by rw [wB_s, pk_uLn a]; exact h.2.2.1 m a, fun r hr => by rw [wB_n hr]; exact h.2.2.2 r hr⟩
theorem zFr.refl {x : Nat} {i : Ni} {j : Nj} : zFr x i i j j := ⟨fun _ _ _ _ _ _ => rfl, fun _ _ => rfl, fun _ _ => rfl, fun _ _ => rfl⟩
theorem sSkip_le (B : Nat → Int32) (L : Nat) : ∀ q p, p ≤ L → sSkip B L q p ≤ L
  | 0, p, h => h
  | q + 1, p, h => by
    rw [sSkip]
    split
    · rename_i h2; exact sSkip_le B L q (p + 1) (by omega)
    · exact h
theorem kSp_u {v : Int32} (h : zIn v (-128) 127) : (uB v = nI 32 ∨ uB v = nI 10) ↔ kSp v = true := by
  rw [kSp, decide_eq_true_iff, uB_eq h (by omega), uB_eq h (by omega)]
set_option maxHeartbeats 4000000 in
set_option maxRecDepth 20000 in
theorem c_X4_goOn {E : Ev} {g : Sh} {i : Ni} {j : Nj} {K : Kp} {x n d b p s o L a : Nat} (hW : zW g x n d b p s o) (hL : i x 5 = nI L) (hL6 : L ≤ 600) (ha : i x 6 = nI a) (haL : a ≤ L) (hBy : zByt (i b)) (hK : ∀ (i' : Ni) (j' : Nj), zTok (i' x) (j' x) (i b) L (sSkip (i b) L (L - a) a) → zFr x i' i j' j → K (.inl none) g i' j') : zCon E mX4_goOn [.ref x] g i j K := by
  refine zcon_of (by decide +kernel) rfl rfl (lo := [.ref x, zJ]) rfl (fun X => ?_)
  have w1 := hW.1
  have w4 := hW.2.2.2.1
  obtain ⟨bx, w8, w9⟩ := hW.bb
  have eL : ∀ {i0 : Ni} {j0 : Nj}, zFr x i0 i j0 j → i0 x 5 = nI L := fun h => (h.1 5 (by decide) (by decide) (by decide) (by decide) (by decide)).trans hL
  have eb : ∀ {i0 : Ni} {j0 : Nj}, zFr x i0 i j0 j → i0 b = i b := fun h => h.2.1 b bx
  have K62 : ∀ (s : Nat), s ≤ L → (∀ (i' : Ni) (j' : Nj), zTok (i' x) (j' x) (i b) L s → zFr x i' i j' j → K (.inl none) g i' j') → ∀ (i1 : Ni) (j1 : Nj), i1 x 6 = nI s → i1 x 8 = nI s → i1 x 9 = nI 0 → i1 x 11 = nI 0 → j1 x 10 = 0 → zFr x i1 i j1 j → zR E mX4_goOn (zZ E mX4_goOn K) X 62 [.ref x, zJ] [] g i1 j1 0 0 := by
    intro s hs hK i1 j1 f6 f8 f9 f11 f10 hF
    have e1 := eb hF
    by_cases hsL : s < L
    · skip
      have hb := hBy s
      have hKd : sKind (i b) L s = if kLet (i b s) = true then 1 else if kDig (i b s) = true then 2 else 3 := by rw [sKind, if_neg (by omega)]
      have hEn : sEnd (i b) L s = if kLet (i b s) = true then sRun kLet (i b) L (L - s) s else if kDig (i b s) = true then sRun kDig (i b) L (L - s) s else s + 1 := by rw [sEnd, if_neg (by omega)]
      have K96 : kLet (i b s) = true → ∀ (q e : Nat) (i2 : Ni) (j2 : Nj) (c : Int32), q = L - e → s ≤ e → e ≤ L → sRun kLet (i b) L q e = sEnd (i b) L s → i2 x 6 = nI e → i2 x 7 = nI 1 → i2 x 8 = nI s → i2 x 9 = nI (e - s) → i2 x 11 = nI 0 → j2 x 10 = sSp (i b) s (e - s) → zFr x i2 i j2 j → zR E mX4_goOn (zZ E mX4_goOn K) X 96 [.ref x, .int c] [] g i2 j2 0 0 := by
        intro hk q
        have hKd1 : sKind (i b) L s = 1 := by rw [hKd, if_pos hk]
        induction q with
        | zero =>
          intro e i2 j2 c hq he heL hr g6 g7 g8 g9 g11 g10 hF2
          have hrE : sEnd (i b) L s = e := by rw [← hr, sRun]
          refine r_aload_n qX4_goOn_96 rfl ?_
          refine r_aload_n qX4_goOn_97 rfl ?_
          refine r_geti qX4_goOn_98 fX4_217 rfl (by assumption) ?_
          rw [g6]
          refine r_cv1 (cu2 := 0) (su2 := 0) qX4_goOn_101 kX4_220 rfl (by decide +kernel) (c := 4) (by assumption) (by decide) rfl rfl rfl rfl rfl rfl ?_
          refine c_X4_byteAt hW (eL hF2) hL6 (by omega) ?_
          show zR E _ _ X 104 _ _ _ _ _ _ _
          rw [if_neg (by omega)]
          refine r_cs1 (cu2 := 0) (su2 := 0) qX4_goOn_104 kX4_238 rfl (by decide +kernel) rfl rfl rfl rfl rfl ?_
          refine c_X4_isLetter ?_
          show zR E _ _ X 107 _ _ _ _ _ _ _
          rw [zb_f (by decide)]
          refine r_if_eq (t := 274) qX4_goOn_107 (by decide) (fun hc107 => ?_) (fun hc107 => absurd hc107 (by decide))
          refine r_vret qX4_goOn_274 rfl rfl rfl ?_
          exact hK i2 j2 ⟨g8, by rw [g6, hrE], by rw [g7, hKd1], by rw [g9, sLtr, if_pos hKd1, hrE], by rw [g11, sVal, if_neg (by omega), if_neg (by omega)], by rw [g10, sSpl, if_pos hKd1, hrE]⟩ hF2
        | succ q ih =>
          intro e i2 j2 c hq he heL hr g6 g7 g8 g9 g11 g10 hF2
          have heb := hBy e
          have e2 := eb hF2
          by_cases hke : kLet (i b e) = true
          · skip
            rw [sRun, if_pos ⟨by omega, hke⟩] at hr
            have hu := uB_l heb (Or.inl hke)
            refine r_aload_n qX4_goOn_96 rfl ?_
            refine r_aload_n qX4_goOn_97 rfl ?_
            refine r_geti qX4_goOn_98 fX4_217 rfl (by assumption) ?_
            rw [g6]
            refine r_cv1 (cu2 := 0) (su2 := 0) qX4_goOn_101 kX4_220 rfl (by decide +kernel) (c := 4) (by assumption) (by decide) rfl rfl rfl rfl rfl rfl ?_
            refine c_X4_byteAt hW (eL hF2) hL6 (by omega) ?_
            show zR E _ _ X 104 _ _ _ _ _ _ _
            rw [if_pos (by omega), e2]
            refine r_cs1 (cu2 := 0) (su2 := 0) qX4_goOn_104 kX4_238 rfl (by decide +kernel) rfl rfl rfl rfl rfl ?_
            refine c_X4_isLetter ?_
            show zR E _ _ X 107 _ _ _ _ _ _ _
            rw [zb_t ((kLet_u heb).mpr hke)]
            refine r_if_eq (t := 274) qX4_goOn_107 (by decide) (fun hc107 => absurd hc107 (by decide)) (fun hc107 => ?_)
            refine r_aload_n qX4_goOn_110 rfl ?_
            refine r_aload_n qX4_goOn_111 rfl ?_
            refine r_geti qX4_goOn_112 fX4_226 rfl (by assumption) ?_
            rw [g9]
            refine r_bipush (v := nI 8) qX4_goOn_115 (by decide) ?_
            refine r_icmp_ge (t := 147) qX4_goOn_117 (by decide) (fun hc117 => ?_) (fun hc117 => ?_)
            · refine r_ldc2 qX4_goOn_147 lX4_245 ?_
              refine r_putl qX4_goOn_150 fX4_229 (Or.inl rfl) rfl (by assumption) ?_
              refine r_aload_n qX4_goOn_153 rfl ?_
              refine r_dup qX4_goOn_154 rfl ?_
              refine r_geti qX4_goOn_155 fX4_226 rfl (by assumption) ?_
              rw [g9]
              refine r_iconst (v := nI 1) qX4_goOn_158 (by decide) ?_
              first | with_reducible refine r_iaddN qX4_goOn_159 ?_ | refine r_iadd qX4_goOn_159 ?_
              refine r_puti qX4_goOn_160 fX4_226 (Or.inl rfl) rfl rfl rfl (by assumption) ?_
              refine r_aload_n qX4_goOn_163 rfl ?_
              refine r_dup qX4_goOn_164 rfl ?_
              refine r_geti qX4_goOn_165 fX4_217 rfl (by assumption) ?_
              rw [wA_s, pk_un (by decide), g6]
              refine r_iconst (v := nI 1) qX4_goOn_168 (by decide) ?_
              first | with_reducible refine r_iaddN qX4_goOn_169 ?_ | refine r_iadd qX4_goOn_169 ?_
              refine r_puti qX4_goOn_170 fX4_217 (Or.inl rfl) rfl rfl rfl (by assumption) ?_
              simp only [wA_s, wA_wA]
              refine r_goto (t := 96) qX4_goOn_173 (by decide) ?_
              refine ih (e + 1) _ _ c (by omega) (by omega) (by omega) hr (by rw [wA_s, pk_us]) (by rw [wA_s, pk_un (by decide), pk_un (by decide)]; exact g7) (by rw [wA_s, pk_un (by decide), pk_un (by decide)]; exact g8) (by rw [wA_s, pk_un (by decide), pk_us, show e + 1 - s = e - s + 1 by omega]) (by rw [wA_s, pk_un (by decide), pk_un (by decide)]; exact g11) ?_ (zFr.F (zFr.J hF2) (fun m a b c d e => by simp only [upd, if_neg a, if_neg b, if_neg c, if_neg d, if_neg e]))
              rw [wB_s, pk_uLs, show e + 1 - s = e - s + 1 by omega, sSp]
              first | (rw [if_neg (fun h => nI_ge h (by omega) hc117)]) | (rw [if_pos (by rcases Nat.lt_or_ge (e - s) 8 with h | h; exact h; exact absurd (nI_le h (by omega)) hc117), show s + (e - s) = e by omega])
            · refine r_ldc2 qX4_goOn_120 lX4_241 ?_
              refine r_aload_n qX4_goOn_123 rfl ?_
              refine r_getl qX4_goOn_124 fX4_229 rfl (by assumption) ?_
              rw [g10]
              refine r_lmul qX4_goOn_127 ?_
              refine r_aload_n qX4_goOn_128 rfl ?_
              refine r_aload_n qX4_goOn_129 rfl ?_
              refine r_geti qX4_goOn_130 fX4_217 rfl (by assumption) ?_
              rw [g6]
              refine r_cv1 (cu2 := 0) (su2 := 0) qX4_goOn_133 kX4_220 rfl (by decide +kernel) (c := 4) (by assumption) (by decide) rfl rfl rfl rfl rfl rfl ?_
              refine c_X4_byteAt hW (eL hF2) hL6 (by omega) ?_
              show zR E _ _ X 136 _ _ _ _ _ _ _
              rw [if_pos (by omega), e2, hu]
              refine r_i2l qX4_goOn_136 ?_
              refine r_ladd qX4_goOn_137 ?_
              refine r_ldc2 qX4_goOn_138 lX4_243 ?_
              refine r_lsub qX4_goOn_141 ?_
              refine r_lconst (v := 1) qX4_goOn_142 (by decide) ?_
              refine r_ladd qX4_goOn_143 ?_
              refine r_goto (t := 150) qX4_goOn_144 (by decide) ?_
              refine r_putl qX4_goOn_150 fX4_229 (Or.inl rfl) rfl (by assumption) ?_
              refine r_aload_n qX4_goOn_153 rfl ?_
              refine r_dup qX4_goOn_154 rfl ?_
              refine r_geti qX4_goOn_155 fX4_226 rfl (by assumption) ?_
              rw [g9]
              refine r_iconst (v := nI 1) qX4_goOn_158 (by decide) ?_
              first | with_reducible refine r_iaddN qX4_goOn_159 ?_ | refine r_iadd qX4_goOn_159 ?_
              refine r_puti qX4_goOn_160 fX4_226 (Or.inl rfl) rfl rfl rfl (by assumption) ?_
              refine r_aload_n qX4_goOn_163 rfl ?_
              refine r_dup qX4_goOn_164 rfl ?_
              refine r_geti qX4_goOn_165 fX4_217 rfl (by assumption) ?_
              rw [wA_s, pk_un (by decide), g6]
              refine r_iconst (v := nI 1) qX4_goOn_168 (by decide) ?_
              first | with_reducible refine r_iaddN qX4_goOn_169 ?_ | refine r_iadd qX4_goOn_169 ?_
              refine r_puti qX4_goOn_170 fX4_217 (Or.inl rfl) rfl rfl rfl (by assumption) ?_
              simp only [wA_s, wA_wA]
              refine r_goto (t := 96) qX4_goOn_173 (by decide) ?_
              refine ih (e + 1) _ _ c (by omega) (by omega) (by omega) hr (by rw [wA_s, pk_us]) (by rw [wA_s, pk_un (by decide), pk_un (by decide)]; exact g7) (by rw [wA_s, pk_un (by decide), pk_un (by decide)]; exact g8) (by rw [wA_s, pk_un (by decide), pk_us, show e + 1 - s = e - s + 1 by omega]) (by rw [wA_s, pk_un (by decide), pk_un (by decide)]; exact g11) ?_ (zFr.F (zFr.J hF2) (fun m a b c d e => by simp only [upd, if_neg a, if_neg b, if_neg c, if_neg d, if_neg e]))
              rw [wB_s, pk_uLs, show e + 1 - s = e - s + 1 by omega, sSp]
              first | (rw [if_neg (fun h => nI_ge h (by omega) hc117)]) | (rw [if_pos (by rcases Nat.lt_or_ge (e - s) 8 with h | h; exact h; exact absurd (nI_le h (by omega)) hc117), show s + (e - s) = e by omega])
          · skip
            have hrE : sEnd (i b) L s = e := by rw [← hr, sRun, if_neg (fun h => hke h.2)]
            refine r_aload_n qX4_goOn_96 rfl ?_
            refine r_aload_n qX4_goOn_97 rfl ?_
            refine r_geti qX4_goOn_98 fX4_217 rfl (by assumption) ?_
            rw [g6]
            refine r_cv1 (cu2 := 0) (su2 := 0) qX4_goOn_101 kX4_220 rfl (by decide +kernel) (c := 4) (by assumption) (by decide) rfl rfl rfl rfl rfl rfl ?_
            refine c_X4_byteAt hW (eL hF2) hL6 (by omega) ?_
            show zR E _ _ X 104 _ _ _ _ _ _ _
            rw [if_pos (by omega), e2]
            refine r_cs1 (cu2 := 0) (su2 := 0) qX4_goOn_104 kX4_238 rfl (by decide +kernel) rfl rfl rfl rfl rfl ?_
            refine c_X4_isLetter ?_
            show zR E _ _ X 107 _ _ _ _ _ _ _
            rw [zb_f (fun h => hke ((kLet_u heb).mp h))]
            refine r_if_eq (t := 274) qX4_goOn_107 (by decide) (fun hc107 => ?_) (fun hc107 => absurd hc107 (by decide))
            refine r_vret qX4_goOn_274 rfl rfl rfl ?_
            exact hK i2 j2 ⟨g8, by rw [g6, hrE], by rw [g7, hKd1], by rw [g9, sLtr, if_pos hKd1, hrE], by rw [g11, sVal, if_neg (by omega), if_neg (by omega)], by rw [g10, sSpl, if_pos hKd1, hrE]⟩ hF2
      have K188 : ¬ kLet (i b s) = true → kDig (i b s) = true → ∀ (q e : Nat) (i2 : Ni) (j2 : Nj) (c : Int32), q = L - e → s ≤ e → e ≤ L → sRun kDig (i b) L q e = sEnd (i b) L s → i2 x 6 = nI e → i2 x 7 = nI 2 → i2 x 8 = nI s → i2 x 9 = nI 0 → i2 x 11 = sNu (i b) s (e - s) → j2 x 10 = 0 → zFr x i2 i j2 j → zR E mX4_goOn (zZ E mX4_goOn K) X 188 [.ref x, .int c] [] g i2 j2 0 0 := by
        intro hk1 hk q
        have hKd1 : sKind (i b) L s = 2 := by rw [hKd, if_neg hk1, if_pos hk]
        induction q with
        | zero =>
          intro e i2 j2 c hq he heL hr g6 g7 g8 g9 g11 g10 hF2
          have hrE : sEnd (i b) L s = e := by rw [← hr, sRun]
          refine r_aload_n qX4_goOn_188 rfl ?_
          refine r_aload_n qX4_goOn_189 rfl ?_
          refine r_geti qX4_goOn_190 fX4_217 rfl (by assumption) ?_
          rw [g6]
          refine r_cv1 (cu2 := 0) (su2 := 0) qX4_goOn_193 kX4_220 rfl (by decide +kernel) (c := 4) (by assumption) (by decide) rfl rfl rfl rfl rfl rfl ?_
          refine c_X4_byteAt hW (eL hF2) hL6 (by omega) ?_
          show zR E _ _ X 196 _ _ _ _ _ _ _
          rw [if_neg (by omega)]
          refine r_cs1 (cu2 := 0) (su2 := 0) qX4_goOn_196 kX4_247 rfl (by decide +kernel) rfl rfl rfl rfl rfl ?_
          refine c_X4_isDigit ?_
          show zR E _ _ X 199 _ _ _ _ _ _ _
          rw [zb_f (by decide)]
          refine r_if_eq (t := 274) qX4_goOn_199 (by decide) (fun hc199 => ?_) (fun hc199 => absurd hc199 (by decide))
          refine r_vret qX4_goOn_274 rfl rfl rfl ?_
          exact hK i2 j2 ⟨g8, by rw [g6, hrE], by rw [g7, hKd1], by rw [g9, sLtr, if_neg (by omega)], by rw [g11, sVal, if_pos hKd1, hrE], by rw [g10, sSpl, if_neg (by omega)]⟩ hF2
        | succ q ih =>
          intro e i2 j2 c hq he heL hr g6 g7 g8 g9 g11 g10 hF2
          have heb := hBy e
          have e2 := eb hF2
          by_cases hke : kDig (i b e) = true
          · skip
            rw [sRun, if_pos ⟨by omega, hke⟩] at hr
            have hu := uB_l heb (Or.inr hke)
            refine r_aload_n qX4_goOn_188 rfl ?_
            refine r_aload_n qX4_goOn_189 rfl ?_
            refine r_geti qX4_goOn_190 fX4_217 rfl (by assumption) ?_
            rw [g6]
            refine r_cv1 (cu2 := 0) (su2 := 0) qX4_goOn_193 kX4_220 rfl (by decide +kernel) (c := 4) (by assumption) (by decide) rfl rfl rfl rfl rfl rfl ?_
            refine c_X4_byteAt hW (eL hF2) hL6 (by omega) ?_
            show zR E _ _ X 196 _ _ _ _ _ _ _
            rw [if_pos (by omega), e2]
            refine r_cs1 (cu2 := 0) (su2 := 0) qX4_goOn_196 kX4_247 rfl (by decide +kernel) rfl rfl rfl rfl rfl ?_
            refine c_X4_isDigit ?_
            show zR E _ _ X 199 _ _ _ _ _ _ _
            rw [zb_t ((kDig_u heb).mpr hke)]
            refine r_if_eq (t := 274) qX4_goOn_199 (by decide) (fun hc199 => absurd hc199 (by decide)) (fun hc199 => ?_)
            refine r_aload_n qX4_goOn_202 rfl ?_
            refine r_aload_n qX4_goOn_203 rfl ?_
            refine r_geti qX4_goOn_204 fX4_232 rfl (by assumption) ?_
            rw [g11]
            refine r_sipush (v := nI 999) qX4_goOn_207 (by decide) ?_
            refine r_icmp_le (t := 219) qX4_goOn_210 (by decide) (fun hc210 => ?_) (fun hc210 => ?_)
            · refine r_bipush (v := nI 10) qX4_goOn_219 (by decide) ?_
              refine r_aload_n qX4_goOn_221 rfl ?_
              refine r_geti qX4_goOn_222 fX4_232 rfl (by assumption) ?_
              rw [g11]
              first | with_reducible refine r_imulN qX4_goOn_225 ?_ | refine r_imul qX4_goOn_225 ?_
              refine r_aload_n qX4_goOn_226 rfl ?_
              refine r_aload_n qX4_goOn_227 rfl ?_
              refine r_geti qX4_goOn_228 fX4_217 rfl (by assumption) ?_
              rw [g6]
              refine r_cv1 (cu2 := 0) (su2 := 0) qX4_goOn_231 kX4_220 rfl (by decide +kernel) (c := 4) (by assumption) (by decide) rfl rfl rfl rfl rfl rfl ?_
              refine c_X4_byteAt hW (eL hF2) hL6 (by omega) ?_
              show zR E _ _ X 234 _ _ _ _ _ _ _
              rw [if_pos (by omega), e2, hu]
              first | with_reducible refine r_iaddN qX4_goOn_234 ?_ | refine r_iadd qX4_goOn_234 ?_
              refine r_bipush (v := nI 48) qX4_goOn_235 (by decide) ?_
              refine r_isub qX4_goOn_237 ?_
              refine r_puti qX4_goOn_238 fX4_232 (Or.inl rfl) rfl rfl rfl (by assumption) ?_
              refine r_aload_n qX4_goOn_241 rfl ?_
              refine r_dup qX4_goOn_242 rfl ?_
              refine r_geti qX4_goOn_243 fX4_217 rfl (by assumption) ?_
              rw [wA_s, pk_un (by decide), g6]
              refine r_iconst (v := nI 1) qX4_goOn_246 (by decide) ?_
              first | with_reducible refine r_iaddN qX4_goOn_247 ?_ | refine r_iadd qX4_goOn_247 ?_
              refine r_puti qX4_goOn_248 fX4_217 (Or.inl rfl) rfl rfl rfl (by assumption) ?_
              simp only [wA_s, wA_wA]
              refine r_goto (t := 188) qX4_goOn_251 (by decide) ?_
              refine ih (e + 1) _ _ c (by omega) (by omega) (by omega) hr (by rw [wA_s, pk_us]) (by rw [wA_s, pk_un (by decide), pk_un (by decide)]; exact g7) (by rw [wA_s, pk_un (by decide), pk_un (by decide)]; exact g8) (by rw [wA_s, pk_un (by decide), pk_un (by decide)]; exact g9) ?_ g10 (zFr.F hF2 (fun m a b c d e => by simp only [upd, if_neg a, if_neg b, if_neg c, if_neg d, if_neg e]))
              rw [wA_s, pk_un (by decide), pk_us, show e + 1 - s = e - s + 1 by omega, sNu]
              first | (rw [if_neg (Int32.not_lt.mpr hc210), show s + (e - s) = e by omega]) | (rw [if_pos (Int32.not_le.mp hc210)])
            · refine r_sipush (v := nI 9999) qX4_goOn_213 (by decide) ?_
              refine r_goto (t := 238) qX4_goOn_216 (by decide) ?_
              refine r_puti qX4_goOn_238 fX4_232 (Or.inl rfl) rfl rfl rfl (by assumption) ?_
              refine r_aload_n qX4_goOn_241 rfl ?_
              refine r_dup qX4_goOn_242 rfl ?_
              refine r_geti qX4_goOn_243 fX4_217 rfl (by assumption) ?_
              rw [wA_s, pk_un (by decide), g6]
              refine r_iconst (v := nI 1) qX4_goOn_246 (by decide) ?_
              first | with_reducible refine r_iaddN qX4_goOn_247 ?_ | refine r_iadd qX4_goOn_247 ?_
              refine r_puti qX4_goOn_248 fX4_217 (Or.inl rfl) rfl rfl rfl (by assumption) ?_
              simp only [wA_s, wA_wA]
              refine r_goto (t := 188) qX4_goOn_251 (by decide) ?_
              refine ih (e + 1) _ _ c (by omega) (by omega) (by omega) hr (by rw [wA_s, pk_us]) (by rw [wA_s, pk_un (by decide), pk_un (by decide)]; exact g7) (by rw [wA_s, pk_un (by decide), pk_un (by decide)]; exact g8) (by rw [wA_s, pk_un (by decide), pk_un (by decide)]; exact g9) ?_ g10 (zFr.F hF2 (fun m a b c d e => by simp only [upd, if_neg a, if_neg b, if_neg c, if_neg d, if_neg e]))
              rw [wA_s, pk_un (by decide), pk_us, show e + 1 - s = e - s + 1 by omega, sNu]
              first | (rw [if_neg (Int32.not_lt.mpr hc210), show s + (e - s) = e by omega]) | (rw [if_pos (Int32.not_le.mp hc210)])
          · skip
            have hrE : sEnd (i b) L s = e := by rw [← hr, sRun, if_neg (fun h => hke h.2)]
            refine r_aload_n qX4_goOn_188 rfl ?_
            refine r_aload_n qX4_goOn_189 rfl ?_
            refine r_geti qX4_goOn_190 fX4_217 rfl (by assumption) ?_
            rw [g6]
            refine r_cv1 (cu2 := 0) (su2 := 0) qX4_goOn_193 kX4_220 rfl (by decide +kernel) (c := 4) (by assumption) (by decide) rfl rfl rfl rfl rfl rfl ?_
            refine c_X4_byteAt hW (eL hF2) hL6 (by omega) ?_
            show zR E _ _ X 196 _ _ _ _ _ _ _
            rw [if_pos (by omega), e2]
            refine r_cs1 (cu2 := 0) (su2 := 0) qX4_goOn_196 kX4_247 rfl (by decide +kernel) rfl rfl rfl rfl rfl ?_
            refine c_X4_isDigit ?_
            show zR E _ _ X 199 _ _ _ _ _ _ _
            rw [zb_f (fun h => hke ((kDig_u heb).mp h))]
            refine r_if_eq (t := 274) qX4_goOn_199 (by decide) (fun hc199 => ?_) (fun hc199 => absurd hc199 (by decide))
            refine r_vret qX4_goOn_274 rfl rfl rfl ?_
            exact hK i2 j2 ⟨g8, by rw [g6, hrE], by rw [g7, hKd1], by rw [g9, sLtr, if_neg (by omega)], by rw [g11, sVal, if_pos hKd1, hrE], by rw [g10, sSpl, if_neg (by omega)]⟩ hF2
      by_cases hk : kLet (i b s) = true
      · skip
        rw [if_pos hk] at hEn
        refine r_aload_n qX4_goOn_62 rfl ?_
        refine r_aload_n qX4_goOn_63 rfl ?_
        refine r_geti qX4_goOn_64 fX4_217 rfl (by assumption) ?_
        rw [f6]
        refine r_cv1 (cu2 := 0) (su2 := 0) qX4_goOn_67 kX4_220 rfl (by decide +kernel) (c := 4) (by assumption) (by decide) rfl rfl rfl rfl rfl rfl ?_
        refine c_X4_byteAt hW (eL hF) hL6 (by omega) ?_
        show zR E _ _ X 70 _ _ _ _ _ _ _
        rw [if_pos hsL, e1]
        refine r_is_2_1 qX4_goOn_70 rfl rfl ?_
        refine r_iload_n qX4_goOn_71 rfl ?_
        refine r_iconst (v := (-1)) qX4_goOn_72 (by decide) ?_
        refine r_icmp_ne (t := 84) qX4_goOn_73 (by decide) (fun hc73 => ?_) (fun hc73 => absurd hc73 (uB_ne hb))
        refine r_iload_n qX4_goOn_84 rfl ?_
        refine r_cs1 (cu2 := 0) (su2 := 0) qX4_goOn_85 kX4_238 rfl (by decide +kernel) rfl rfl rfl rfl rfl ?_
        refine c_X4_isLetter ?_
        show zR E _ _ X 88 _ _ _ _ _ _ _
        rw [zb_t ((kLet_u hb).mpr hk)]
        refine r_if_eq (t := 176) qX4_goOn_88 (by decide) (fun hc88 => absurd hc88 (by decide)) (fun hc88 => ?_)
        refine r_aload_n qX4_goOn_91 rfl ?_
        refine r_iconst (v := nI 1) qX4_goOn_92 (by decide) ?_
        refine r_puti qX4_goOn_93 fX4_235 (Or.inl rfl) rfl rfl rfl (by assumption) ?_
        exact K96 hk (L - s) s _ _ _ rfl (by omega) (by omega) hEn.symm (by rw [wA_s, pk_un (by decide)]; exact f6) (by rw [wA_s, pk_us]) (by rw [wA_s, pk_un (by decide)]; exact f8) (by rw [wA_s, pk_un (by decide), Nat.sub_self]; exact f9) (by rw [wA_s, pk_un (by decide)]; exact f11) (by rw [Nat.sub_self]; exact f10) (zFr.F hF (fun m a b c d e => by simp only [upd, if_neg a, if_neg b, if_neg c, if_neg d, if_neg e]))
      · skip
        rw [if_neg hk] at hEn hKd
        by_cases hg : kDig (i b s) = true
        · skip
          rw [if_pos hg] at hEn
          refine r_aload_n qX4_goOn_62 rfl ?_
          refine r_aload_n qX4_goOn_63 rfl ?_
          refine r_geti qX4_goOn_64 fX4_217 rfl (by assumption) ?_
          rw [f6]
          refine r_cv1 (cu2 := 0) (su2 := 0) qX4_goOn_67 kX4_220 rfl (by decide +kernel) (c := 4) (by assumption) (by decide) rfl rfl rfl rfl rfl rfl ?_
          refine c_X4_byteAt hW (eL hF) hL6 (by omega) ?_
          show zR E _ _ X 70 _ _ _ _ _ _ _
          rw [if_pos hsL, e1]
          refine r_is_2_1 qX4_goOn_70 rfl rfl ?_
          refine r_iload_n qX4_goOn_71 rfl ?_
          refine r_iconst (v := (-1)) qX4_goOn_72 (by decide) ?_
          refine r_icmp_ne (t := 84) qX4_goOn_73 (by decide) (fun hc73 => ?_) (fun hc73 => absurd hc73 (uB_ne hb))
          refine r_iload_n qX4_goOn_84 rfl ?_
          refine r_cs1 (cu2 := 0) (su2 := 0) qX4_goOn_85 kX4_238 rfl (by decide +kernel) rfl rfl rfl rfl rfl ?_
          refine c_X4_isLetter ?_
          show zR E _ _ X 88 _ _ _ _ _ _ _
          rw [zb_f (fun h => hk ((kLet_u hb).mp h))]
          refine r_if_eq (t := 176) qX4_goOn_88 (by decide) (fun hc88 => ?_) (fun hc88 => absurd hc88 (by decide))
          refine r_iload_n qX4_goOn_176 rfl ?_
          refine r_cs1 (cu2 := 0) (su2 := 0) qX4_goOn_177 kX4_247 rfl (by decide +kernel) rfl rfl rfl rfl rfl ?_
          refine c_X4_isDigit ?_
          show zR E _ _ X 180 _ _ _ _ _ _ _
          rw [zb_t ((kDig_u hb).mpr hg)]
          refine r_if_eq (t := 254) qX4_goOn_180 (by decide) (fun hc180 => absurd hc180 (by decide)) (fun hc180 => ?_)
          refine r_aload_n qX4_goOn_183 rfl ?_
          refine r_iconst (v := nI 2) qX4_goOn_184 (by decide) ?_
          refine r_puti qX4_goOn_185 fX4_235 (Or.inl rfl) rfl rfl rfl (by assumption) ?_
          exact K188 hk hg (L - s) s _ _ _ rfl (by omega) (by omega) hEn.symm (by rw [wA_s, pk_un (by decide)]; exact f6) (by rw [wA_s, pk_us]) (by rw [wA_s, pk_un (by decide)]; exact f8) (by rw [wA_s, pk_un (by decide)]; exact f9) (by rw [wA_s, pk_un (by decide), Nat.sub_self]; exact f11) f10 (zFr.F hF (fun m a b c d e => by simp only [upd, if_neg a, if_neg b, if_neg c, if_neg d, if_neg e]))
        · skip
          rw [if_neg hg] at hEn hKd
          refine r_aload_n qX4_goOn_62 rfl ?_
          refine r_aload_n qX4_goOn_63 rfl ?_
          refine r_geti qX4_goOn_64 fX4_217 rfl (by assumption) ?_
          rw [f6]
          refine r_cv1 (cu2 := 0) (su2 := 0) qX4_goOn_67 kX4_220 rfl (by decide +kernel) (c := 4) (by assumption) (by decide) rfl rfl rfl rfl rfl rfl ?_
          refine c_X4_byteAt hW (eL hF) hL6 (by omega) ?_
          show zR E _ _ X 70 _ _ _ _ _ _ _
          rw [if_pos hsL, e1]
          refine r_is_2_1 qX4_goOn_70 rfl rfl ?_
          refine r_iload_n qX4_goOn_71 rfl ?_
          refine r_iconst (v := (-1)) qX4_goOn_72 (by decide) ?_
          refine r_icmp_ne (t := 84) qX4_goOn_73 (by decide) (fun hc73 => ?_) (fun hc73 => absurd hc73 (uB_ne hb))
          refine r_iload_n qX4_goOn_84 rfl ?_
          refine r_cs1 (cu2 := 0) (su2 := 0) qX4_goOn_85 kX4_238 rfl (by decide +kernel) rfl rfl rfl rfl rfl ?_
          refine c_X4_isLetter ?_
          show zR E _ _ X 88 _ _ _ _ _ _ _
          rw [zb_f (fun h => hk ((kLet_u hb).mp h))]
          refine r_if_eq (t := 176) qX4_goOn_88 (by decide) (fun hc88 => ?_) (fun hc88 => absurd hc88 (by decide))
          refine r_iload_n qX4_goOn_176 rfl ?_
          refine r_cs1 (cu2 := 0) (su2 := 0) qX4_goOn_177 kX4_247 rfl (by decide +kernel) rfl rfl rfl rfl rfl ?_
          refine c_X4_isDigit ?_
          show zR E _ _ X 180 _ _ _ _ _ _ _
          rw [zb_f (fun h => hg ((kDig_u hb).mp h))]
          refine r_if_eq (t := 254) qX4_goOn_180 (by decide) (fun hc180 => ?_) (fun hc180 => absurd hc180 (by decide))
          refine r_aload_n qX4_goOn_254 rfl ?_
          refine r_iconst (v := nI 3) qX4_goOn_255 (by decide) ?_
          refine r_puti qX4_goOn_256 fX4_235 (Or.inl rfl) rfl rfl rfl (by assumption) ?_
          refine r_aload_n qX4_goOn_259 rfl ?_
          refine r_iload_n qX4_goOn_260 rfl ?_
          refine r_puti qX4_goOn_261 fX4_232 (Or.inl rfl) rfl rfl rfl (by assumption) ?_
          refine r_aload_n qX4_goOn_264 rfl ?_
          refine r_dup qX4_goOn_265 rfl ?_
          refine r_geti qX4_goOn_266 fX4_217 rfl (by assumption) ?_
          simp only [wA_s, wA_wA]; rw [pk_un (by decide), pk_un (by decide), f6]
          refine r_iconst (v := nI 1) qX4_goOn_269 (by decide) ?_
          first | with_reducible refine r_iaddN qX4_goOn_270 ?_ | refine r_iadd qX4_goOn_270 ?_
          refine r_puti qX4_goOn_271 fX4_217 (Or.inl rfl) rfl rfl rfl (by assumption) ?_
          simp only [wA_s, wA_wA]
          refine r_vret qX4_goOn_274 rfl rfl rfl ?_
          exact hK _ _ ⟨by rw [wA_s, pk_un (by decide), pk_un (by decide), pk_un (by decide)]; exact f8, by rw [wA_s, pk_us, hEn], by rw [wA_s, pk_un (by decide), pk_un (by decide), pk_us, hKd], by rw [wA_s, pk_un (by decide), pk_un (by decide), pk_un (by decide), f9, sLtr, if_neg (by omega)], by rw [wA_s, pk_un (by decide), pk_us, sVal, if_neg (by omega), if_pos hKd], by rw [f10, sSpl, if_neg (by omega)]⟩ (zFr.F hF (fun m a b c d e => by simp only [upd, if_neg a, if_neg b, if_neg c, if_neg d, if_neg e]))
    · skip
      have hKd : sKind (i b) L s = 0 := by rw [sKind, if_pos (by omega)]
      have hEn : sEnd (i b) L s = s := by rw [sEnd, if_pos (by omega)]
      refine r_aload_n qX4_goOn_62 rfl ?_
      refine r_aload_n qX4_goOn_63 rfl ?_
      refine r_geti qX4_goOn_64 fX4_217 rfl (by assumption) ?_
      rw [f6]
      refine r_cv1 (cu2 := 0) (su2 := 0) qX4_goOn_67 kX4_220 rfl (by decide +kernel) (c := 4) (by assumption) (by decide) rfl rfl rfl rfl rfl rfl ?_
      refine c_X4_byteAt hW (eL hF) hL6 (by omega) ?_
      show zR E _ _ X 70 _ _ _ _ _ _ _
      rw [if_neg hsL]
      refine r_is_2_1 qX4_goOn_70 rfl rfl ?_
      refine r_iload_n qX4_goOn_71 rfl ?_
      refine r_iconst (v := (-1)) qX4_goOn_72 (by decide) ?_
      refine r_icmp_ne (t := 84) qX4_goOn_73 (by decide) (fun hc73 => absurd hc73 (fun h => h rfl)) (fun hc73 => ?_)
      refine r_aload_n qX4_goOn_76 rfl ?_
      refine r_iconst (v := nI 0) qX4_goOn_77 (by decide) ?_
      refine r_puti qX4_goOn_78 fX4_235 (Or.inl rfl) rfl rfl rfl (by assumption) ?_
      refine r_goto (t := 274) qX4_goOn_81 (by decide) ?_
      refine r_vret qX4_goOn_274 rfl rfl rfl ?_
      exact hK _ _ ⟨by rw [wA_s, pk_un (by decide)]; exact f8, by rw [wA_s, pk_un (by decide), f6, hEn], by rw [wA_s, pk_us, hKd], by rw [wA_s, pk_un (by decide), f9, sLtr, if_neg (by omega)], by rw [wA_s, pk_un (by decide), f11, sVal, if_neg (by omega), if_neg (by omega)], by rw [f10, sSpl, if_neg (by omega)]⟩ (zFr.F hF (fun m a b c d e => by simp only [upd, if_neg a, if_neg b, if_neg c, if_neg d, if_neg e]))
  have K39 : ∀ (s : Nat) (i0 : Ni), s ≤ L → i0 x 6 = nI s → zFr x i0 i j j → (∀ (i' : Ni) (j' : Nj), zTok (i' x) (j' x) (i b) L s → zFr x i' i j' j → K (.inl none) g i' j') → zR E mX4_goOn (zZ E mX4_goOn K) X 39 [.ref x, zJ] [] g i0 j 0 0 := by
    intro s i0 hs f6 hF hK
    refine r_aload_n qX4_goOn_39 rfl ?_
    refine r_aload_n qX4_goOn_40 rfl ?_
    refine r_geti qX4_goOn_41 fX4_217 rfl (by assumption) ?_
    rw [f6]
    refine r_puti qX4_goOn_44 fX4_223 (Or.inl rfl) rfl rfl rfl (by assumption) ?_
    skip
    refine r_aload_n qX4_goOn_47 rfl ?_
    refine r_iconst (v := nI 0) qX4_goOn_48 (by decide) ?_
    refine r_puti qX4_goOn_49 fX4_226 (Or.inl rfl) rfl rfl rfl (by assumption) ?_
    simp only [wA_s, wA_wA]
    refine r_aload_n qX4_goOn_52 rfl ?_
    refine r_lconst (v := 0) qX4_goOn_53 (by decide) ?_
    refine r_putl qX4_goOn_54 fX4_229 (Or.inl rfl) rfl (by assumption) ?_
    refine r_aload_n qX4_goOn_57 rfl ?_
    refine r_iconst (v := nI 0) qX4_goOn_58 (by decide) ?_
    refine r_puti qX4_goOn_59 fX4_232 (Or.inl rfl) rfl rfl rfl (by assumption) ?_
    simp only [wA_s, wA_wA]; exact K62 s hs hK _ _ (by rw [wA_s, pk_un (by decide), pk_un (by decide), pk_un (by decide)]; exact f6) (by rw [wA_s, pk_un (by decide), pk_un (by decide), pk_us]) (by rw [wA_s, pk_un (by decide), pk_us]) (by rw [wA_s, pk_us]) (by rw [wB_s, pk_uLs]) (zFr.F (zFr.J hF) (fun m a b c d e => by simp only [upd, if_neg a, if_neg b, if_neg c, if_neg d, if_neg e]))
  have K0 : ∀ (q e : Nat) (i0 : Ni), q = L - e → e ≤ L → i0 x 6 = nI e → zFr x i0 i j j → (∀ (i' : Ni) (j' : Nj), zTok (i' x) (j' x) (i b) L (sSkip (i b) L q e) → zFr x i' i j' j → K (.inl none) g i' j') → zR E mX4_goOn (zZ E mX4_goOn K) X 0 [.ref x, zJ] [] g i0 j 0 0 := by
    clear hK
    intro q
    induction q with
    | zero =>
      intro e i0 hq he f6 hF hK
      refine r_aload_n qX4_goOn_0 rfl ?_
      refine r_aload_n qX4_goOn_1 rfl ?_
      refine r_geti qX4_goOn_2 fX4_217 rfl (by assumption) ?_
      rw [f6]
      refine r_cv1 (cu2 := 0) (su2 := 0) qX4_goOn_5 kX4_220 rfl (by decide +kernel) (c := 4) (by assumption) (by decide) rfl rfl rfl rfl rfl rfl ?_
      refine c_X4_byteAt hW (eL hF) hL6 (by omega) ?_
      show zR E _ _ X 8 _ _ _ _ _ _ _
      rw [if_neg (by omega)]
      refine r_bipush (v := nI 32) qX4_goOn_8 (by decide) ?_
      refine r_icmp_eq (t := 26) qX4_goOn_10 (by decide) (fun hc10 => absurd hc10 (by decide)) (fun hc10 => ?_)
      refine r_aload_n qX4_goOn_13 rfl ?_
      refine r_aload_n qX4_goOn_14 rfl ?_
      refine r_geti qX4_goOn_15 fX4_217 rfl (by assumption) ?_
      rw [f6]
      refine r_cv1 (cu2 := 0) (su2 := 0) qX4_goOn_18 kX4_220 rfl (by decide +kernel) (c := 4) (by assumption) (by decide) rfl rfl rfl rfl rfl rfl ?_
      refine c_X4_byteAt hW (eL hF) hL6 (by omega) ?_
      show zR E _ _ X 21 _ _ _ _ _ _ _
      rw [if_neg (by omega)]
      refine r_bipush (v := nI 10) qX4_goOn_21 (by decide) ?_
      refine r_icmp_ne (t := 39) qX4_goOn_23 (by decide) (fun hc23 => ?_) (fun hc23 => absurd hc23 (by decide))
      exact K39 e i0 he f6 hF hK
    | succ q ih =>
      intro e i0 hq he f6 hF hK
      have heb := hBy e
      have e1 := eb hF
      rw [sSkip] at hK
      refine r_aload_n qX4_goOn_0 rfl ?_
      refine r_aload_n qX4_goOn_1 rfl ?_
      refine r_geti qX4_goOn_2 fX4_217 rfl (by assumption) ?_
      rw [f6]
      refine r_cv1 (cu2 := 0) (su2 := 0) qX4_goOn_5 kX4_220 rfl (by decide +kernel) (c := 4) (by assumption) (by decide) rfl rfl rfl rfl rfl rfl ?_
      refine c_X4_byteAt hW (eL hF) hL6 (by omega) ?_
      show zR E _ _ X 8 _ _ _ _ _ _ _
      rw [if_pos (by omega), e1]
      refine r_bipush (v := nI 32) qX4_goOn_8 (by decide) ?_
      refine r_icmp_eq (t := 26) qX4_goOn_10 (by decide) (fun hc10 => ?_) (fun hc10 => ?_)
      · refine r_aload_n qX4_goOn_26 rfl ?_
        refine r_dup qX4_goOn_27 rfl ?_
        refine r_geti qX4_goOn_28 fX4_217 rfl (by assumption) ?_
        rw [f6]
        refine r_iconst (v := nI 1) qX4_goOn_31 (by decide) ?_
        first | with_reducible refine r_iaddN qX4_goOn_32 ?_ | refine r_iadd qX4_goOn_32 ?_
        refine r_puti qX4_goOn_33 fX4_217 (Or.inl rfl) rfl rfl rfl (by assumption) ?_
        refine r_goto (t := 0) qX4_goOn_36 (by decide) ?_
        exact ih (e + 1) _ (by omega) (by omega) (by rw [wA_s, pk_us]) (zFr.F hF (fun m a b c d e => by simp only [upd, if_neg a, if_neg b, if_neg c, if_neg d, if_neg e])) (by first | (rw [if_pos (show e < L ∧ kSp (i b e) = true from ⟨by omega, (kSp_u heb).mp (Or.inl hc10)⟩)] at hK; exact hK) | (rw [if_pos (show e < L ∧ kSp (i b e) = true from ⟨by omega, (kSp_u heb).mp (Or.inr hc23)⟩)] at hK; exact hK))
      · refine r_aload_n qX4_goOn_13 rfl ?_
        refine r_aload_n qX4_goOn_14 rfl ?_
        refine r_geti qX4_goOn_15 fX4_217 rfl (by assumption) ?_
        rw [f6]
        refine r_cv1 (cu2 := 0) (su2 := 0) qX4_goOn_18 kX4_220 rfl (by decide +kernel) (c := 4) (by assumption) (by decide) rfl rfl rfl rfl rfl rfl ?_
        refine c_X4_byteAt hW (eL hF) hL6 (by omega) ?_
        show zR E _ _ X 21 _ _ _ _ _ _ _
        rw [if_pos (by omega), e1]
        refine r_bipush (v := nI 10) qX4_goOn_21 (by decide) ?_
        refine r_icmp_ne (t := 39) qX4_goOn_23 (by decide) (fun hc23 => ?_) (fun hc23 => ?_)
        · exact K39 e i0 he f6 hF (by rw [if_neg (fun h => ((kSp_u heb).mpr h.2).elim hc10 hc23)] at hK; exact hK)
        · refine r_aload_n qX4_goOn_26 rfl ?_
          refine r_dup qX4_goOn_27 rfl ?_
          refine r_geti qX4_goOn_28 fX4_217 rfl (by assumption) ?_
          rw [f6]
          refine r_iconst (v := nI 1) qX4_goOn_31 (by decide) ?_
          first | with_reducible refine r_iaddN qX4_goOn_32 ?_ | refine r_iadd qX4_goOn_32 ?_
          refine r_puti qX4_goOn_33 fX4_217 (Or.inl rfl) rfl rfl rfl (by assumption) ?_
          refine r_goto (t := 0) qX4_goOn_36 (by decide) ?_
          exact ih (e + 1) _ (by omega) (by omega) (by rw [wA_s, pk_us]) (zFr.F hF (fun m a b c d e => by simp only [upd, if_neg a, if_neg b, if_neg c, if_neg d, if_neg e])) (by first | (rw [if_pos (show e < L ∧ kSp (i b e) = true from ⟨by omega, (kSp_u heb).mp (Or.inl hc10)⟩)] at hK; exact hK) | (rw [if_pos (show e < L ∧ kSp (i b e) = true from ⟨by omega, (kSp_u heb).mp (Or.inr hc23)⟩)] at hK; exact hK))
  exact K0 (L - a) a i rfl haL ha zFr.refl hK

