/-! ===== THE MODEL READS A NEW SPIRIT, A NEW BATH ===== -/
theorem zG.bb {x b r L t : Nat} {B N : Nat → Int32} {i0 i : Ni} {j0 j : Nj} (h : zG x b r L B N i0 j0 t i j) : i b = B := h.2.1
theorem zG.tok {x b r L t : Nat} {B N : Nat → Int32} {i0 i : Ni} {j0 j : Nj} (h : zG x b r L B N i0 j0 t i j) : zTok (i x) (j x) B L t := by
  obtain ⟨⟨-, -, -, -, h5⟩, hb, -⟩ := h
  rw [hb] at h5
  exact h5
theorem sLtr_le {L t : Nat} (B : Nat → Int32) (h : t ≤ L) : sLtr B L t ≤ L := by
  rw [sLtr]
  split
  · have := sEnd_le B L t h; omega
  · omega
set_option maxHeartbeats 4000000 in
set_option maxRecDepth 20000 in
theorem c_readSpirit {E : Ev} {g : Sh} {i : Ni} {j : Nj} {K : Kp} {x n d b p s o r L t : Nat} {B N : Nat → Int32} {i0 : Ni} {j0 : Nj} (hW : zW g x n d b p s o) (hM : zM g x r) (hrx : r ≠ x) (hrb : r ≠ b) (hO : zOk N) (hG : zG x b r L B N i0 j0 t i j) (hK : ∀ i' j', zRes x b r L B i0 j0 (mSpirit N B L t) i' j' → K (.inl none) g i' j') : zCon E mX4_readNew [.ref x, .int (nI 1)] g i j K := by
  refine zcon_of (by decide +kernel) rfl rfl (lo := [.ref x, .int (nI 1), zJ, zJ, zJ]) rfl (fun X => ?_)
  have w1 := hW.1
  obtain ⟨hM1, hM2, hM3, hM4⟩ := id hM
  obtain ⟨hP, hb, -⟩ := id hG
  have hL6 := hP.2.1
  have hS5 := hO.S5
  have hB4 := hO.B4
  have Kbm : ∀ (i1 : Ni) (j1 : Nj), zE x r i0 j0 (nI 5) t i1 j1 → N 3 = nI 5 → zR E mX4_readNew (zZ E mX4_readNew K) X 22 [.ref x, .int (nI 1), zJ, zJ, zJ] [.int (nI 0)] g i1 j1 0 0 := by
    intro i1 j1 e he
    refine r_if_ne (t := 26) qX4_readNew_22 (by decide) (fun hc22 => absurd hc22 (by decide)) (fun hc22 => ?_)
    refine r_vret qX4_readNew_25 rfl rfl rfl ?_
    refine hK _ _ ?_; rw [mSpirit, if_pos he]; exact e
  have Kb143 : ∀ (y2 y3 y4 : Int32) (i1 : Ni) (j1 : Nj) (c : Int32) (w : Nat), zE x r i0 j0 c w i1 j1 → mSpirit N B L t = .error (c, w) → zR E mX4_readNew (zZ E mX4_readNew K) X 143 [.ref x, .int (nI 1), .int y2, .int y3, .int y4] [] g i1 j1 0 0 := by
    intro y2 y3 y4 i1 j1 c w e he
    have h0 := e.b
    refine r_aload_n qX4_readNew_143 rfl ?_
    refine r_cv0 (cu2 := 0) (su2 := 0) qX4_readNew_144 kX4_269 rfl (by decide +kernel) (c := 4) (by assumption) (by decide) rfl rfl rfl rfl rfl rfl ?_
    refine c_X4_isGood (by first | assumption | omega | rfl | decide) ?_
    show zR E _ _ X 147 _ _ _ _ _ _ _
    rw [zb_f (p := i1 x 12 = 0) h0]
    refine r_if_eq (t := 165) qX4_readNew_147 (by decide) (fun hc147 => ?_) (fun hc147 => absurd hc147 (by decide))
    refine r_aload_n qX4_readNew_165 rfl ?_
    refine r_cv0 (cu2 := 0) (su2 := 0) qX4_readNew_166 kX4_269 rfl (by decide +kernel) (c := 4) (by assumption) (by decide) rfl rfl rfl rfl rfl rfl ?_
    refine c_X4_isGood (by first | assumption | omega | rfl | decide) ?_
    show zR E _ _ X 169 _ _ _ _ _ _ _
    rw [zb_f (p := i1 x 12 = 0) h0]
    refine r_if_eq (t := 180) qX4_readNew_169 (by decide) (fun hc169 => ?_) (fun hc169 => absurd hc169 (by decide))
    refine r_vret qX4_readNew_180 rfl rfl rfl ?_
    refine hK _ _ ?_; rw [he]; exact e
  have Kb136 : ∀ (u y2 y3 : Int32) (i1 : Ni) (j1 : Nj) (c : Int32) (w : Nat), zE x r i0 j0 c w i1 j1 → mSpirit N B L t = .error (c, w) → zR E mX4_readNew (zZ E mX4_readNew K) X 136 [.ref x, .int (nI 1), .int y2, .int y3, zJ] [.int u] g i1 j1 0 0 := by
    intro u y2 y3 i1 j1 c w e he
    have h0 := e.b
    refine r_is_5_4 qX4_readNew_136 rfl rfl ?_
    refine r_aload_n qX4_readNew_138 rfl ?_
    refine r_iconst (v := nI 0) qX4_readNew_139 (by decide) ?_
    refine r_cv1 (cu2 := 0) (su2 := 0) qX4_readNew_140 kX4_300 rfl (by decide +kernel) (c := 4) (by assumption) (by decide) rfl rfl rfl rfl rfl rfl ?_
    refine cB_takeEnd w1 h0 ?_
    show zR E _ _ X 143 _ _ _ _ _ _ _
    exact Kb143 _ _ _ i1 j1 c w e he
  have Kb95 : ∀ (i1 : Ni) (j1 : Nj) (c : Int32) (w : Nat), zE x r i0 j0 c w i1 j1 → mSpirit N B L t = .error (c, w) → zR E mX4_readNew (zZ E mX4_readNew K) X 95 [.ref x, .int (nI 1), zJ, zJ, zJ] [] g i1 j1 0 0 := by
    intro i1 j1 c w e he
    have h0 := e.b
    refine r_aload_n qX4_readNew_95 rfl ?_
    refine r_cv0 (cu2 := 0) (su2 := 0) qX4_readNew_96 kX4_269 rfl (by decide +kernel) (c := 4) (by assumption) (by decide) rfl rfl rfl rfl rfl rfl ?_
    refine c_X4_isGood (by first | assumption | omega | rfl | decide) ?_
    show zR E _ _ X 99 _ _ _ _ _ _ _
    rw [zb_f (p := i1 x 12 = 0) h0]
    refine r_if_ne (t := 103) qX4_readNew_99 (by decide) (fun hc99 => absurd hc99 (by decide)) (fun hc99 => ?_)
    refine r_vret qX4_readNew_102 rfl rfl rfl ?_
    refine hK _ _ ?_; rw [he]; exact e
  have Kb62 : ∀ (i1 : Ni) (j1 : Nj) (c : Int32) (w : Nat), zE x r i0 j0 c w i1 j1 → mSpirit N B L t = .error (c, w) → zR E mX4_readNew (zZ E mX4_readNew K) X 62 [.ref x, .int (nI 1), zJ, zJ, zJ] [] g i1 j1 0 0 := by
    intro i1 j1 c w e he
    have h0 := e.b
    refine r_aload_n qX4_readNew_62 rfl ?_
    refine r_aload_n qX4_readNew_63 rfl ?_
    refine r_cv0 (cu2 := 0) (su2 := 0) qX4_readNew_64 kX4_269 rfl (by decide +kernel) (c := 4) (by assumption) (by decide) rfl rfl rfl rfl rfl rfl ?_
    refine c_X4_isGood (by first | assumption | omega | rfl | decide) ?_
    show zR E _ _ X 67 _ _ _ _ _ _ _
    rw [zb_f (p := i1 x 12 = 0) h0]
    refine r_if_eq (t := 90) qX4_readNew_67 (by decide) (fun hc67 => ?_) (fun hc67 => absurd hc67 (by decide))
    refine r_iconst (v := nI 0) qX4_readNew_90 (by decide) ?_
    refine r_iconst (v := nI 3) qX4_readNew_91 (by decide) ?_
    refine r_cv2 (cu2 := 0) (su2 := 0) qX4_readNew_92 kX4_283 rfl (by decide +kernel) (c := 4) (by assumption) (by decide) rfl rfl rfl rfl rfl rfl ?_
    refine c_X4_requireNot (P := False) (dP := instDecidableFalse) w1 ?_; rw [if_neg (fun h => h.2)]
    show zR E _ _ X 95 _ _ _ _ _ _ _
    exact Kb95 i1 j1 c w e he
  have Kb44 : ∀ (i1 : Ni) (j1 : Nj) (c : Int32) (w : Nat), zE x r i0 j0 c w i1 j1 → mSpirit N B L t = .error (c, w) → zR E mX4_readNew (zZ E mX4_readNew K) X 44 [.ref x, .int (nI 1), zJ, zJ, zJ] [] g i1 j1 0 0 := by
    intro i1 j1 c w e he
    have h0 := e.b
    refine r_aload_n qX4_readNew_44 rfl ?_
    refine r_aload_n qX4_readNew_45 rfl ?_
    refine r_geti qX4_readNew_46 fX4_226 rfl (by assumption) ?_
    refine r_iconst (v := nI 4) qX4_readNew_49 (by decide) ?_
    refine r_icmp_le (t := 57) qX4_readNew_50 (by decide) (fun hc50 => ?_) (fun hc50 => ?_)
    · refine r_iconst (v := nI 0) qX4_readNew_57 (by decide) ?_
      refine r_iconst (v := nI 2) qX4_readNew_58 (by decide) ?_
      refine r_cv2 (cu2 := 0) (su2 := 0) qX4_readNew_59 kX4_283 rfl (by decide +kernel) (c := 4) (by assumption) (by decide) rfl rfl rfl rfl rfl rfl ?_
      first | (refine c_X4_requireNot (P := False) (dP := instDecidableFalse) w1 ?_; rw [if_neg (fun h => h.2)]) | (refine c_X4_requireNot (P := True) (dP := instDecidableTrue) w1 ?_; rw [if_neg (fun h => h0 h.1)])
      show zR E _ _ X 62 _ _ _ _ _ _ _
      exact Kb62 i1 j1 c w e he
    · refine r_iconst (v := nI 1) qX4_readNew_53 (by decide) ?_
      refine r_goto (t := 58) qX4_readNew_54 (by decide) ?_
      refine r_iconst (v := nI 2) qX4_readNew_58 (by decide) ?_
      refine r_cv2 (cu2 := 0) (su2 := 0) qX4_readNew_59 kX4_283 rfl (by decide +kernel) (c := 4) (by assumption) (by decide) rfl rfl rfl rfl rfl rfl ?_
      first | (refine c_X4_requireNot (P := False) (dP := instDecidableFalse) w1 ?_; rw [if_neg (fun h => h.2)]) | (refine c_X4_requireNot (P := True) (dP := instDecidableTrue) w1 ?_; rw [if_neg (fun h => h0 h.1)])
      show zR E _ _ X 62 _ _ _ _ _ _ _
      exact Kb62 i1 j1 c w e he
  have hS : ¬ N 3 = nI 5 → zn (N 3) < 5 := by
    intro hk0
    obtain ⟨z1, z2⟩ := hO.S5
    rcases Nat.lt_or_ge (zn (N 3)) 5 with z3 | z3
    · exact z3
    · exact absurd (z1.trans (congrArg nI (show zn (N 3) = 5 by omega))) hk0
  have K95 : ¬ N 3 = nI 5 → ∀ (iA : Ni) (jA : Nj), zG x b r L B N i0 j0 (sNext B L t) iA jA → tNew N B L (sNext B L t) = .ok (sNext B L (sNext B L t), ()) → zR E mX4_readNew (zZ E mX4_readNew K) X 95 [.ref x, .int (nI 1), zJ, zJ, zJ] [] g iA jA 0 0 := by
    intro hk0 iA jA GA hN
    obtain ⟨z8, z6, z7, z9, z11, z10⟩ := GA.tok
    have hS := hS hk0
    refine r_aload_n qX4_readNew_95 rfl ?_
    refine r_cv0 (cu2 := 0) (su2 := 0) qX4_readNew_96 kX4_269 rfl (by decide +kernel) (c := 4) (by assumption) (by decide) rfl rfl rfl rfl rfl rfl ?_
    refine c_X4_isGood (by first | assumption | omega | rfl | decide) ?_
    show zR E _ _ X 99 _ _ _ _ _ _ _
    rw [zb_t (p := iA x 12 = 0) GA.z]
    refine r_if_ne (t := 103) qX4_readNew_99 (by decide) (fun hc99 => ?_) (fun hc99 => absurd hc99 (by decide))
    refine r_aload_n qX4_readNew_103 rfl ?_
    refine r_getl qX4_readNew_104 fX4_229 rfl (by assumption) ?_
    rw [z10]
    refine r_l2i qX4_readNew_107 ?_
    refine r_is_5_2 qX4_readNew_108 rfl rfl ?_
    refine r_aload_n qX4_readNew_109 rfl ?_
    refine r_geti qX4_readNew_110 fX4_226 rfl (by assumption) ?_
    rw [z9]
    refine r_is_5_3 qX4_readNew_113 rfl rfl ?_
    refine r_aload_n qX4_readNew_114 rfl ?_
    refine r_cv0 (cu2 := 0) (su2 := 0) qX4_readNew_115 kX4_253 rfl (by decide +kernel) (c := 4) (by assumption) (by decide) rfl rfl rfl rfl rfl rfl ?_
    refine w_next hW hrx GA (fun iB jB GB => ?_)
    show zR E _ _ X 118 _ _ _ _ _ _ _
    refine r_iload_n qX4_readNew_118 rfl ?_
    refine r_if_eq (t := 132) qX4_readNew_119 (by decide) (fun hc119 => absurd hc119 (by decide)) (fun hc119 => ?_)
    refine r_aload_n qX4_readNew_122 rfl ?_
    refine r_iconst (v := nI 1) qX4_readNew_123 (by decide) ?_
    refine r_bipush (v := nI 40) qX4_readNew_124 (by decide) ?_
    refine r_cv2 (cu2 := 0) (su2 := 0) qX4_readNew_126 kX4_280 rfl (by decide +kernel) (c := 4) (by assumption) (by decide) rfl rfl rfl rfl rfl rfl ?_
    refine w_num hW hrx GB (fun t0 v0 h0 ia0 ja0 G0 => ?_) (fun c w h u i2 j2 e => ?_)
    rotate_left
    · show zR E _ _ X 129 _ _ _ _ _ _ _
      refine r_goto (t := 136) qX4_readNew_129 (by decide) ?_
      exact Kb136 u _ _ i2 j2 c w e (by rw [mSpirit, if_neg hk0, hN, tB_o, h]; rfl)
    show zR E _ _ X 129 _ _ _ _ _ _ _
    refine r_goto (t := 136) qX4_readNew_129 (by decide) ?_
    refine r_is_5_4 qX4_readNew_136 rfl rfl ?_
    refine r_aload_n qX4_readNew_138 rfl ?_
    refine r_iconst (v := nI 0) qX4_readNew_139 (by decide) ?_
    refine r_cv1 (cu2 := 0) (su2 := 0) qX4_readNew_140 kX4_300 rfl (by decide +kernel) (c := 4) (by assumption) (by decide) rfl rfl rfl rfl rfl rfl ?_
    refine w_end (P := False) (dP := instDecidableFalse) hW hrx G0 (fun t1 v1 h1 hp ia1 ja1 G1 => ?_) (fun c w h i2 j2 e => Kb143 _ _ _ i2 j2 c w e (by rw [mSpirit, if_neg hk0, hN, tB_o, h0, tB_o, h]; rfl))
    show zR E _ _ X 143 _ _ _ _ _ _ _
    refine r_aload_n qX4_readNew_143 rfl ?_
    refine r_cv0 (cu2 := 0) (su2 := 0) qX4_readNew_144 kX4_269 rfl (by decide +kernel) (c := 4) (by assumption) (by decide) rfl rfl rfl rfl rfl rfl ?_
    refine c_X4_isGood (by first | assumption | omega | rfl | decide) ?_
    show zR E _ _ X 147 _ _ _ _ _ _ _
    rw [zb_t (p := ia1 x 12 = 0) G1.z]
    refine r_if_eq (t := 165) qX4_readNew_147 (by decide) (fun hc147 => absurd hc147 (by decide)) (fun hc147 => ?_)
    refine r_iload_n qX4_readNew_150 rfl ?_
    refine r_if_eq (t := 165) qX4_readNew_151 (by decide) (fun hc151 => absurd hc151 (by decide)) (fun hc151 => ?_)
    refine r_aload_n qX4_readNew_154 rfl ?_
    refine r_iload_n qX4_readNew_155 rfl ?_
    refine r_iload_n qX4_readNew_156 rfl ?_
    refine r_iload qX4_readNew_157 rfl ?_
    refine r_cv3 (cu2 := 0) (su2 := 0) qX4_readNew_159 kX4_120 rfl (by decide +kernel) (c := 4) (by assumption) (by decide) rfl rfl rfl rfl rfl rfl ?_
    refine c_X4_laySpirit (S := zn (N 3)) hM (by rw [G1.row]; exact hS5.1) hS ?_
    show zR E _ _ X 162 _ _ _ _ _ _ _
    refine r_goto (t := 180) qX4_readNew_162 (by decide) ?_
    refine r_vret qX4_readNew_180 rfl rfl rfl ?_
    refine hK _ _ ?_
    rw [mSpirit, if_neg hk0, hN, tB_o, h0, tB_o, h1, tB_o]
    exact G1.put hrx hrb (by rw [G1.row])
  have K62 : ¬ N 3 = nI 5 → ∀ (iA : Ni) (jA : Nj), zG x b r L B N i0 j0 (sNext B L t) iA jA → sKind B L (sNext B L t) = 1 → ¬ 4 < sLtr B L (sNext B L t) → zR E mX4_readNew (zZ E mX4_readNew K) X 62 [.ref x, .int (nI 1), zJ, zJ, zJ] [] g iA jA 0 0 := by
    intro hk0 iA jA GA hk1 hk2
    obtain ⟨z8, z6, z7, z9, z11, z10⟩ := GA.tok
    have e3 : ¬ sUntil (fSp N B L (sNext B L t)) 0 (zn (N 3)) = -1 ∨ ¬ sUntil (fBa N B L (sNext B L t)) 0 (zn (N 4)) = -1 → mSpirit N B L t = .error (nI 3, sNext B L t) := by
      intro h
      rw [mSpirit, if_neg hk0, tNew, if_neg (fun h => h hk1), if_neg hk2, if_pos h]; rfl
    have e4 : sUntil (fSp N B L (sNext B L t)) 0 (zn (N 3)) = -1 → sUntil (fBa N B L (sNext B L t)) 0 (zn (N 4)) = -1 → tNew N B L (sNext B L t) = .ok (sNext B L (sNext B L t), ()) := by
      intro h1 h2
      rw [tNew, if_neg (fun h => h hk1), if_neg hk2, if_neg (fun h => h.elim (fun h => h h1) (fun h => h h2))]
    refine r_aload_n qX4_readNew_62 rfl ?_
    refine r_aload_n qX4_readNew_63 rfl ?_
    refine r_cv0 (cu2 := 0) (su2 := 0) qX4_readNew_64 kX4_269 rfl (by decide +kernel) (c := 4) (by assumption) (by decide) rfl rfl rfl rfl rfl rfl ?_
    refine c_X4_isGood (by first | assumption | omega | rfl | decide) ?_
    show zR E _ _ X 67 _ _ _ _ _ _ _
    rw [zb_t (p := iA x 12 = 0) GA.z]
    refine r_if_eq (t := 90) qX4_readNew_67 (by decide) (fun hc67 => absurd hc67 (by decide)) (fun hc67 => ?_)
    refine r_aload_n qX4_readNew_70 rfl ?_
    refine r_cv0 (cu2 := 0) (su2 := 0) qX4_readNew_71 kX4_287 rfl (by decide +kernel) (c := 4) (by assumption) (by decide) rfl rfl rfl rfl rfl rfl ?_
    refine c_X4_spiritHere hM GA.1 (S := zn (N 3)) (by rw [GA.row]; exact hS5.1) hS5.2 ?_
    show zR E _ _ X 74 _ _ _ _ _ _ _
    rw [GA.row, GA.bb]
    refine r_iconst (v := (-1)) qX4_readNew_74 (by decide) ?_
    refine r_icmp_ne (t := 86) qX4_readNew_75 (by decide) (fun hc75 => ?_) (fun hc75 => ?_)
    · refine r_iconst (v := nI 1) qX4_readNew_86 (by decide) ?_
      refine r_goto (t := 91) qX4_readNew_87 (by decide) ?_
      refine r_iconst (v := nI 3) qX4_readNew_91 (by decide) ?_
      refine r_cv2 (cu2 := 0) (su2 := 0) qX4_readNew_92 kX4_283 rfl (by decide +kernel) (c := 4) (by assumption) (by decide) rfl rfl rfl rfl rfl rfl ?_
      first | (refine c_X4_requireNot (P := False) (dP := instDecidableFalse) w1 ?_; rw [if_neg (fun h => h.2)]) | (refine c_X4_requireNot (P := True) (dP := instDecidableTrue) w1 ?_; rw [if_pos ⟨GA.z, trivial⟩, z8])
      show zR E _ _ X 95 _ _ _ _ _ _ _
      first | exact K95 hk0 iA jA GA (e4 hc75 hc83) | exact Kb95 _ _ _ _ (GA.bad (by decide)) (e3 (Or.inl hc75)) | exact Kb95 _ _ _ _ (GA.bad (by decide)) (e3 (Or.inr hc83))
    · refine r_aload_n qX4_readNew_78 rfl ?_
      refine r_cv0 (cu2 := 0) (su2 := 0) qX4_readNew_79 kX4_290 rfl (by decide +kernel) (c := 4) (by assumption) (by decide) rfl rfl rfl rfl rfl rfl ?_
      refine c_X4_bathHere hM GA.1 (S := zn (N 4)) (by rw [GA.row]; exact hB4.1) (Nat.le_succ_of_le hB4.2) ?_
      show zR E _ _ X 82 _ _ _ _ _ _ _
      rw [GA.row, GA.bb]
      refine r_iconst (v := (-1)) qX4_readNew_82 (by decide) ?_
      refine r_icmp_eq (t := 90) qX4_readNew_83 (by decide) (fun hc83 => ?_) (fun hc83 => ?_)
      · refine r_iconst (v := nI 0) qX4_readNew_90 (by decide) ?_
        refine r_iconst (v := nI 3) qX4_readNew_91 (by decide) ?_
        refine r_cv2 (cu2 := 0) (su2 := 0) qX4_readNew_92 kX4_283 rfl (by decide +kernel) (c := 4) (by assumption) (by decide) rfl rfl rfl rfl rfl rfl ?_
        first | (refine c_X4_requireNot (P := False) (dP := instDecidableFalse) w1 ?_; rw [if_neg (fun h => h.2)]) | (refine c_X4_requireNot (P := True) (dP := instDecidableTrue) w1 ?_; rw [if_pos ⟨GA.z, trivial⟩, z8])
        show zR E _ _ X 95 _ _ _ _ _ _ _
        first | exact K95 hk0 iA jA GA (e4 hc75 hc83) | exact Kb95 _ _ _ _ (GA.bad (by decide)) (e3 (Or.inl hc75)) | exact Kb95 _ _ _ _ (GA.bad (by decide)) (e3 (Or.inr hc83))
      · refine r_iconst (v := nI 1) qX4_readNew_86 (by decide) ?_
        refine r_goto (t := 91) qX4_readNew_87 (by decide) ?_
        refine r_iconst (v := nI 3) qX4_readNew_91 (by decide) ?_
        refine r_cv2 (cu2 := 0) (su2 := 0) qX4_readNew_92 kX4_283 rfl (by decide +kernel) (c := 4) (by assumption) (by decide) rfl rfl rfl rfl rfl rfl ?_
        first | (refine c_X4_requireNot (P := False) (dP := instDecidableFalse) w1 ?_; rw [if_neg (fun h => h.2)]) | (refine c_X4_requireNot (P := True) (dP := instDecidableTrue) w1 ?_; rw [if_pos ⟨GA.z, trivial⟩, z8])
        show zR E _ _ X 95 _ _ _ _ _ _ _
        first | exact K95 hk0 iA jA GA (e4 hc75 hc83) | exact Kb95 _ _ _ _ (GA.bad (by decide)) (e3 (Or.inl hc75)) | exact Kb95 _ _ _ _ (GA.bad (by decide)) (e3 (Or.inr hc83))
  have K44 : ¬ N 3 = nI 5 → ∀ (iA : Ni) (jA : Nj), zG x b r L B N i0 j0 (sNext B L t) iA jA → sKind B L (sNext B L t) = 1 → zR E mX4_readNew (zZ E mX4_readNew K) X 44 [.ref x, .int (nI 1), zJ, zJ, zJ] [] g iA jA 0 0 := by
    intro hk0 iA jA GA hk1
    obtain ⟨z8, z6, z7, z9, z11, z10⟩ := GA.tok
    have hl := sLtr_le B GA.1.2.2.2.1
    refine r_aload_n qX4_readNew_44 rfl ?_
    refine r_aload_n qX4_readNew_45 rfl ?_
    refine r_geti qX4_readNew_46 fX4_226 rfl (by assumption) ?_
    rw [z9]
    refine r_iconst (v := nI 4) qX4_readNew_49 (by decide) ?_
    refine r_icmp_le (t := 57) qX4_readNew_50 (by decide) (fun hc50 => ?_) (fun hc50 => ?_)
    · refine r_iconst (v := nI 0) qX4_readNew_57 (by decide) ?_
      refine r_iconst (v := nI 2) qX4_readNew_58 (by decide) ?_
      refine r_cv2 (cu2 := 0) (su2 := 0) qX4_readNew_59 kX4_283 rfl (by decide +kernel) (c := 4) (by assumption) (by decide) rfl rfl rfl rfl rfl rfl ?_
      first | (refine c_X4_requireNot (P := False) (dP := instDecidableFalse) w1 ?_; rw [if_neg (fun h => h.2)]) | (refine c_X4_requireNot (P := True) (dP := instDecidableTrue) w1 ?_; rw [if_pos ⟨GA.z, trivial⟩, z8])
      show zR E _ _ X 62 _ _ _ _ _ _ _
      first | exact K62 hk0 iA jA GA hk1 (fun h => nI_ge h (by omega) hc50) | exact Kb62 _ _ _ _ (GA.bad (by decide)) (by rw [mSpirit, if_neg hk0, tNew, if_neg (fun h => h hk1), if_pos (Nat.lt_of_not_le fun h => hc50 (nI_le h (by omega)))]; rfl)
    · refine r_iconst (v := nI 1) qX4_readNew_53 (by decide) ?_
      refine r_goto (t := 58) qX4_readNew_54 (by decide) ?_
      refine r_iconst (v := nI 2) qX4_readNew_58 (by decide) ?_
      refine r_cv2 (cu2 := 0) (su2 := 0) qX4_readNew_59 kX4_283 rfl (by decide +kernel) (c := 4) (by assumption) (by decide) rfl rfl rfl rfl rfl rfl ?_
      first | (refine c_X4_requireNot (P := False) (dP := instDecidableFalse) w1 ?_; rw [if_neg (fun h => h.2)]) | (refine c_X4_requireNot (P := True) (dP := instDecidableTrue) w1 ?_; rw [if_pos ⟨GA.z, trivial⟩, z8])
      show zR E _ _ X 62 _ _ _ _ _ _ _
      first | exact K62 hk0 iA jA GA hk1 (fun h => nI_ge h (by omega) hc50) | exact Kb62 _ _ _ _ (GA.bad (by decide)) (by rw [mSpirit, if_neg hk0, tNew, if_neg (fun h => h hk1), if_pos (Nat.lt_of_not_le fun h => hc50 (nI_le h (by omega)))]; rfl)
  have K26 : ¬ N 3 = nI 5 → ∀ (iA : Ni) (jA : Nj), zG x b r L B N i0 j0 (sNext B L t) iA jA → zR E mX4_readNew (zZ E mX4_readNew K) X 26 [.ref x, .int (nI 1), zJ, zJ, zJ] [] g iA jA 0 0 := by
    intro hk0 iA jA GA
    obtain ⟨z8, z6, z7, z9, z11, z10⟩ := GA.tok
    have hk4 := sKind_lt B L (sNext B L t)
    refine r_aload_n qX4_readNew_26 rfl ?_
    refine r_aload_n qX4_readNew_27 rfl ?_
    refine r_geti qX4_readNew_28 fX4_235 rfl (by assumption) ?_
    rw [z7]
    refine r_iconst (v := nI 1) qX4_readNew_31 (by decide) ?_
    refine r_icmp_eq (t := 39) qX4_readNew_32 (by decide) (fun hc32 => ?_) (fun hc32 => ?_)
    · refine r_iconst (v := nI 0) qX4_readNew_39 (by decide) ?_
      refine r_iconst (v := nI 1) qX4_readNew_40 (by decide) ?_
      refine r_cv2 (cu2 := 0) (su2 := 0) qX4_readNew_41 kX4_283 rfl (by decide +kernel) (c := 4) (by assumption) (by decide) rfl rfl rfl rfl rfl rfl ?_
      first | (refine c_X4_requireNot (P := False) (dP := instDecidableFalse) w1 ?_; rw [if_neg (fun h => h.2)]) | (refine c_X4_requireNot (P := True) (dP := instDecidableTrue) w1 ?_; rw [if_pos ⟨GA.z, trivial⟩, z8])
      show zR E _ _ X 44 _ _ _ _ _ _ _
      first | exact K44 hk0 iA jA GA ((nI_eq (by omega) (by omega)).mp hc32) | exact Kb44 _ _ _ _ (GA.bad (by decide)) (by rw [mSpirit, if_neg hk0, tNew, if_pos (fun h => hc32 (congrArg nI h))]; rfl)
    · refine r_iconst (v := nI 1) qX4_readNew_35 (by decide) ?_
      refine r_goto (t := 40) qX4_readNew_36 (by decide) ?_
      refine r_iconst (v := nI 1) qX4_readNew_40 (by decide) ?_
      refine r_cv2 (cu2 := 0) (su2 := 0) qX4_readNew_41 kX4_283 rfl (by decide +kernel) (c := 4) (by assumption) (by decide) rfl rfl rfl rfl rfl rfl ?_
      first | (refine c_X4_requireNot (P := False) (dP := instDecidableFalse) w1 ?_; rw [if_neg (fun h => h.2)]) | (refine c_X4_requireNot (P := True) (dP := instDecidableTrue) w1 ?_; rw [if_pos ⟨GA.z, trivial⟩, z8])
      show zR E _ _ X 44 _ _ _ _ _ _ _
      first | exact K44 hk0 iA jA GA ((nI_eq (by omega) (by omega)).mp hc32) | exact Kb44 _ _ _ _ (GA.bad (by decide)) (by rw [mSpirit, if_neg hk0, tNew, if_pos (fun h => hc32 (congrArg nI h))]; rfl)
  refine r_aload_n qX4_readNew_0 rfl ?_
  refine r_iload_n qX4_readNew_1 rfl ?_
  refine r_if_eq (t := 9) qX4_readNew_2 (by decide) (fun hc2 => absurd hc2 (by decide)) (fun hc2 => ?_)
  refine r_iconst (v := nI 3) qX4_readNew_5 (by decide) ?_
  refine r_goto (t := 10) qX4_readNew_6 (by decide) ?_
  refine r_iload_n qX4_readNew_10 rfl ?_
  refine r_if_eq (t := 18) qX4_readNew_11 (by decide) (fun hc11 => absurd hc11 (by decide)) (fun hc11 => ?_)
  refine r_iconst (v := nI 5) qX4_readNew_14 (by decide) ?_
  refine r_goto (t := 19) qX4_readNew_15 (by decide) ?_
  refine r_cv2 (cu2 := 0) (su2 := 0) qX4_readNew_19 kX4_304 rfl (by decide +kernel) (c := 4) (by assumption) (by decide) rfl rfl rfl rfl rfl rfl ?_
  refine w_more hW hM hrx hG (by decide) (fun hk0 iA jA GA => ?_) (fun he i2 j2 e => Kbm i2 j2 e he)
  show zR E _ _ X 22 _ _ _ _ _ _ _
  refine r_if_ne (t := 26) qX4_readNew_22 (by decide) (fun hc22 => ?_) (fun hc22 => absurd hc22 (by decide))
  exact K26 hk0 iA jA GA
set_option maxHeartbeats 4000000 in
set_option maxRecDepth 20000 in
theorem c_readBath {E : Ev} {g : Sh} {i : Ni} {j : Nj} {K : Kp} {x n d b p s o r L t : Nat} {B N : Nat → Int32} {i0 : Ni} {j0 : Nj} (hW : zW g x n d b p s o) (hM : zM g x r) (hrx : r ≠ x) (hrb : r ≠ b) (hO : zOk N) (hG : zG x b r L B N i0 j0 t i j) (hK : ∀ i' j', zRes x b r L B i0 j0 (mBath N B L t) i' j' → K (.inl none) g i' j') : zCon E mX4_readNew [.ref x, .int (nI 0)] g i j K := by
  refine zcon_of (by decide +kernel) rfl rfl (lo := [.ref x, .int (nI 0), zJ, zJ, zJ]) rfl (fun X => ?_)
  have w1 := hW.1
  obtain ⟨hM1, hM2, hM3, hM4⟩ := id hM
  obtain ⟨hP, hb, -⟩ := id hG
  have hL6 := hP.2.1
  have hS5 := hO.S5
  have hB4 := hO.B4
  have Kbm : ∀ (i1 : Ni) (j1 : Nj), zE x r i0 j0 (nI 5) t i1 j1 → N 4 = nI 4 → zR E mX4_readNew (zZ E mX4_readNew K) X 22 [.ref x, .int (nI 0), zJ, zJ, zJ] [.int (nI 0)] g i1 j1 0 0 := by
    intro i1 j1 e he
    refine r_if_ne (t := 26) qX4_readNew_22 (by decide) (fun hc22 => absurd hc22 (by decide)) (fun hc22 => ?_)
    refine r_vret qX4_readNew_25 rfl rfl rfl ?_
    refine hK _ _ ?_; rw [mBath, if_pos he]; exact e
  have Kb143 : ∀ (y2 y3 y4 : Int32) (i1 : Ni) (j1 : Nj) (c : Int32) (w : Nat), zE x r i0 j0 c w i1 j1 → mBath N B L t = .error (c, w) → zR E mX4_readNew (zZ E mX4_readNew K) X 143 [.ref x, .int (nI 0), .int y2, .int y3, .int y4] [] g i1 j1 0 0 := by
    intro y2 y3 y4 i1 j1 c w e he
    have h0 := e.b
    refine r_aload_n qX4_readNew_143 rfl ?_
    refine r_cv0 (cu2 := 0) (su2 := 0) qX4_readNew_144 kX4_269 rfl (by decide +kernel) (c := 4) (by assumption) (by decide) rfl rfl rfl rfl rfl rfl ?_
    refine c_X4_isGood (by first | assumption | omega | rfl | decide) ?_
    show zR E _ _ X 147 _ _ _ _ _ _ _
    rw [zb_f (p := i1 x 12 = 0) h0]
    refine r_if_eq (t := 165) qX4_readNew_147 (by decide) (fun hc147 => ?_) (fun hc147 => absurd hc147 (by decide))
    refine r_aload_n qX4_readNew_165 rfl ?_
    refine r_cv0 (cu2 := 0) (su2 := 0) qX4_readNew_166 kX4_269 rfl (by decide +kernel) (c := 4) (by assumption) (by decide) rfl rfl rfl rfl rfl rfl ?_
    refine c_X4_isGood (by first | assumption | omega | rfl | decide) ?_
    show zR E _ _ X 169 _ _ _ _ _ _ _
    rw [zb_f (p := i1 x 12 = 0) h0]
    refine r_if_eq (t := 180) qX4_readNew_169 (by decide) (fun hc169 => ?_) (fun hc169 => absurd hc169 (by decide))
    refine r_vret qX4_readNew_180 rfl rfl rfl ?_
    refine hK _ _ ?_; rw [he]; exact e
  have Kb136 : ∀ (u y2 y3 : Int32) (i1 : Ni) (j1 : Nj) (c : Int32) (w : Nat), zE x r i0 j0 c w i1 j1 → mBath N B L t = .error (c, w) → zR E mX4_readNew (zZ E mX4_readNew K) X 136 [.ref x, .int (nI 0), .int y2, .int y3, zJ] [.int u] g i1 j1 0 0 := by
    intro u y2 y3 i1 j1 c w e he
    have h0 := e.b
    refine r_is_5_4 qX4_readNew_136 rfl rfl ?_
    refine r_aload_n qX4_readNew_138 rfl ?_
    refine r_iconst (v := nI 0) qX4_readNew_139 (by decide) ?_
    refine r_cv1 (cu2 := 0) (su2 := 0) qX4_readNew_140 kX4_300 rfl (by decide +kernel) (c := 4) (by assumption) (by decide) rfl rfl rfl rfl rfl rfl ?_
    refine cB_takeEnd w1 h0 ?_
    show zR E _ _ X 143 _ _ _ _ _ _ _
    exact Kb143 _ _ _ i1 j1 c w e he
  have Kb95 : ∀ (i1 : Ni) (j1 : Nj) (c : Int32) (w : Nat), zE x r i0 j0 c w i1 j1 → mBath N B L t = .error (c, w) → zR E mX4_readNew (zZ E mX4_readNew K) X 95 [.ref x, .int (nI 0), zJ, zJ, zJ] [] g i1 j1 0 0 := by
    intro i1 j1 c w e he
    have h0 := e.b
    refine r_aload_n qX4_readNew_95 rfl ?_
    refine r_cv0 (cu2 := 0) (su2 := 0) qX4_readNew_96 kX4_269 rfl (by decide +kernel) (c := 4) (by assumption) (by decide) rfl rfl rfl rfl rfl rfl ?_
    refine c_X4_isGood (by first | assumption | omega | rfl | decide) ?_
    show zR E _ _ X 99 _ _ _ _ _ _ _
    rw [zb_f (p := i1 x 12 = 0) h0]
    refine r_if_ne (t := 103) qX4_readNew_99 (by decide) (fun hc99 => absurd hc99 (by decide)) (fun hc99 => ?_)
    refine r_vret qX4_readNew_102 rfl rfl rfl ?_
    refine hK _ _ ?_; rw [he]; exact e
  have Kb62 : ∀ (i1 : Ni) (j1 : Nj) (c : Int32) (w : Nat), zE x r i0 j0 c w i1 j1 → mBath N B L t = .error (c, w) → zR E mX4_readNew (zZ E mX4_readNew K) X 62 [.ref x, .int (nI 0), zJ, zJ, zJ] [] g i1 j1 0 0 := by
    intro i1 j1 c w e he
    have h0 := e.b
    refine r_aload_n qX4_readNew_62 rfl ?_
    refine r_aload_n qX4_readNew_63 rfl ?_
    refine r_cv0 (cu2 := 0) (su2 := 0) qX4_readNew_64 kX4_269 rfl (by decide +kernel) (c := 4) (by assumption) (by decide) rfl rfl rfl rfl rfl rfl ?_
    refine c_X4_isGood (by first | assumption | omega | rfl | decide) ?_
    show zR E _ _ X 67 _ _ _ _ _ _ _
    rw [zb_f (p := i1 x 12 = 0) h0]
    refine r_if_eq (t := 90) qX4_readNew_67 (by decide) (fun hc67 => ?_) (fun hc67 => absurd hc67 (by decide))
    refine r_iconst (v := nI 0) qX4_readNew_90 (by decide) ?_
    refine r_iconst (v := nI 3) qX4_readNew_91 (by decide) ?_
    refine r_cv2 (cu2 := 0) (su2 := 0) qX4_readNew_92 kX4_283 rfl (by decide +kernel) (c := 4) (by assumption) (by decide) rfl rfl rfl rfl rfl rfl ?_
    refine c_X4_requireNot (P := False) (dP := instDecidableFalse) w1 ?_; rw [if_neg (fun h => h.2)]
    show zR E _ _ X 95 _ _ _ _ _ _ _
    exact Kb95 i1 j1 c w e he
  have Kb44 : ∀ (i1 : Ni) (j1 : Nj) (c : Int32) (w : Nat), zE x r i0 j0 c w i1 j1 → mBath N B L t = .error (c, w) → zR E mX4_readNew (zZ E mX4_readNew K) X 44 [.ref x, .int (nI 0), zJ, zJ, zJ] [] g i1 j1 0 0 := by
    intro i1 j1 c w e he
    have h0 := e.b
    refine r_aload_n qX4_readNew_44 rfl ?_
    refine r_aload_n qX4_readNew_45 rfl ?_
    refine r_geti qX4_readNew_46 fX4_226 rfl (by assumption) ?_
    refine r_iconst (v := nI 4) qX4_readNew_49 (by decide) ?_
    refine r_icmp_le (t := 57) qX4_readNew_50 (by decide) (fun hc50 => ?_) (fun hc50 => ?_)
    · refine r_iconst (v := nI 0) qX4_readNew_57 (by decide) ?_
      refine r_iconst (v := nI 2) qX4_readNew_58 (by decide) ?_
      refine r_cv2 (cu2 := 0) (su2 := 0) qX4_readNew_59 kX4_283 rfl (by decide +kernel) (c := 4) (by assumption) (by decide) rfl rfl rfl rfl rfl rfl ?_
      first | (refine c_X4_requireNot (P := False) (dP := instDecidableFalse) w1 ?_; rw [if_neg (fun h => h.2)]) | (refine c_X4_requireNot (P := True) (dP := instDecidableTrue) w1 ?_; rw [if_neg (fun h => h0 h.1)])
      show zR E _ _ X 62 _ _ _ _ _ _ _
      exact Kb62 i1 j1 c w e he
    · refine r_iconst (v := nI 1) qX4_readNew_53 (by decide) ?_
      refine r_goto (t := 58) qX4_readNew_54 (by decide) ?_
      refine r_iconst (v := nI 2) qX4_readNew_58 (by decide) ?_
      refine r_cv2 (cu2 := 0) (su2 := 0) qX4_readNew_59 kX4_283 rfl (by decide +kernel) (c := 4) (by assumption) (by decide) rfl rfl rfl rfl rfl rfl ?_
      first | (refine c_X4_requireNot (P := False) (dP := instDecidableFalse) w1 ?_; rw [if_neg (fun h => h.2)]) | (refine c_X4_requireNot (P := True) (dP := instDecidableTrue) w1 ?_; rw [if_neg (fun h => h0 h.1)])
      show zR E _ _ X 62 _ _ _ _ _ _ _
      exact Kb62 i1 j1 c w e he
  have hS : ¬ N 4 = nI 4 → zn (N 4) < 4 := by
    intro hk0
    obtain ⟨z1, z2⟩ := hO.B4
    rcases Nat.lt_or_ge (zn (N 4)) 4 with z3 | z3
    · exact z3
    · exact absurd (z1.trans (congrArg nI (show zn (N 4) = 4 by omega))) hk0
  have K95 : ¬ N 4 = nI 4 → ∀ (iA : Ni) (jA : Nj), zG x b r L B N i0 j0 (sNext B L t) iA jA → tNew N B L (sNext B L t) = .ok (sNext B L (sNext B L t), ()) → zR E mX4_readNew (zZ E mX4_readNew K) X 95 [.ref x, .int (nI 0), zJ, zJ, zJ] [] g iA jA 0 0 := by
    intro hk0 iA jA GA hN
    obtain ⟨z8, z6, z7, z9, z11, z10⟩ := GA.tok
    have hS := hS hk0
    refine r_aload_n qX4_readNew_95 rfl ?_
    refine r_cv0 (cu2 := 0) (su2 := 0) qX4_readNew_96 kX4_269 rfl (by decide +kernel) (c := 4) (by assumption) (by decide) rfl rfl rfl rfl rfl rfl ?_
    refine c_X4_isGood (by first | assumption | omega | rfl | decide) ?_
    show zR E _ _ X 99 _ _ _ _ _ _ _
    rw [zb_t (p := iA x 12 = 0) GA.z]
    refine r_if_ne (t := 103) qX4_readNew_99 (by decide) (fun hc99 => ?_) (fun hc99 => absurd hc99 (by decide))
    refine r_aload_n qX4_readNew_103 rfl ?_
    refine r_getl qX4_readNew_104 fX4_229 rfl (by assumption) ?_
    rw [z10]
    refine r_l2i qX4_readNew_107 ?_
    refine r_is_5_2 qX4_readNew_108 rfl rfl ?_
    refine r_aload_n qX4_readNew_109 rfl ?_
    refine r_geti qX4_readNew_110 fX4_226 rfl (by assumption) ?_
    rw [z9]
    refine r_is_5_3 qX4_readNew_113 rfl rfl ?_
    refine r_aload_n qX4_readNew_114 rfl ?_
    refine r_cv0 (cu2 := 0) (su2 := 0) qX4_readNew_115 kX4_253 rfl (by decide +kernel) (c := 4) (by assumption) (by decide) rfl rfl rfl rfl rfl rfl ?_
    refine w_next hW hrx GA (fun iB jB GB => ?_)
    show zR E _ _ X 118 _ _ _ _ _ _ _
    refine r_iload_n qX4_readNew_118 rfl ?_
    refine r_if_eq (t := 132) qX4_readNew_119 (by decide) (fun hc119 => ?_) (fun hc119 => absurd hc119 (fun h => h nI_0))
    refine r_aload_n qX4_readNew_132 rfl ?_
    refine r_cv0 (cu2 := 0) (su2 := 0) qX4_readNew_133 kX4_297 rfl (by decide +kernel) (c := 4) (by assumption) (by decide) rfl rfl rfl rfl rfl rfl ?_
    refine w_deg hW hrx GB (fun t0 v0 h0 ia0 ja0 G0 => ?_) (fun c w h u i2 j2 e => Kb136 u _ _ i2 j2 c w e (by rw [mBath, if_neg hk0, hN, tB_o, h]; rfl))
    show zR E _ _ X 136 _ _ _ _ _ _ _
    refine r_is_5_4 qX4_readNew_136 rfl rfl ?_
    refine r_aload_n qX4_readNew_138 rfl ?_
    refine r_iconst (v := nI 0) qX4_readNew_139 (by decide) ?_
    refine r_cv1 (cu2 := 0) (su2 := 0) qX4_readNew_140 kX4_300 rfl (by decide +kernel) (c := 4) (by assumption) (by decide) rfl rfl rfl rfl rfl rfl ?_
    refine w_end (P := False) (dP := instDecidableFalse) hW hrx G0 (fun t1 v1 h1 hp ia1 ja1 G1 => ?_) (fun c w h i2 j2 e => Kb143 _ _ _ i2 j2 c w e (by rw [mBath, if_neg hk0, hN, tB_o, h0, tB_o, h]; rfl))
    show zR E _ _ X 143 _ _ _ _ _ _ _
    refine r_aload_n qX4_readNew_143 rfl ?_
    refine r_cv0 (cu2 := 0) (su2 := 0) qX4_readNew_144 kX4_269 rfl (by decide +kernel) (c := 4) (by assumption) (by decide) rfl rfl rfl rfl rfl rfl ?_
    refine c_X4_isGood (by first | assumption | omega | rfl | decide) ?_
    show zR E _ _ X 147 _ _ _ _ _ _ _
    rw [zb_t (p := ia1 x 12 = 0) G1.z]
    refine r_if_eq (t := 165) qX4_readNew_147 (by decide) (fun hc147 => absurd hc147 (by decide)) (fun hc147 => ?_)
    refine r_iload_n qX4_readNew_150 rfl ?_
    refine r_if_eq (t := 165) qX4_readNew_151 (by decide) (fun hc151 => ?_) (fun hc151 => absurd hc151 (fun h => h nI_0))
    refine r_aload_n qX4_readNew_165 rfl ?_
    refine r_cv0 (cu2 := 0) (su2 := 0) qX4_readNew_166 kX4_269 rfl (by decide +kernel) (c := 4) (by assumption) (by decide) rfl rfl rfl rfl rfl rfl ?_
    refine c_X4_isGood (by first | assumption | omega | rfl | decide) ?_
    show zR E _ _ X 169 _ _ _ _ _ _ _
    rw [zb_t (p := ia1 x 12 = 0) G1.z]
    refine r_if_eq (t := 180) qX4_readNew_169 (by decide) (fun hc169 => absurd hc169 (by decide)) (fun hc169 => ?_)
    refine r_aload_n qX4_readNew_172 rfl ?_
    refine r_iload_n qX4_readNew_173 rfl ?_
    refine r_iload_n qX4_readNew_174 rfl ?_
    refine r_iload qX4_readNew_175 rfl ?_
    refine r_cv3 (cu2 := 0) (su2 := 0) qX4_readNew_177 kX4_128 rfl (by decide +kernel) (c := 4) (by assumption) (by decide) rfl rfl rfl rfl rfl rfl ?_
    refine c_X4_layBath (S := zn (N 4)) hM (by rw [G1.row]; exact hB4.1) hS ?_
    show zR E _ _ X 180 _ _ _ _ _ _ _
    refine r_vret qX4_readNew_180 rfl rfl rfl ?_
    refine hK _ _ ?_
    rw [mBath, if_neg hk0, hN, tB_o, h0, tB_o, h1, tB_o]
    exact G1.put hrx hrb (by rw [G1.row])
  have K62 : ¬ N 4 = nI 4 → ∀ (iA : Ni) (jA : Nj), zG x b r L B N i0 j0 (sNext B L t) iA jA → sKind B L (sNext B L t) = 1 → ¬ 4 < sLtr B L (sNext B L t) → zR E mX4_readNew (zZ E mX4_readNew K) X 62 [.ref x, .int (nI 0), zJ, zJ, zJ] [] g iA jA 0 0 := by
    intro hk0 iA jA GA hk1 hk2
    obtain ⟨z8, z6, z7, z9, z11, z10⟩ := GA.tok
    have e3 : ¬ sUntil (fSp N B L (sNext B L t)) 0 (zn (N 3)) = -1 ∨ ¬ sUntil (fBa N B L (sNext B L t)) 0 (zn (N 4)) = -1 → mBath N B L t = .error (nI 3, sNext B L t) := by
      intro h
      rw [mBath, if_neg hk0, tNew, if_neg (fun h => h hk1), if_neg hk2, if_pos h]; rfl
    have e4 : sUntil (fSp N B L (sNext B L t)) 0 (zn (N 3)) = -1 → sUntil (fBa N B L (sNext B L t)) 0 (zn (N 4)) = -1 → tNew N B L (sNext B L t) = .ok (sNext B L (sNext B L t), ()) := by
      intro h1 h2
      rw [tNew, if_neg (fun h => h hk1), if_neg hk2, if_neg (fun h => h.elim (fun h => h h1) (fun h => h h2))]
    refine r_aload_n qX4_readNew_62 rfl ?_
    refine r_aload_n qX4_readNew_63 rfl ?_
    refine r_cv0 (cu2 := 0) (su2 := 0) qX4_readNew_64 kX4_269 rfl (by decide +kernel) (c := 4) (by assumption) (by decide) rfl rfl rfl rfl rfl rfl ?_
    refine c_X4_isGood (by first | assumption | omega | rfl | decide) ?_
    show zR E _ _ X 67 _ _ _ _ _ _ _
    rw [zb_t (p := iA x 12 = 0) GA.z]
    refine r_if_eq (t := 90) qX4_readNew_67 (by decide) (fun hc67 => absurd hc67 (by decide)) (fun hc67 => ?_)
    refine r_aload_n qX4_readNew_70 rfl ?_
    refine r_cv0 (cu2 := 0) (su2 := 0) qX4_readNew_71 kX4_287 rfl (by decide +kernel) (c := 4) (by assumption) (by decide) rfl rfl rfl rfl rfl rfl ?_
    refine c_X4_spiritHere hM GA.1 (S := zn (N 3)) (by rw [GA.row]; exact hS5.1) hS5.2 ?_
    show zR E _ _ X 74 _ _ _ _ _ _ _
    rw [GA.row, GA.bb]
    refine r_iconst (v := (-1)) qX4_readNew_74 (by decide) ?_
    refine r_icmp_ne (t := 86) qX4_readNew_75 (by decide) (fun hc75 => ?_) (fun hc75 => ?_)
    · refine r_iconst (v := nI 1) qX4_readNew_86 (by decide) ?_
      refine r_goto (t := 91) qX4_readNew_87 (by decide) ?_
      refine r_iconst (v := nI 3) qX4_readNew_91 (by decide) ?_
      refine r_cv2 (cu2 := 0) (su2 := 0) qX4_readNew_92 kX4_283 rfl (by decide +kernel) (c := 4) (by assumption) (by decide) rfl rfl rfl rfl rfl rfl ?_
      first | (refine c_X4_requireNot (P := False) (dP := instDecidableFalse) w1 ?_; rw [if_neg (fun h => h.2)]) | (refine c_X4_requireNot (P := True) (dP := instDecidableTrue) w1 ?_; rw [if_pos ⟨GA.z, trivial⟩, z8])
      show zR E _ _ X 95 _ _ _ _ _ _ _
      first | exact K95 hk0 iA jA GA (e4 hc75 hc83) | exact Kb95 _ _ _ _ (GA.bad (by decide)) (e3 (Or.inl hc75)) | exact Kb95 _ _ _ _ (GA.bad (by decide)) (e3 (Or.inr hc83))
    · refine r_aload_n qX4_readNew_78 rfl ?_
      refine r_cv0 (cu2 := 0) (su2 := 0) qX4_readNew_79 kX4_290 rfl (by decide +kernel) (c := 4) (by assumption) (by decide) rfl rfl rfl rfl rfl rfl ?_
      refine c_X4_bathHere hM GA.1 (S := zn (N 4)) (by rw [GA.row]; exact hB4.1) (Nat.le_succ_of_le hB4.2) ?_
      show zR E _ _ X 82 _ _ _ _ _ _ _
      rw [GA.row, GA.bb]
      refine r_iconst (v := (-1)) qX4_readNew_82 (by decide) ?_
      refine r_icmp_eq (t := 90) qX4_readNew_83 (by decide) (fun hc83 => ?_) (fun hc83 => ?_)
      · refine r_iconst (v := nI 0) qX4_readNew_90 (by decide) ?_
        refine r_iconst (v := nI 3) qX4_readNew_91 (by decide) ?_
        refine r_cv2 (cu2 := 0) (su2 := 0) qX4_readNew_92 kX4_283 rfl (by decide +kernel) (c := 4) (by assumption) (by decide) rfl rfl rfl rfl rfl rfl ?_
        first | (refine c_X4_requireNot (P := False) (dP := instDecidableFalse) w1 ?_; rw [if_neg (fun h => h.2)]) | (refine c_X4_requireNot (P := True) (dP := instDecidableTrue) w1 ?_; rw [if_pos ⟨GA.z, trivial⟩, z8])
        show zR E _ _ X 95 _ _ _ _ _ _ _
        first | exact K95 hk0 iA jA GA (e4 hc75 hc83) | exact Kb95 _ _ _ _ (GA.bad (by decide)) (e3 (Or.inl hc75)) | exact Kb95 _ _ _ _ (GA.bad (by decide)) (e3 (Or.inr hc83))
      · refine r_iconst (v := nI 1) qX4_readNew_86 (by decide) ?_
        refine r_goto (t := 91) qX4_readNew_87 (by decide) ?_
        refine r_iconst (v := nI 3) qX4_readNew_91 (by decide) ?_
        refine r_cv2 (cu2 := 0) (su2 := 0) qX4_readNew_92 kX4_283 rfl (by decide +kernel) (c := 4) (by assumption) (by decide) rfl rfl rfl rfl rfl rfl ?_
        first | (refine c_X4_requireNot (P := False) (dP := instDecidableFalse) w1 ?_; rw [if_neg (fun h => h.2)]) | (refine c_X4_requireNot (P := True) (dP := instDecidableTrue) w1 ?_; rw [if_pos ⟨GA.z, trivial⟩, z8])
        show zR E _ _ X 95 _ _ _ _ _ _ _
        first | exact K95 hk0 iA jA GA (e4 hc75 hc83) | exact Kb95 _ _ _ _ (GA.bad (by decide)) (e3 (Or.inl hc75)) | exact Kb95 _ _ _ _ (GA.bad (by decide)) (e3 (Or.inr hc83))
  have K44 : ¬ N 4 = nI 4 → ∀ (iA : Ni) (jA : Nj), zG x b r L B N i0 j0 (sNext B L t) iA jA → sKind B L (sNext B L t) = 1 → zR E mX4_readNew (zZ E mX4_readNew K) X 44 [.ref x, .int (nI 0), zJ, zJ, zJ] [] g iA jA 0 0 := by
    intro hk0 iA jA GA hk1
    obtain ⟨z8, z6, z7, z9, z11, z10⟩ := GA.tok
    have hl := sLtr_le B GA.1.2.2.2.1
    refine r_aload_n qX4_readNew_44 rfl ?_
    refine r_aload_n qX4_readNew_45 rfl ?_
    refine r_geti qX4_readNew_46 fX4_226 rfl (by assumption) ?_
    rw [z9]
    refine r_iconst (v := nI 4) qX4_readNew_49 (by decide) ?_
    refine r_icmp_le (t := 57) qX4_readNew_50 (by decide) (fun hc50 => ?_) (fun hc50 => ?_)
    · refine r_iconst (v := nI 0) qX4_readNew_57 (by decide) ?_
      refine r_iconst (v := nI 2) qX4_readNew_58 (by decide) ?_
      refine r_cv2 (cu2 := 0) (su2 := 0) qX4_readNew_59 kX4_283 rfl (by decide +kernel) (c := 4) (by assumption) (by decide) rfl rfl rfl rfl rfl rfl ?_
      first | (refine c_X4_requireNot (P := False) (dP := instDecidableFalse) w1 ?_; rw [if_neg (fun h => h.2)]) | (refine c_X4_requireNot (P := True) (dP := instDecidableTrue) w1 ?_; rw [if_pos ⟨GA.z, trivial⟩, z8])
      show zR E _ _ X 62 _ _ _ _ _ _ _
      first | exact K62 hk0 iA jA GA hk1 (fun h => nI_ge h (by omega) hc50) | exact Kb62 _ _ _ _ (GA.bad (by decide)) (by rw [mBath, if_neg hk0, tNew, if_neg (fun h => h hk1), if_pos (Nat.lt_of_not_le fun h => hc50 (nI_le h (by omega)))]; rfl)
    · refine r_iconst (v := nI 1) qX4_readNew_53 (by decide) ?_
      refine r_goto (t := 58) qX4_readNew_54 (by decide) ?_
      refine r_iconst (v := nI 2) qX4_readNew_58 (by decide) ?_
      refine r_cv2 (cu2 := 0) (su2 := 0) qX4_readNew_59 kX4_283 rfl (by decide +kernel) (c := 4) (by assumption) (by decide) rfl rfl rfl rfl rfl rfl ?_
      first | (refine c_X4_requireNot (P := False) (dP := instDecidableFalse) w1 ?_; rw [if_neg (fun h => h.2)]) | (refine c_X4_requireNot (P := True) (dP := instDecidableTrue) w1 ?_; rw [if_pos ⟨GA.z, trivial⟩, z8])
      show zR E _ _ X 62 _ _ _ _ _ _ _
      first | exact K62 hk0 iA jA GA hk1 (fun h => nI_ge h (by omega) hc50) | exact Kb62 _ _ _ _ (GA.bad (by decide)) (by rw [mBath, if_neg hk0, tNew, if_neg (fun h => h hk1), if_pos (Nat.lt_of_not_le fun h => hc50 (nI_le h (by omega)))]; rfl)
  have K26 : ¬ N 4 = nI 4 → ∀ (iA : Ni) (jA : Nj), zG x b r L B N i0 j0 (sNext B L t) iA jA → zR E mX4_readNew (zZ E mX4_readNew K) X 26 [.ref x, .int (nI 0), zJ, zJ, zJ] [] g iA jA 0 0 := by
    intro hk0 iA jA GA
    obtain ⟨z8, z6, z7, z9, z11, z10⟩ := GA.tok
    have hk4 := sKind_lt B L (sNext B L t)
    refine r_aload_n qX4_readNew_26 rfl ?_
    refine r_aload_n qX4_readNew_27 rfl ?_
    refine r_geti qX4_readNew_28 fX4_235 rfl (by assumption) ?_
    rw [z7]
    refine r_iconst (v := nI 1) qX4_readNew_31 (by decide) ?_
    refine r_icmp_eq (t := 39) qX4_readNew_32 (by decide) (fun hc32 => ?_) (fun hc32 => ?_)
    · refine r_iconst (v := nI 0) qX4_readNew_39 (by decide) ?_
      refine r_iconst (v := nI 1) qX4_readNew_40 (by decide) ?_
      refine r_cv2 (cu2 := 0) (su2 := 0) qX4_readNew_41 kX4_283 rfl (by decide +kernel) (c := 4) (by assumption) (by decide) rfl rfl rfl rfl rfl rfl ?_
      first | (refine c_X4_requireNot (P := False) (dP := instDecidableFalse) w1 ?_; rw [if_neg (fun h => h.2)]) | (refine c_X4_requireNot (P := True) (dP := instDecidableTrue) w1 ?_; rw [if_pos ⟨GA.z, trivial⟩, z8])
      show zR E _ _ X 44 _ _ _ _ _ _ _
      first | exact K44 hk0 iA jA GA ((nI_eq (by omega) (by omega)).mp hc32) | exact Kb44 _ _ _ _ (GA.bad (by decide)) (by rw [mBath, if_neg hk0, tNew, if_pos (fun h => hc32 (congrArg nI h))]; rfl)
    · refine r_iconst (v := nI 1) qX4_readNew_35 (by decide) ?_
      refine r_goto (t := 40) qX4_readNew_36 (by decide) ?_
      refine r_iconst (v := nI 1) qX4_readNew_40 (by decide) ?_
      refine r_cv2 (cu2 := 0) (su2 := 0) qX4_readNew_41 kX4_283 rfl (by decide +kernel) (c := 4) (by assumption) (by decide) rfl rfl rfl rfl rfl rfl ?_
      first | (refine c_X4_requireNot (P := False) (dP := instDecidableFalse) w1 ?_; rw [if_neg (fun h => h.2)]) | (refine c_X4_requireNot (P := True) (dP := instDecidableTrue) w1 ?_; rw [if_pos ⟨GA.z, trivial⟩, z8])
      show zR E _ _ X 44 _ _ _ _ _ _ _
      first | exact K44 hk0 iA jA GA ((nI_eq (by omega) (by omega)).mp hc32) | exact Kb44 _ _ _ _ (GA.bad (by decide)) (by rw [mBath, if_neg hk0, tNew, if_pos (fun h => hc32 (congrArg nI h))]; rfl)
  refine r_aload_n qX4_readNew_0 rfl ?_
  refine r_iload_n qX4_readNew_1 rfl ?_
  refine r_if_eq (t := 9) qX4_readNew_2 (by decide) (fun hc2 => ?_) (fun hc2 => absurd hc2 (fun h => h nI_0))
  refine r_iconst (v := nI 4) qX4_readNew_9 (by decide) ?_
  refine r_iload_n qX4_readNew_10 rfl ?_
  refine r_if_eq (t := 18) qX4_readNew_11 (by decide) (fun hc11 => ?_) (fun hc11 => absurd hc11 (fun h => h nI_0))
  refine r_iconst (v := nI 4) qX4_readNew_18 (by decide) ?_
  refine r_cv2 (cu2 := 0) (su2 := 0) qX4_readNew_19 kX4_304 rfl (by decide +kernel) (c := 4) (by assumption) (by decide) rfl rfl rfl rfl rfl rfl ?_
  refine w_more hW hM hrx hG (by decide) (fun hk0 iA jA GA => ?_) (fun he i2 j2 e => Kbm i2 j2 e he)
  show zR E _ _ X 22 _ _ _ _ _ _ _
  refine r_if_ne (t := 26) qX4_readNew_22 (by decide) (fun hc22 => ?_) (fun hc22 => absurd hc22 (by decide))
  exact K26 hk0 iA jA GA

