theorem lWalk_c (l : List Int32) (n : Nat) : ∀ m, lWalk l (n + m) = lWalk (lWalk l n) m
  | 0 => rfl
  | m + 1 => by
    rw [← Nat.add_assoc, lWalk, lWalk_c l n m]
    rfl
theorem lw_s {l a b : List Int32} {n : Nat} (h : lWalk l n = a) (e : decide (lWalk a 2 = b) = true) : lWalk l (n + 2) = b := by
  rw [lWalk_c, h]
  exact of_decide_eq_true e
theorem f0_keep : zOk (fr f0_) ∧ zZr (fr f0_) := mGal_ok f0_ok
theorem f1_keep : zOk (fr f1_) ∧ zZr (fr f1_) := by
  obtain ⟨h1, h2, -⟩ := mStat_ok f0_keep.1 f0_keep.2 (show 13 < 206 by decide) f1_ok
  exact ⟨h1, h2⟩
theorem f2_keep : zOk (fr f2_) ∧ zZr (fr f2_) := by
  obtain ⟨h1, h2, -⟩ := mStat_ok f1_keep.1 f1_keep.2 (show 28 < 206 by decide) f2_ok
  exact ⟨h1, h2⟩
theorem f3_keep : zOk (fr f3_) ∧ zZr (fr f3_) := by
  obtain ⟨h1, h2, -⟩ := mStat_ok f2_keep.1 f2_keep.2 (show 41 < 206 by decide) f3_ok
  exact ⟨h1, h2⟩
theorem f4_keep : zOk (fr f4_) ∧ zZr (fr f4_) := by
  obtain ⟨h1, h2, -⟩ := mStat_ok f3_keep.1 f3_keep.2 (show 52 < 206 by decide) f4_ok
  exact ⟨h1, h2⟩
theorem f5_keep : zOk (fr f5_) ∧ zZr (fr f5_) := by
  obtain ⟨h1, h2, -⟩ := mStat_ok f4_keep.1 f4_keep.2 (show 66 < 206 by decide) f5_ok
  exact ⟨h1, h2⟩
theorem f6_keep : zOk (fr f6_) ∧ zZr (fr f6_) := by
  obtain ⟨h1, h2, -⟩ := mStat_ok f5_keep.1 f5_keep.2 (show 87 < 206 by decide) f6_ok
  exact ⟨h1, h2⟩
theorem f7_keep : zOk (fr f7_) ∧ zZr (fr f7_) := by
  obtain ⟨h1, h2, -⟩ := mStat_ok f6_keep.1 f6_keep.2 (show 106 < 206 by decide) f7_ok
  exact ⟨h1, h2⟩
theorem f8_keep : zOk (fr f8_) ∧ zZr (fr f8_) := by
  obtain ⟨h1, h2, -⟩ := mStat_ok f7_keep.1 f7_keep.2 (show 116 < 206 by decide) f8_ok
  exact ⟨h1, h2⟩
theorem f9_lw : lWalk f8_ 40 = f9_ := lw_s (lw_s (lw_s (lw_s (lw_s (lw_s (lw_s (lw_s (lw_s (lw_s (lw_s (lw_s (lw_s (lw_s (lw_s (lw_s (lw_s (lw_s (lw_s (lw_s ((rfl : lWalk f8_ 0 = f8_)) u9_2) u9_4) u9_6) u9_8) u9_10) u9_12) u9_14) u9_16) u9_18) u9_20) u9_22) u9_24) u9_26) u9_28) u9_30) u9_32) u9_34) u9_36) u9_38) u9_40
theorem f9_row : sWalk (fr f8_) 40 = fr f9_ := row_walk fz_8 f8_keep.1 (decide_eq_true f9_lw)
theorem f9_ok : mStat (fr f8_) fbB 206 127 = .ok (135, fr f9_) := f9_ok0.trans (congrArg (fun z => Except.ok (135, z)) f9_row)
theorem f9_keep : zOk (fr f9_) ∧ zZr (fr f9_) := by
  obtain ⟨h1, h2, -⟩ := mStat_ok f8_keep.1 f8_keep.2 (show 127 < 206 by decide) f9_ok
  exact ⟨h1, h2⟩
theorem f10_keep : zOk (fr f10_) ∧ zZr (fr f10_) := by
  obtain ⟨h1, h2, -⟩ := mStat_ok f9_keep.1 f9_keep.2 (show 135 < 206 by decide) f10_ok
  exact ⟨h1, h2⟩
theorem f11_keep : zOk (fr f11_) ∧ zZr (fr f11_) := by
  obtain ⟨h1, h2, -⟩ := mStat_ok f10_keep.1 f10_keep.2 (show 142 < 206 by decide) f11_ok
  exact ⟨h1, h2⟩
theorem f12_keep : zOk (fr f12_) ∧ zZr (fr f12_) := by
  obtain ⟨h1, h2, -⟩ := mStat_ok f11_keep.1 f11_keep.2 (show 149 < 206 by decide) f12_ok
  exact ⟨h1, h2⟩
theorem f13_lw : lWalk f12_ 40 = f13_ := lw_s (lw_s (lw_s (lw_s (lw_s (lw_s (lw_s (lw_s (lw_s (lw_s (lw_s (lw_s (lw_s (lw_s (lw_s (lw_s (lw_s (lw_s (lw_s (lw_s ((rfl : lWalk f12_ 0 = f12_)) u13_2) u13_4) u13_6) u13_8) u13_10) u13_12) u13_14) u13_16) u13_18) u13_20) u13_22) u13_24) u13_26) u13_28) u13_30) u13_32) u13_34) u13_36) u13_38) u13_40
theorem f13_row : sWalk (fr f12_) 40 = fr f13_ := row_walk fz_12 f12_keep.1 (decide_eq_true f13_lw)
theorem f13_ok : mStat (fr f12_) fbB 206 160 = .ok (168, fr f13_) := f13_ok0.trans (congrArg (fun z => Except.ok (168, z)) f13_row)
theorem f13_keep : zOk (fr f13_) ∧ zZr (fr f13_) := by
  obtain ⟨h1, h2, -⟩ := mStat_ok f12_keep.1 f12_keep.2 (show 160 < 206 by decide) f13_ok
  exact ⟨h1, h2⟩
theorem f14_keep : zOk (fr f14_) ∧ zZr (fr f14_) := by
  obtain ⟨h1, h2, -⟩ := mStat_ok f13_keep.1 f13_keep.2 (show 168 < 206 by decide) f14_ok
  exact ⟨h1, h2⟩
theorem f15_keep : zOk (fr f15_) ∧ zZr (fr f15_) := by
  obtain ⟨h1, h2, -⟩ := mStat_ok f14_keep.1 f14_keep.2 (show 175 < 206 by decide) f15_ok
  exact ⟨h1, h2⟩
theorem f16_keep : zOk (fr f16_) ∧ zZr (fr f16_) := by
  obtain ⟨h1, h2, -⟩ := mStat_ok f15_keep.1 f15_keep.2 (show 182 < 206 by decide) f16_ok
  exact ⟨h1, h2⟩
theorem f17_keep : zOk (fr f17_) ∧ zZr (fr f17_) := by
  obtain ⟨h1, h2, -⟩ := mStat_ok f16_keep.1 f16_keep.2 (show 189 < 206 by decide) f17_ok
  exact ⟨h1, h2⟩
theorem f18_lw : lWalk f17_ 2 = f18_ := lw_s ((rfl : lWalk f17_ 0 = f17_)) u18_2
theorem f18_row : sWalk (fr f17_) 2 = fr f18_ := row_walk fz_17 f17_keep.1 (decide_eq_true f18_lw)
theorem f18_ok : mStat (fr f17_) fbB 206 199 = .ok (206, fr f18_) := f18_ok0.trans (congrArg (fun z => Except.ok (206, z)) f18_row)
theorem f18_keep : zOk (fr f18_) ∧ zZr (fr f18_) := by
  obtain ⟨h1, h2, -⟩ := mStat_ok f17_keep.1 f17_keep.2 (show 199 < 206 by decide) f18_ok
  exact ⟨h1, h2⟩
theorem fst_ok2 : mText fbB 206 = .ok (206, fr f18_) := by
  rw [mText_f (f := 187 + 1 + 18) rfl f0_ok]
  refine (mL_s (f := 205) (by decide +kernel) f1_ok).trans ?_
  refine (mL_s (f := 204) (by decide +kernel) f2_ok).trans ?_
  refine (mL_s (f := 203) (by decide +kernel) f3_ok).trans ?_
  refine (mL_s (f := 202) (by decide +kernel) f4_ok).trans ?_
  refine (mL_s (f := 201) (by decide +kernel) f5_ok).trans ?_
  refine (mL_s (f := 200) (by decide +kernel) f6_ok).trans ?_
  refine (mL_s (f := 199) (by decide +kernel) f7_ok).trans ?_
  refine (mL_s (f := 198) (by decide +kernel) f8_ok).trans ?_
  refine (mL_s (f := 197) (by decide +kernel) f9_ok).trans ?_
  refine (mL_s (f := 196) (by decide +kernel) f10_ok).trans ?_
  refine (mL_s (f := 195) (by decide +kernel) f11_ok).trans ?_
  refine (mL_s (f := 194) (by decide +kernel) f12_ok).trans ?_
  refine (mL_s (f := 193) (by decide +kernel) f13_ok).trans ?_
  refine (mL_s (f := 192) (by decide +kernel) f14_ok).trans ?_
  refine (mL_s (f := 191) (by decide +kernel) f15_ok).trans ?_
  refine (mL_s (f := 190) (by decide +kernel) f16_ok).trans ?_
  refine (mL_s (f := 189) (by decide +kernel) f17_ok).trans ?_
  refine (mL_s (f := 188) (by decide +kernel) f18_ok).trans ?_
  exact mL_0 (f := 187) (by decide +kernel)
theorem fst_ok : mText fstB fstL = .ok (206, fr f18_) := by
  rw [fbB_e, fstL_e]
  exact fst_ok2


