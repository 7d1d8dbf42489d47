/-! ===== EVERY STATEMENT KEEPS THE ROW'S BOUNDS AND GOES ON ===== -/
theorem tB_inv {A C : Type} {m : PE A} {f : Nat → A → PE C} {r : Nat × C} (h : tB m f = .ok r) : ∃ t a, m = .ok (t, a) ∧ f t a = .ok r := by
  cases m with
  | error e => cases h
  | ok p => exact ⟨p.1, p.2, rfl, h⟩
theorem sSkip_ge (B : Nat → Int32) (L : Nat) : ∀ q p, p ≤ sSkip B L q p
  | 0, p => Nat.le_refl _
  | q + 1, p => by
    rw [sSkip]
    split
    · have := sSkip_ge B L q (p + 1); omega
    · exact Nat.le_refl _
theorem sRun_ge (c : Int32 → Bool) (B : Nat → Int32) (L : Nat) : ∀ q p, p ≤ sRun c B L q p
  | 0, p => Nat.le_refl _
  | q + 1, p => by
    rw [sRun]
    split
    · have := sRun_ge c B L q (p + 1); omega
    · exact Nat.le_refl _
theorem sEnd_ge (B : Nat → Int32) (L s : Nat) : s ≤ sEnd B L s := by
  rw [sEnd]
  split
  · exact Nat.le_refl _
  · split
    · exact sRun_ge _ _ _ _ _
    · split
      · exact sRun_ge _ _ _ _ _
      · omega
theorem sRun_gt {c : Int32 → Bool} {B : Nat → Int32} {L s : Nat} (h : s < L) (hc : c (B s) = true) : s < sRun c B L (L - s) s := by
  obtain ⟨q, hq⟩ : ∃ q, L - s = q + 1 := ⟨L - s - 1, by omega⟩
  rw [hq, sRun, if_pos ⟨h, hc⟩]
  have := sRun_ge c B L q (s + 1)
  omega
theorem sEnd_gt {B : Nat → Int32} {L s : Nat} (h : s < L) : s < sEnd B L s := by
  rw [sEnd, if_neg (by omega)]
  split
  · rename_i hc; exact sRun_gt h hc
  · split
    · rename_i hc; exact sRun_gt h hc
    · omega
theorem sNext_ge (B : Nat → Int32) (L s : Nat) : s ≤ sNext B L s := Nat.le_trans (sEnd_ge B L s) (sSkip_ge B L _ _)
theorem sNext_gt {B : Nat → Int32} {L s : Nat} (h : s < L) : s < sNext B L s := Nat.lt_of_lt_of_le (sEnd_gt h) (sSkip_ge B L _ _)
section
variable {N B : Nat → Int32} {L t t' : Nat}
theorem tNum_zin {a m : Nat} {v : Int32} (e : tNum B L (nI a) (nI m) t = .ok (t', v)) (ha : a < 2 ^ 31) (hm : m < 2 ^ 31) : zIn v a m := by
  obtain ⟨h, -⟩ := tNum_in e
  rw [nI_toInt ha, nI_toInt hm] at h
  exact h
theorem tNum_ge {l h v : Int32} (e : tNum B L l h t = .ok (t', v)) : t ≤ t' := by
  rw [(tNum_in e).2.1]; exact sNext_ge B L t
theorem tEnd_in {P : Prop} [Decidable P] {u : Unit} (e : tEnd B L P t = .ok (t', u)) : ¬ P ∧ t' = sNext B L t ∧ isSemi B L t := by
  rw [tEnd] at e
  split at e
  · rename_i hy
    injection e with e
    injection e with e1 e2
    exact ⟨hy.2, e1.symm, hy.1⟩
  · cases e
theorem tEnd_ge {P : Prop} [Decidable P] {u : Unit} (e : tEnd B L P t = .ok (t', u)) : t ≤ t' := by
  rw [(tEnd_in e).2.1]; exact sNext_ge B L t
theorem tSp_ge {v : Int32} (e : tSp N B L t = .ok (t', v)) : t ≤ t' := by
  rw [tSp] at e
  split at e
  · injection e with e
    injection e with e1 e2
    subst e1; exact sNext_ge B L t
  · cases e
theorem tBa_ge {v : Int32} (e : tBa N B L t = .ok (t', v)) : t ≤ t' := by
  rw [tBa] at e
  split at e
  · injection e with e
    injection e with e1 e2
    subst e1; exact sNext_ge B L t
  · cases e
theorem tNew_in {u : Unit} (e : tNew N B L t = .ok (t', u)) : t' = sNext B L t ∧ sKind B L t = 1 ∧ sLtr B L t ≤ 4 ∧ sUntil (fSp N B L t) 0 (zn (N 3)) = -1 ∧ sUntil (fBa N B L t) 0 (zn (N 4)) = -1 := by
  rw [tNew] at e
  split at e
  · cases e
  · rename_i h1
    split at e
    · cases e
    · rename_i h2
      split at e
      · cases e
      · rename_i h3
        injection e with e
        injection e with e1 e2
        refine ⟨e1.symm, Classical.not_not.mp h1, by omega, Classical.not_not.mp fun h => h3 (Or.inl h), Classical.not_not.mp fun h => h3 (Or.inr h)⟩
theorem tDeg_in {v : Int32} (e : tDeg B L t = .ok (t', v)) : zIn v (-20) 150 ∧ t ≤ t' := by
  rw [tDeg] at e
  split at e
  · obtain ⟨t1, w, e1, e2⟩ := tB_inv e
    injection e2 with e2
    injection e2 with e3 e4
    have h := tNum_zin e1 (by decide) (by decide)
    obtain ⟨h1, h2⟩ := h
    subst e3 e4
    refine ⟨?_, Nat.le_trans (sNext_ge B L t) (tNum_ge e1)⟩
    have : (-w).toInt = - w.toInt := by
      rw [Int32.toInt_neg, Int.bmod_eq_of_le] <;> omega
    exact ⟨by omega, by omega⟩
  · obtain ⟨h1, h2⟩ := tNum_zin e (by decide) (by decide)
    exact ⟨⟨by omega, by omega⟩, tNum_ge e⟩
theorem zZr.keep {N' : Nat → Int32} (h : zZr N) (h5 : N' 5 = N 5) (h3 : N' 3 = N 3) (hk : ∀ k, zn (N 5) ≤ k → k < 8 → N' (42 + 21 * k + 6) = N (42 + 21 * k + 6) ∧ N' (42 + 21 * k + 8) = N (42 + 21 * k + 8)) (hs : ∀ s, s < 5 → zn (N 3) ≤ s → N' (10 + 4 * s + 3) = N (10 + 4 * s + 3)) : zZr N' := by
  refine ⟨fun k k1 k2 => ?_, fun s s1 s2 => ?_⟩
  · rw [h5] at k1
    rw [(hk k k1 k2).1, (hk k k1 k2).2]; exact h.1 k k1 k2
  · rw [h3] at s1
    rw [hs s s2 s1]; exact h.2 s s1 s2
theorem zZr.upd {w : Nat} {v : Int32} (h : zZr N) (h5 : w ≠ 5) (h3 : w ≠ 3) (hk : ∀ k, zn (N 5) ≤ k → k < 8 → w ≠ 42 + 21 * k + 6 ∧ w ≠ 42 + 21 * k + 8) (hs : ∀ s, s < 5 → w ≠ 10 + 4 * s + 3) : zZr (upd N w v) :=
  h.keep (pk_un (Ne.symm h5)) (pk_un (Ne.symm h3)) (fun k a b => ⟨pk_un (Ne.symm (hk k a b).1), pk_un (Ne.symm (hk k a b).2)⟩) fun s a _ => pk_un (Ne.symm (hs s a))
/-- a place that no minute changes -/
def zQt (N : Nat → Int32) (w : Nat) : Prop := (∀ k, k < zn (N 5) → w ≠ 42 + 21 * k + 5 ∧ w ≠ 42 + 21 * k + 4) ∧ (∀ s, s < zn (N 3) → w ≠ 10 + 4 * s + 3) ∧ w ≠ 6 ∧ w ≠ 7 ∧ w ≠ 9 ∧ w ≠ 2
theorem sTubes_out {w : Nat} (h : zOk N) (hw : zQt N w) : ∀ p, p ≤ zn (N 5) → sTubes N p w = N w
  | 0, _ => rfl
  | p + 1, hp => by
    obtain ⟨o1, o2⟩ := sTubes_ok h (p := p) (by omega)
    have o3 := sTubes_3 h (p := p) (by omega)
    have hk : p < zn (sTubes N p 5) := by rw [o2]; omega
    obtain ⟨s, s1, s2, s3⟩ := o1.S hk
    rw [o3] at s2
    obtain ⟨w1, w2, w3, w4, w5, w6⟩ := hw
    rw [sTubes, sTube_n s1 s3 (w1 p (by omega)).1 (w1 p (by omega)).2 (w2 s s2) w3 w4 w5]
    exact sTubes_out h ⟨w1, w2, w3, w4, w5, w6⟩ p (by omega)
theorem sOne_out {w : Nat} (h : zOk N) (hw : zQt N w) : sOne N w = N w := by
  have h' : zOk (upd N 2 (N 2 + nI 1)) := h.up (Or.inl rfl)
  have e5 : upd N 2 (N 2 + nI 1) 5 = N 5 := pk_un (by decide)
  have e3 : upd N 2 (N 2 + nI 1) 3 = N 3 := pk_un (by decide)
  obtain ⟨w1, w2, w3, w4, w5, w6⟩ := hw
  rw [sOne, sTubes_out h' ⟨by rw [e5]; exact w1, by rw [e3]; exact w2, w3, w4, w5, w6⟩ _ (by rw [e5]; exact Nat.le_refl _), pk_un w6]
theorem sWalk_out {w : Nat} (h : zOk N) (hw : zQt N w) : ∀ n, sWalk N n w = N w
  | 0 => rfl
  | n + 1 => by
    rw [sWalk, sOne_out (sWalk_ok h n).1 (by rw [zQt, (sWalk_ok h n).2, sWalk_3 h n]; exact hw)]
    exact sWalk_out h hw n
theorem zZr.walk (h : zOk N) (hz : zZr N) (n : Nat) : zZr (sWalk N n) := by
  have h5 := h.T8.2
  have h3 := h.S5.2
  refine hz.keep (sWalk_ok h n).2 (sWalk_3 h n) (fun k a b => ⟨sWalk_out h ?_ n, sWalk_out h ?_ n⟩) fun s a b => sWalk_out h ?_ n
  · exact ⟨fun q hq => ⟨by omega, by omega⟩, fun s hs => by omega, by omega, by omega, by omega, by omega⟩
  · exact ⟨fun q hq => ⟨by omega, by omega⟩, fun s hs => by omega, by omega, by omega, by omega, by omega⟩
  · exact ⟨fun q hq => ⟨by omega, by omega⟩, fun s hs => by omega, by omega, by omega, by omega, by omega⟩
def zKp2 (N' : Nat → Int32) (t t' : Nat) : Prop := zOk N' ∧ zZr N' ∧ t < t'
variable {N' : Nat → Int32}
theorem mLeaky_ok {v : Int32} (hv : v = nI 0 ∨ v = nI 1) (h : zOk N) (hz : zZr N) (ht : t < L) (e : mLeaky v N B L t = .ok (t', N')) : zKp2 N' t t' := by
  obtain ⟨t1, a1, e1, e⟩ := tB_inv e
  obtain ⟨t2, a2, e2, e⟩ := tB_inv e
  injection e with e; injection e with e3 e4
  obtain ⟨k, rfl, hk⟩ := tTube_nat h e1
  have h8 := h.k8 hk
  have g1 := tNum_ge e1
  have g2 := tEnd_ge e2
  have g3 := sNext_gt (B := B) ht
  rw [zn_nI (by omega)] at e4
  subst e3 e4
  exact ⟨zOk_leaky h hk hv, hz.upd (by omega) (by omega) (fun q a b => ⟨by omega, by omega⟩) (fun s a => by omega), by omega⟩
theorem mDip_ok (h : zOk N) (hz : zZr N) (ht : t < L) (e : mDip N B L t = .ok (t', N')) : zKp2 N' t t' := by
  obtain ⟨t1, a1, e1, e⟩ := tB_inv e
  obtain ⟨t2, a2, e2, e⟩ := tB_inv e
  obtain ⟨t3, a3, e3, e⟩ := tB_inv e
  injection e with e; injection e with e4 e5
  obtain ⟨k, rfl, hk⟩ := tTube_nat h e1
  obtain ⟨c, rfl, hc, -⟩ := tBa_nat e2
  have h8 := h.k8 hk
  have g1 := tNum_ge e1
  have g2 := tBa_ge e2
  have g4 := tEnd_ge e3
  have g3 := sNext_gt (B := B) ht
  rw [zn_nI (by omega)] at e5
  subst e4 e5
  exact ⟨zOk_bath h hk (Or.inr ⟨c, rfl, hc⟩), hz.upd (by omega) (by omega) (fun q a b => ⟨by omega, by omega⟩) (fun s a => by omega), by omega⟩
theorem mLift_ok (h : zOk N) (hz : zZr N) (ht : t < L) (e : mLift N B L t = .ok (t', N')) : zKp2 N' t t' := by
  obtain ⟨t1, a1, e1, e⟩ := tB_inv e
  obtain ⟨t2, a2, e2, e⟩ := tB_inv e
  injection e with e; injection e with e3 e4
  obtain ⟨k, rfl, hk⟩ := tTube_nat h e1
  have h8 := h.k8 hk
  have g1 := tNum_ge e1
  have g2 := tEnd_ge e2
  have g3 := sNext_gt (B := B) ht
  rw [zn_nI (by omega)] at e4
  subst e3 e4
  exact ⟨zOk_bath h hk (Or.inl rfl), hz.upd (by omega) (by omega) (fun q a b => ⟨by omega, by omega⟩) (fun s a => by omega), by omega⟩
theorem mMark_ok (h : zOk N) (hz : zZr N) (ht : t < L) (e : mMark N B L t = .ok (t', N')) : zKp2 N' t t' := by
  obtain ⟨t1, a1, e1, e⟩ := tB_inv e
  obtain ⟨t2, a2, e2, e⟩ := tB_inv e
  injection e with e; injection e with e3 e4
  obtain ⟨k, rfl, hk⟩ := tTube_nat h e1
  have h8 := h.k8 hk
  have g1 := tNum_ge e1
  have g2 := tEnd_ge e2
  have g3 := sNext_gt (B := B) ht
  have p0 := (tEnd_in e2).1
  rw [zn_nI (by omega)] at e4 p0
  have p0 := Classical.not_not.mp p0
  obtain ⟨b0, -, -, hm5⟩ := sMark_0 h hk p0
  subst e3 e4
  exact ⟨zOk_put h hk p0, hz.keep (sPut_n (by omega) (by omega) (by omega)) (sPut_n (by omega) (by omega) (by omega)) (fun q a b => ⟨sPut_n (by omega) (by omega) (by omega), sPut_n (by omega) (by omega) (by omega)⟩) (fun s a b => sPut_n (by omega) (by omega) (by omega)), by omega⟩
theorem mThumb_ok (h : zOk N) (hz : zZr N) (ht : t < L) (e : mThumb N B L t = .ok (t', N')) : zKp2 N' t t' := by
  obtain ⟨t1, a1, e1, e⟩ := tB_inv e
  obtain ⟨t2, a2, e2, e⟩ := tB_inv e
  obtain ⟨t3, a3, e3, e⟩ := tB_inv e
  injection e with e; injection e with e4 e5
  obtain ⟨k, rfl, hk⟩ := tTube_nat h e1
  have h8 := h.k8 hk
  have g1 := tNum_ge e1
  have g2 := tNum_ge e2
  have g4 := tEnd_ge e3
  have g3 := sNext_gt (B := B) ht
  rw [zn_nI (by omega)] at e5
  subst e4 e5
  exact ⟨zOk_thumb h hk (tNum_zin e2 (by decide) (by decide)), (hz.upd (by omega) (by omega) (fun q a b => ⟨by omega, by omega⟩) (fun s a => by omega)).upd (by omega) (by omega) (fun q a b => ⟨by omega, by omega⟩) (fun s a => by omega), by omega⟩
theorem mFill_ok (h : zOk N) (hz : zZr N) (ht : t < L) (e : mFill N B L t = .ok (t', N')) : zKp2 N' t t' := by
  obtain ⟨t1, a1, e1, e⟩ := tB_inv e
  obtain ⟨t2, a2, e2, e⟩ := tB_inv e
  obtain ⟨t3, a3, e3, e⟩ := tB_inv e
  injection e with e; injection e with e4 e5
  obtain ⟨k, rfl, hk⟩ := tTube_nat h e1
  have h8 := h.k8 hk
  have g1 := tNum_ge e1
  have g2 := tNum_ge e2
  have g4 := tEnd_ge e3
  have g3 := sNext_gt (B := B) ht
  have p0 := (tEnd_in e3).1
  rw [zn_nI (by omega)] at e5 p0
  have hv := tNum_zin e2 (by decide) (by decide)
  have hf : zIn (N (42 + 21 * k + 4)) 0 999 := by
    obtain ⟨-, -, -, -, a, -⟩ := h.tu hk
    exact a
  have hs := add_in hf hv (by decide) (by decide) (by decide) (by decide)
  rw [Int32.lt_iff_toInt_lt, nI_toInt (by omega)] at p0
  obtain ⟨f1, f2⟩ := hf
  obtain ⟨v1, v2⟩ := hv
  subst e4 e5
  exact ⟨zOk_pour h hk ⟨by omega, by omega⟩, (hz.upd (by omega) (by omega) (fun q a b => ⟨by omega, by omega⟩) (fun s a => by omega)).upd (by omega) (by omega) (fun q a b => ⟨by omega, by omega⟩) (fun s a => by omega), by omega⟩
theorem mErase_ok (h : zOk N) (hz : zZr N) (ht : t < L) (e : mErase N B L t = .ok (t', N')) : zKp2 N' t t' := by
  obtain ⟨t1, a1, e1, e⟩ := tB_inv e
  obtain ⟨t2, a2, e2, e⟩ := tB_inv e
  obtain ⟨t3, a3, e3, e⟩ := tB_inv e
  injection e with e; injection e with e4 e5
  obtain ⟨k, rfl, hk⟩ := tTube_nat h e1
  have h8 := h.k8 hk
  have g1 := tNum_ge e1
  have g2 := tNum_ge e2
  have g4 := tEnd_ge e3
  have g3 := sNext_gt (B := B) ht
  rw [zn_nI (by omega)] at e5 e2
  obtain ⟨q, rfl, hq⟩ := tPoint_nat h hk e2
  have hm := (h.many hk).2
  rw [zn_nI (by omega)] at e5
  subst e4 e5
  exact ⟨zOk_erase h hk hq, hz.keep (sErase_n hm hq (by omega)) (sErase_n hm hq (by omega)) (fun q a b => ⟨sErase_n hm hq (by omega), sErase_n hm hq (by omega)⟩) (fun s a b => sErase_n hm hq (by omega)), by omega⟩
theorem mRoom_ok (h : zOk N) (hz : zZr N) (ht : t < L) (e : mRoom N B L t = .ok (t', N')) : zKp2 N' t t' := by
  obtain ⟨t1, a1, e1, e⟩ := tB_inv e
  obtain ⟨t2, a2, e2, e⟩ := tB_inv e
  injection e with e; injection e with e3 e4
  obtain ⟨hv, g1⟩ := tDeg_in e1
  have g2 := tEnd_ge e2
  have g3 := sNext_gt (B := B) ht
  subst e3 e4
  exact ⟨zOk_room h hv, hz.upd (by omega) (by omega) (fun q a b => ⟨by omega, by omega⟩) (fun s a => by omega), by omega⟩
theorem mPass_ok (h : zOk N) (hz : zZr N) (ht : t < L) (e : mPass N B L t = .ok (t', N')) : zKp2 N' t t' := by
  obtain ⟨t1, a1, e1, e⟩ := tB_inv e
  obtain ⟨t2, a2, e2, e⟩ := tB_inv e
  injection e with e; injection e with e3 e4
  have g1 := tNum_ge e1
  have g2 := tEnd_ge e2
  have g3 := sNext_gt (B := B) ht
  subst e3 e4
  exact ⟨(sWalk_ok h _).1, hz.walk h _, by omega⟩
theorem mTube_ok (h : zOk N) (hz : zZr N) (ht : t < L) (e : mTube N B L t = .ok (t', N')) : zKp2 N' t t' := by
  rw [mTube] at e
  split at e
  · cases e
  rename_i h0
  obtain ⟨t1, a1, e1, e⟩ := tB_inv e
  obtain ⟨t2, a2, e2, e⟩ := tB_inv e
  obtain ⟨t3, a3, e3, e⟩ := tB_inv e
  obtain ⟨t4, a4, e4, e⟩ := tB_inv e
  obtain ⟨t5, a5, e5, e⟩ := tB_inv e
  obtain ⟨t6, a6, e6, e⟩ := tB_inv e
  injection e with e; injection e with e7 e8
  obtain ⟨q, rfl, hq, -⟩ := tSp_nat e1
  have g1 := tSp_ge e1
  have g2 := tNum_ge e2
  have g3 := tNum_ge e3
  have g4 := tNum_ge e4
  have g5 := tNum_ge e5
  have g6 := tEnd_ge e6
  have g7 := sNext_gt (B := B) ht
  obtain ⟨z1, z2⟩ := h.T8
  have zT : zn (N 5) < 8 := by
    rcases Nat.lt_or_ge (zn (N 5)) 8 with z3 | z3
    · exact z3
    · exact absurd (z1.trans (congrArg nI (show zn (N 5) = 8 by omega))) h0
  subst e7 e8
  refine ⟨zOk_tube h hz z1 zT hq (tNum_zin e2 (by decide) (by decide)) (tNum_zin e3 (by decide) (by decide)) (tNum_zin e4 (by decide) (by decide)) (tNum_zin e5 (by decide) (by decide)), ⟨fun k k1 k2 => ?_, fun s s1 s2 => ?_⟩, by omega⟩
  · rw [show aTube N (zn (N 5)) (nI q) a2 a3 a4 a5 5 = nI (zn (N 5) + 1) by rw [aTube, pk_un (by omega), pk_un (by omega), pk_un (by omega), pk_un (by omega), pk_un (by omega), pk_un (by omega), pk_un (by omega), pk_un (by omega), pk_us], zn_nI (by omega)] at k1
    rw [aTube_n (by omega) (by omega) (by omega), aTube_n (by omega) (by omega) (by omega)]
    exact hz.1 k (by omega) k2
  · rw [aTube_n (by omega) (by omega) (by omega)] at s1 ⊢
    exact hz.2 s s1 s2
theorem mSpirit_ok (h : zOk N) (hz : zZr N) (ht : t < L) (e : mSpirit N B L t = .ok (t', N')) : zKp2 N' t t' := by
  rw [mSpirit] at e
  split at e
  · cases e
  rename_i h0
  obtain ⟨t1, a1, e1, e⟩ := tB_inv e
  obtain ⟨t2, a2, e2, e⟩ := tB_inv e
  obtain ⟨t3, a3, e3, e⟩ := tB_inv e
  injection e with e; injection e with e7 e8
  have g1 := sNext_ge B L (sNext B L t)
  rw [← (tNew_in e1).1] at g1
  have g2 := tNum_ge e2
  have g3 := tEnd_ge e3
  have g7 := sNext_gt (B := B) ht
  obtain ⟨z1, z2⟩ := h.S5
  have zT : zn (N 3) < 5 := by
    rcases Nat.lt_or_ge (zn (N 3)) 5 with z3 | z3
    · exact z3
    · exact absurd (z1.trans (congrArg nI (show zn (N 3) = 5 by omega))) h0
  generalize hw : (sSpl B L (sNext B L t)).toInt32 = w at e8
  generalize hl : nI (sLtr B L (sNext B L t)) = l at e8
  subst e7 e8
  have en : ∀ q, q ≠ 3 → q ≠ 10 + 4 * zn (N 3) + 0 → q ≠ 10 + 4 * zn (N 3) + 1 → q ≠ 10 + 4 * zn (N 3) + 2 → aSpirit N (zn (N 3)) w l a2 q = N q := fun q a b c d => by rw [aSpirit, pk_un d, pk_un c, pk_un b, pk_un a]
  have z5 := h.T8.2
  refine ⟨zOk_spirit h z1 zT (tNum_zin e2 (by decide) (by decide)), ⟨fun k k1 k2 => ?_, fun s s1 s2 => ?_⟩, by omega⟩
  · rw [en _ (by omega) (by omega) (by omega) (by omega)] at k1 ⊢
    rw [en _ (by omega) (by omega) (by omega) (by omega)]
    exact hz.1 k k1 k2
  · rw [show aSpirit N (zn (N 3)) w l a2 3 = nI (zn (N 3) + 1) by rw [aSpirit, pk_un (by omega), pk_un (by omega), pk_un (by omega), pk_us], zn_nI (by omega)] at s1
    rw [en _ (by omega) (by omega) (by omega) (by omega)]
    exact hz.2 s (by omega) s2
theorem mBath_ok (h : zOk N) (hz : zZr N) (ht : t < L) (e : mBath N B L t = .ok (t', N')) : zKp2 N' t t' := by
  rw [mBath] at e
  split at e
  · cases e
  rename_i h0
  obtain ⟨t1, a1, e1, e⟩ := tB_inv e
  obtain ⟨t2, a2, e2, e⟩ := tB_inv e
  obtain ⟨t3, a3, e3, e⟩ := tB_inv e
  injection e with e; injection e with e7 e8
  have g1 := sNext_ge B L (sNext B L t)
  rw [← (tNew_in e1).1] at g1
  obtain ⟨hv, g2⟩ := tDeg_in e2
  have g3 := tEnd_ge e3
  have g7 := sNext_gt (B := B) ht
  obtain ⟨z1, z2⟩ := h.B4
  have zT : zn (N 4) < 4 := by
    rcases Nat.lt_or_ge (zn (N 4)) 4 with z3 | z3
    · exact z3
    · exact absurd (z1.trans (congrArg nI (show zn (N 4) = 4 by omega))) h0
  generalize hw : (sSpl B L (sNext B L t)).toInt32 = w at e8
  generalize hl : nI (sLtr B L (sNext B L t)) = l at e8
  subst e7 e8
  have en : ∀ q, q ≠ 4 → q ≠ 30 + 3 * zn (N 4) + 0 → q ≠ 30 + 3 * zn (N 4) + 1 → q ≠ 30 + 3 * zn (N 4) + 2 → aBath N (zn (N 4)) w l a2 q = N q := fun q a b c d => by rw [aBath, pk_un d, pk_un c, pk_un b, pk_un a]
  have z5 := h.T8.2
  refine ⟨zOk_newbath h z1 zT hv, ⟨fun k k1 k2 => ?_, fun s s1 s2 => ?_⟩, by omega⟩
  · rw [en _ (by omega) (by omega) (by omega) (by omega)] at k1 ⊢
    rw [en _ (by omega) (by omega) (by omega) (by omega)]
    exact hz.1 k k1 k2
  · rw [en _ (by omega) (by omega) (by omega) (by omega)] at s1 ⊢
    exact hz.2 s s1 s2
end


