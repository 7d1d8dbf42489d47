/-! ===== A TEXT COUNTS ONLY BELOW ITS LENGTH ===== -/
section
variable {B B' : Nat → Int32} {L : Nat}
theorem sRun_cg (e : ∀ k, k < L → B k = B' k) (c : Int32 → Bool) : ∀ q p, sRun c B L q p = sRun c B' L q p
  | 0, _ => rfl
  | q + 1, p => by
    rw [sRun, sRun, sRun_cg e c q (p + 1)]
    by_cases h : p < L
    · rw [e p h]
    · rw [if_neg (fun z => h z.1), if_neg (fun z => h z.1)]
theorem sSkip_cg (e : ∀ k, k < L → B k = B' k) : ∀ q p, sSkip B L q p = sSkip B' L q p
  | 0, _ => rfl
  | q + 1, p => by
    rw [sSkip, sSkip, sSkip_cg e q (p + 1)]
    by_cases h : p < L
    · rw [e p h]
    · rw [if_neg (fun z => h z.1), if_neg (fun z => h z.1)]
theorem sKind_cg (e : ∀ k, k < L → B k = B' k) (s : Nat) : sKind B L s = sKind B' L s := by
  rw [sKind, sKind]
  by_cases h : L ≤ s
  · rw [if_pos h, if_pos h]
  · rw [if_neg h, if_neg h, e s (by omega)]
theorem sEnd_cg (e : ∀ k, k < L → B k = B' k) (s : Nat) : sEnd B L s = sEnd B' L s := by
  rw [sEnd, sEnd]
  by_cases h : L ≤ s
  · rw [if_pos h, if_pos h]
  · rw [if_neg h, if_neg h, e s (by omega), sRun_cg e, sRun_cg e]
theorem sNext_cg (e : ∀ k, k < L → B k = B' k) (s : Nat) : sNext B L s = sNext B' L s := by
  rw [sNext, sNext, sEnd_cg e, sSkip_cg e]
theorem sSp_cg (e : ∀ k, k < L → B k = B' k) (s : Nat) : ∀ k, s + k ≤ L → sSp B s k = sSp B' s k
  | 0, _ => rfl
  | k + 1, h => by rw [sSp, sSp, sSp_cg e s k (by omega), e (s + k) (by omega)]
theorem sNu_cg (e : ∀ k, k < L → B k = B' k) (s : Nat) : ∀ k, s + k ≤ L → sNu B s k = sNu B' s k
  | 0, _ => rfl
  | k + 1, h => by rw [sNu, sNu, sNu_cg e s k (by omega), e (s + k) (by omega)]
theorem sKind_z {s : Nat} (h : sKind B L s ≠ 0) : s < L := by
  by_cases hl : L ≤ s
  · exact absurd (by rw [sKind, if_pos hl]) h
  · omega
theorem sVal_cg (e : ∀ k, k < L → B k = B' k) (s : Nat) : sVal B L s = sVal B' L s := by
  rw [sVal, sVal, ← sKind_cg e, ← sEnd_cg e]
  by_cases h2 : sKind B L s = 2
  · have hs := sKind_z (show sKind B L s ≠ 0 by rw [h2]; decide)
    have := sEnd_le B L s (by omega)
    have hx : s + (sEnd B L s - s) ≤ L := by omega
    rw [if_pos h2, if_pos h2, sNu_cg e s _ hx]
  · rw [if_neg h2, if_neg h2]
    by_cases h3 : sKind B L s = 3
    · have hs := sKind_z (show sKind B L s ≠ 0 by rw [h3]; decide)
      rw [if_pos h3, if_pos h3, e s hs]
    · rw [if_neg h3, if_neg h3]
theorem sLtr_cg (e : ∀ k, k < L → B k = B' k) (s : Nat) : sLtr B L s = sLtr B' L s := by
  rw [sLtr, sLtr, sKind_cg e, sEnd_cg e]
theorem sSpl_cg (e : ∀ k, k < L → B k = B' k) (s : Nat) : sSpl B L s = sSpl B' L s := by
  rw [sSpl, sSpl, ← sKind_cg e, ← sEnd_cg e]
  by_cases h2 : sKind B L s = 1
  · have hs := sKind_z (show sKind B L s ≠ 0 by rw [h2]; decide)
    have := sEnd_le B L s (by omega)
    rw [if_pos h2, if_pos h2, sSp_cg e s _ (by omega)]
  · rw [if_neg h2, if_neg h2]
theorem tNum_cg (e : ∀ k, k < L → B k = B' k) (l h : Int32) (t : Nat) : tNum B L l h t = tNum B' L l h t := by
  simp only [tNum, okN, sKind_cg e, sVal_cg e, sNext_cg e]
theorem tDeg_cg (e : ∀ k, k < L → B k = B' k) (t : Nat) : tDeg B L t = tDeg B' L t := by
  simp only [tDeg, isNeg, sKind_cg e, sVal_cg e, sNext_cg e, tNum_cg e]
theorem fSp_cg (e : ∀ k, k < L → B k = B' k) (N : Nat → Int32) (t : Nat) : fSp N B L t = fSp N B' L t := by
  funext k
  simp only [fSp, sKind_cg e, sLtr_cg e, sSpl_cg e]
theorem fBa_cg (e : ∀ k, k < L → B k = B' k) (N : Nat → Int32) (t : Nat) : fBa N B L t = fBa N B' L t := by
  funext k
  simp only [fBa, sKind_cg e, sLtr_cg e, sSpl_cg e]
theorem tSp_cg (e : ∀ k, k < L → B k = B' k) (N : Nat → Int32) (t : Nat) : tSp N B L t = tSp N B' L t := by
  simp only [tSp, fSp_cg e, sKind_cg e, sNext_cg e]
theorem tBa_cg (e : ∀ k, k < L → B k = B' k) (N : Nat → Int32) (t : Nat) : tBa N B L t = tBa N B' L t := by
  simp only [tBa, fBa_cg e, sKind_cg e, sNext_cg e]
theorem tNew_cg (e : ∀ k, k < L → B k = B' k) (N : Nat → Int32) (t : Nat) : tNew N B L t = tNew N B' L t := by
  simp only [tNew, fSp_cg e, fBa_cg e, sKind_cg e, sNext_cg e, sLtr_cg e]
theorem tEnd_cg (e : ∀ k, k < L → B k = B' k) (P : Prop) (dP : Decidable P) (t : Nat) : tEnd B L P t = tEnd B' L P t := by
  simp only [tEnd, isSemi, sKind_cg e, sVal_cg e, sNext_cg e]
theorem isW_cg (e : ∀ k, k < L → B k = B' k) (t : Nat) (w : Int64) : isW B L t w ↔ isW B' L t w := by
  simp only [isW, sKind_cg e, sLtr_cg e, sSpl_cg e]
theorem ite_iff {P Q : Prop} [Decidable P] [Decidable Q] {A : Type} {x y x' y' : A} (h : P ↔ Q) (hx : x = x') (hy : y = y') : (if P then x else y) = if Q then x' else y' := by
  subst hx hy
  by_cases p : P
  · rw [if_pos p, if_pos (h.mp p)]
  · rw [if_neg p, if_neg (fun q => p (h.mpr q))]
theorem mStat_cg (e : ∀ k, k < L → B k = B' k) (N : Nat → Int32) (t : Nat) : mStat N B L t = mStat N B' L t := by
  rw [mStat, mStat]
  refine ite_iff (isW_cg e t _) ?_ (ite_iff (isW_cg e t _) ?_ (ite_iff (isW_cg e t _) ?_ (ite_iff (isW_cg e t _) ?_ (ite_iff (isW_cg e t _) ?_ (ite_iff (isW_cg e t _) ?_ (ite_iff (isW_cg e t _) ?_ (ite_iff (isW_cg e t _) ?_ (ite_iff (isW_cg e t _) ?_ (ite_iff (isW_cg e t _) ?_ (ite_iff (isW_cg e t _) ?_ (ite_iff (isW_cg e t _) ?_ (ite_iff (isW_cg e t _) ?_ rfl))))))))))))
  · simp only [mSpirit, tNew_cg e, tNum_cg e, tEnd_cg e, sNext_cg e, sSpl_cg e, sLtr_cg e]
  · simp only [mBath, tNew_cg e, tDeg_cg e, tEnd_cg e, sNext_cg e, sSpl_cg e, sLtr_cg e]
  · simp only [mTube, tSp_cg e, tNum_cg e, tEnd_cg e, sNext_cg e]
  · simp only [mLeaky, tNum_cg e, tEnd_cg e, sNext_cg e]
  · simp only [mLeaky, tNum_cg e, tEnd_cg e, sNext_cg e]
  · simp only [mDip, tNum_cg e, tBa_cg e, tEnd_cg e, sNext_cg e]
  · simp only [mLift, tNum_cg e, tEnd_cg e, sNext_cg e]
  · simp only [mMark, tNum_cg e, tEnd_cg e, sNext_cg e]
  · simp only [mThumb, tNum_cg e, tEnd_cg e, sNext_cg e]
  · simp only [mFill, tNum_cg e, tEnd_cg e, sNext_cg e]
  · simp only [mErase, tNum_cg e, tEnd_cg e, sNext_cg e]
  · simp only [mRoom, tDeg_cg e, tEnd_cg e, sNext_cg e]
  · simp only [mPass, tNum_cg e, tEnd_cg e, sNext_cg e]
theorem mLoop_cg (e : ∀ k, k < L → B k = B' k) : ∀ f N t, mLoop B L f N t = mLoop B' L f N t
  | 0, _, _ => rfl
  | f + 1, N, t => by
    have ih := mLoop_cg e f
    simp only [mLoop, sKind_cg e, mStat_cg e, ih]
theorem mText_cg (e : ∀ k, k < L → B k = B' k) : mText B L = mText B' L := by
  have hg : ∀ t, mGal B L t = mGal B' L t := fun t => by
    rw [mGal, mGal]
    refine ite_iff (isW_cg e t _) ?_ rfl
    simp only [tDeg_cg e, tNum_cg e, tEnd_cg e, sNext_cg e]
  simp only [mText, hg, sSkip_cg e, mLoop_cg e]
end
/-! ===== A ROW COUNTS ONLY BELOW 210 ===== -/
theorem zOk.ext {N N' : Nat → Int32} (h : zOk N) (e : ∀ k, k < 210 → N' k = N k) : zOk N' := by
  have hS := h.S5.2
  have hB := h.B4.2
  have hT := h.T8.2
  have h' := h
  obtain ⟨h1, h2, h3, h4, h5, h6, h7, h8, h9⟩ := h'
  have e0 := e 0 (by decide)
  have e1 := e 1 (by decide)
  have e3 := e 3 (by decide)
  have e4 := e 4 (by decide)
  have e5 := e 5 (by decide)
  have e6 := e 6 (by decide)
  have e7 := e 7 (by decide)
  refine ⟨by rw [e3]; exact h1, by rw [e4]; exact h2, by rw [e5]; exact h3, by rw [e1]; exact h4, by rw [e0]; exact h5, by rw [e5, e6, e7]; exact h6, fun s hs => ?_, fun b hb => ?_, fun k hk => ?_⟩
  · rw [e3] at hs
    rw [e _ (by omega)]; exact h7 s hs
  · rw [e4] at hb
    rw [e _ (by omega)]; exact h8 b hb
  · rw [e5] at hk
    have := h.k8 hk
    exact (h9 k hk).mono (fun w hw => e _ (by omega)) (by rw [e3]; exact Nat.le_refl _) (by rw [e4]; exact Nat.le_refl _)
theorem tH.ext {f d h N N' : Nat → Int32} {k : Nat} (hH : tH f d h N k) (hO : zOk N) (hk : k < zn (N 5)) (e : ∀ k, k < 210 → N' k = N k) : tH f d h N' k := by
  have h8 := hO.k8 hk
  obtain ⟨s, hs, hs3⟩ := (hO.tu hk).1
  have hS := hO.S5.2
  obtain ⟨hm, hm6⟩ := hO.many hk
  have zs : zn (N (42 + 21 * k + 0)) = s := by rw [hs, zn_nI (by omega)]
  have em : sMany N' k = sMany N k := by rw [sMany, sMany, e _ (by omega)]
  obtain ⟨a0, a1, a2, a3, a4, a5, a6, a7, a8, a9, a10, a11⟩ := hH
  refine ⟨a0, ?_, ?_, ?_, ?_, ?_, ?_, ?_, ?_, ?_, ?_, fun p hp => ?_⟩
  · rw [e _ (by omega)]; exact a1
  · rw [e _ (by omega)]; exact a2
  · rw [e (42 + 21 * k + 0) (by omega), e _ (by rw [zs]; omega)]; exact a3
  · rw [e _ (by omega)]; exact a4
  · rw [e _ (by omega)]; exact a5
  · rw [e _ (by omega)]; exact a6
  · rw [e _ (by omega)]; exact a7
  · rw [e _ (by omega)]; exact a8
  · rw [e _ (by omega)]; exact a9
  · rw [e _ (by omega)]; exact a10
  · rw [em] at hp
    rw [sDeg, sHgt, e _ (by omega), e _ (by omega)]
    exact a11 p hp
theorem zH.ext {i : Ni} {a : Nat → Nat} {N N' : Nat → Int32} (h : zH i a N) (e : ∀ k, k < 210 → N' k = N k) : zH i a N' := by
  have hO := h.1
  have hS := hO.S5.2
  have hB := hO.B4.2
  obtain ⟨c1, c2, c3, c4, c5, c6, c7, c8⟩ := h.cnt
  have e5 := e 5 (by decide)
  have e3 := e 3 (by decide)
  have e4 := e 4 (by decide)
  have eT : ∀ k, k < zn (N 5) → N' (42 + 21 * k + 0) = N (42 + 21 * k + 0) := fun k hk => e _ (by have := hO.k8 hk; omega)
  refine ⟨hO.ext e, ⟨by rw [e3]; exact c1, by rw [e4]; exact c2, by rw [e5]; exact c3, by rw [e 2 (by decide)]; exact c4, by rw [e 0 (by decide)]; exact c5, by rw [e 1 (by decide)]; exact c6, by rw [e 6 (by decide)]; exact c7, by rw [e 7 (by decide)]; exact c8⟩, fun s hs => ?_, fun b hb => ?_, fun k hk => ?_, ?_, fun s hs => ?_, h.no⟩
  · rw [e3] at hs
    rw [e _ (by omega), e _ (by omega), e _ (by omega)]; exact h.sp hs
  · rw [e4] at hb
    rw [e _ (by omega), e _ (by omega), e _ (by omega)]; exact h.ba hb
  · rw [e5] at hk
    exact ⟨(h.tu hk).ext hO hk e, by rw [eT k hk]; exact h.na hk⟩
  · rw [e5, e 8 (by decide)]; exact h.giv
  · rw [e3] at hs
    rw [e5, e _ (by omega), ← h.los hs]
    exact sAdd_cg _ (fun k hk => by rw [eT k hk])
/-! ===== NAMES ===== -/
theorem pk27_b : ∀ (xs : List Nat) (v : Nat), (∀ x ∈ xs, 1 ≤ x ∧ x ≤ 26) → pk27 xs v < 27 ^ xs.length * (v + 1)
  | [], v, _ => by simp [pk27]
  | x :: l, v, h => by
    have h1 := (h x List.mem_cons_self).2
    have h2 := pk27_b l (27 * v + x) (fun y hy => h y (List.mem_cons_of_mem _ hy))
    refine Nat.lt_of_lt_of_le h2 ?_
    rw [List.length_cons, Nat.pow_succ, Nat.mul_assoc]
    exact Nat.mul_le_mul_left _ (by omega)
theorem zNx.nm {p w l : Int32} (h : zNx p w l) : ∃ L v, l = nI L ∧ 1 ≤ L ∧ L ≤ 4 ∧ w = nI v ∧ v < 2 ^ 31 := by
  obtain ⟨xs, h1, h2, h3, h4, h5, -⟩ := h
  refine ⟨xs.length, pk27 xs 0, h5, h1, h2, h4, ?_⟩
  have := pk27_b xs 0 h3
  have h6 : 27 ^ xs.length ≤ 27 ^ 4 := Nat.pow_le_pow_right (by decide) h2
  have h7 : (27 : Nat) ^ 4 = 531441 := by decide
  omega
theorem zH.nms {i : Ni} {a : Nat → Nat} {N : Nat → Int32} (h : zH i a N) : zNm N := ⟨fun s hs => (h.sp hs).2.nm, fun s hs => (h.ba hs).2.nm⟩

