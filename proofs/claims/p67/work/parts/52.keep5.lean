/-! ===== POINTS PUT AND ERASED, NEW TUBES KEEP THE ROW'S BOUNDS ===== -/
theorem sFree_up {N : Nat → Int32} {k w : Nat} {v t : Int32} (h : 42 + 21 * k + 5 < w) : sFree (upd N w v) k t = if w = 10 + 4 * zn (N (42 + 21 * k + 0)) + 2 then sFree (upd N w v) k t else sFree N k t := by
  split
  · rfl
  · rename_i h2
    simp only [sFree]
    rw [pk_un (show 42 + 21 * k + 0 ≠ w by omega), pk_un (show 42 + 21 * k + 1 ≠ w by omega), pk_un (show 42 + 21 * k + 2 ≠ w by omega), pk_un (show 42 + 21 * k + 4 ≠ w by omega), pk_un (fun e => h2 e.symm)]
theorem sHigh_up {N : Nat → Int32} (hO : zOk N) {k w : Nat} (hk : k < zn (N 5)) {v : Int32} (h : 42 + 21 * k + 5 < w) : sHigh (upd N w v) k = sHigh N k := by
  obtain ⟨s, s1, s2, s3⟩ := hO.S hk
  rw [sHigh, sHigh, pk_un (show 42 + 21 * k + 3 ≠ w by omega), pk_un (show 42 + 21 * k + 5 ≠ w by omega), sFree_up h, if_neg (by rw [s1, zn_nI (by omega)]; omega)]
theorem sPut_n {N : Nat → Int32} {k w : Nat} (h1 : w ≠ 42 + 21 * k + (9 + 2 * sMany N k)) (h2 : w ≠ 42 + 21 * k + (9 + 2 * sMany N k + 1)) (h3 : w ≠ 42 + 21 * k + 8) : sPut N k w = N w := by
  rw [sPut, pk_un h3, pk_un h2, pk_un h1]
theorem sMark_not {N : Nat → Int32} {k : Nat} (h0 : sMark N k = 0) : ¬ sHas (sDeg N k) (N (30 + 3 * zn (N (42 + 21 * k + 7)) + 2)) (sMany N k) = true ∧ ¬ sHas (sHgt N k) (sHigh N k) (sMany N k) = true := by
  rw [sMark] at h0
  split at h0
  · exact absurd h0 (by decide)
  · split at h0
    · exact absurd h0 (by decide)
    · split at h0
      · exact absurd h0 (by decide)
      · rename_i a1
        split at h0
        · exact absurd h0 (by decide)
        · rename_i a2
          exact ⟨a1, a2⟩
theorem zOk_put {N : Nat → Int32} (h : zOk N) {k : Nat} (hk : k < zn (N 5)) (h0 : sMark N k = 0) : zOk (sPut N k) := by
  obtain ⟨b0, hb0, hb4, hm5⟩ := sMark_0 h hk h0
  obtain ⟨n1, n2⟩ := sMark_not h0
  have h8 := h.k8 hk
  have t := h.tu hk
  have hpts := h.pts hk
  have hb : b0 < zn (N 4) := by
    obtain ⟨-, -, -, -, -, -, -, a7, -⟩ := t
    rcases a7 with a7 | ⟨b, b1, b2⟩
    · rw [hb0] at a7
      have : ∀ z : Fin 4, ¬ nI z.val = -1 := by decide
      exact absurd a7 (this ⟨b0, hb4⟩)
    · have hB := h.B4.2
      have : b = b0 := (nI_eq (by omega) (by omega)).mp (b1.symm.trans hb0)
      omega
  have e : ∀ w, w ≠ 42 + 21 * k + (9 + 2 * sMany N k) → w ≠ 42 + 21 * k + (9 + 2 * sMany N k + 1) → w ≠ 42 + 21 * k + 8 → sPut N k w = N w := fun w => sPut_n
  have t' := t
  obtain ⟨-, -, -, -, t4, t5, t6, t7, -⟩ := t'
  have eD : sDeg (sPut N k) k (sMany N k) = N (30 + 3 * b0 + 2) := by
    rw [sDeg, sPut, pk_un (by omega), pk_un (by omega), pk_us, hb0, zn_nI (by omega)]
  have eH : sHgt (sPut N k) k (sMany N k) = sHigh N k := by
    rw [sHgt, sPut, pk_un (by omega), pk_us, sHigh_up h hk (by omega)]
  have oD : ∀ p, p < sMany N k → sDeg (sPut N k) k p = sDeg N k p := fun p hp => e _ (by omega) (by omega) (by omega)
  have oH : ∀ p, p < sMany N k → sHgt (sPut N k) k p = sHgt N k p := fun p hp => e _ (by omega) (by omega) (by omega)
  obtain ⟨H, hH, hH9⟩ := sHigh_in h hk
  have hdeg : zIn (N (30 + 3 * b0 + 2)) (-20) 150 := h.2.2.2.2.2.2.2.1 b0 hb
  rw [hb0, zn_nI (by omega)] at n1
  refine h.at hk (fun w a b => e w (by omega) (by omega) (by omega)) (fun q hq hqk w hw => e _ (by omega) (by omega) (by omega)) (t.part (by rw [e 3 (by omega) (by omega) (by omega)]) (by rw [e 4 (by omega) (by omega) (by omega)]) (fun w hw => e _ (by omega) (by omega) (by omega)) ?_ ?_ ?_ ?_ ?_)
  · rw [e _ (by omega) (by omega) (by omega)]; exact t4
  · rw [e _ (by omega) (by omega) (by omega)]; exact t5
  · rw [e _ (by omega) (by omega) (by omega)]; exact t6
  · rw [e _ (by omega) (by omega) (by omega)]; exact t7
  · refine ⟨sMany N k + 1, by rw [sPut, pk_us], by omega, fun p hp => ?_, fun p q hp hq hpq => ?_⟩
    · rcases Nat.lt_or_ge p (sMany N k) with h1 | h1
      · rw [oD p h1, oH p h1]; exact hpts.1 p h1
      · obtain rfl : p = sMany N k := by omega
        rw [eD, eH]
        exact ⟨hdeg, by rw [hH]; exact zIn_nI (by omega) (by omega) (by omega)⟩
    · rcases Nat.lt_or_ge p (sMany N k) with h1 | h1 <;> rcases Nat.lt_or_ge q (sMany N k) with h2 | h2
      · rw [oD p h1, oH p h1, oD q h2, oH q h2] at hpq; exact hpts.2 p q h1 h2 hpq
      · obtain rfl : q = sMany N k := by omega
        rw [oD p h1, oH p h1, eD, eH] at hpq
        rcases hpq with hpq | hpq
        · exact absurd (sHas_iff.mpr ⟨p, h1, hpq⟩) n1
        · exact absurd (sHas_iff.mpr ⟨p, h1, hpq⟩) n2
      · obtain rfl : p = sMany N k := by omega
        rw [oD q h2, oH q h2, eD, eH] at hpq
        rcases hpq with hpq | hpq
        · exact absurd (sHas_iff.mpr ⟨q, h2, hpq.symm⟩) n1
        · exact absurd (sHas_iff.mpr ⟨q, h2, hpq.symm⟩) n2
      · omega
theorem sDown_n {N : Nat → Int32} {k q w : Nat} : ∀ n, (w < 42 + 21 * k + (9 + 2 * q) ∨ 42 + 21 * k + (9 + 2 * (q + n)) ≤ w) → sDown N k q n w = N w
  | 0, _ => rfl
  | n + 1, h => by
    rw [sDown, pk_un (by omega), pk_un (by omega)]
    exact sDown_n n (by omega)
theorem sDown_d {N : Nat → Int32} {k q : Nat} : ∀ n p, q ≤ p → p < q + n → sDeg (sDown N k q n) k p = sDeg N k (p + 1) ∧ sHgt (sDown N k q n) k p = sHgt N k (p + 1)
  | 0, p, h1, h2 => by omega
  | n + 1, p, h1, h2 => by
    have f1 : sDeg (sDown N k q n) k (q + n + 1) = sDeg N k (q + n + 1) := sDown_n n (by omega)
    have f2 : sHgt (sDown N k q n) k (q + n + 1) = sHgt N k (q + n + 1) := sDown_n n (by omega)
    have f3 : sHgt (upd (sDown N k q n) (42 + 21 * k + (9 + 2 * (q + n))) (sDeg (sDown N k q n) k (q + n + 1))) k (q + n + 1) = sHgt N k (q + n + 1) := by
      rw [sHgt, pk_un (by omega)]; exact f2
    rcases Nat.lt_or_ge p (q + n) with h | h
    · obtain ⟨e1, e2⟩ := sDown_d n p h1 h
      rw [sDown]
      refine ⟨?_, ?_⟩
      · rw [sDeg, pk_un (by omega), pk_un (by omega)]; exact e1
      · rw [sHgt, pk_un (by omega), pk_un (by omega)]; exact e2
    · obtain rfl : p = q + n := by omega
      rw [sDown]
      refine ⟨?_, ?_⟩
      · rw [sDeg, pk_un (by omega), pk_us]; exact f1
      · rw [sHgt, pk_us]; exact f3
theorem sErase_n {N : Nat → Int32} {k q w : Nat} (hm : sMany N k ≤ 6) (hq : q < sMany N k) (h1 : w < 42 + 21 * k + 8 ∨ 42 + 21 * k + 21 ≤ w) : sErase N k q w = N w := by
  rw [sErase, pk_un (by omega)]
  exact sDown_n _ (by omega)
theorem zOk_erase {N : Nat → Int32} (h : zOk N) {k q : Nat} (hk : k < zn (N 5)) (hq : q < sMany N k) : zOk (sErase N k q) := by
  obtain ⟨hm, hm6⟩ := h.many hk
  have h8 := h.k8 hk
  have t := h.tu hk
  have hpts := h.pts hk
  have e : ∀ w, (w < 42 + 21 * k + 8 ∨ 42 + 21 * k + 21 ≤ w) → sErase N k q w = N w := fun w => sErase_n hm6 hq
  have t' := t
  obtain ⟨-, -, -, -, t4, t5, t6, t7, -⟩ := t'
  have eD : ∀ p, p < sMany N k - 1 → sDeg (sErase N k q) k p = sDeg N k (if p < q then p else p + 1) ∧ sHgt (sErase N k q) k p = sHgt N k (if p < q then p else p + 1) := by
    intro p hp
    have a1 : sDeg (sErase N k q) k p = sDeg (sDown N k q (sMany N k - (q + 1))) k p := by rw [sDeg, sErase, pk_un (by omega)]; rfl
    have a2 : sHgt (sErase N k q) k p = sHgt (sDown N k q (sMany N k - (q + 1))) k p := by rw [sHgt, sErase, pk_un (by omega)]; rfl
    rw [a1, a2]
    split
    · exact ⟨sDown_n _ (by omega), sDown_n _ (by omega)⟩
    · exact sDown_d _ p (by omega) (by omega)
  refine h.at hk (fun w a b => e w (by omega)) (fun q' hq' hqk w hw => e _ (by omega)) (t.part (by rw [e 3 (by omega)]) (by rw [e 4 (by omega)]) (fun w hw => e _ (by omega)) ?_ ?_ ?_ ?_ ?_)
  · rw [e _ (by omega)]; exact t4
  · rw [e _ (by omega)]; exact t5
  · rw [e _ (by omega)]; exact t6
  · rw [e _ (by omega)]; exact t7
  · refine ⟨sMany N k - 1, by rw [sErase, pk_us], by omega, fun p hp => ?_, fun p p' hp hp' hpq => ?_⟩
    · rw [(eD p hp).1, (eD p hp).2]
      exact hpts.1 _ (by split <;> omega)
    · rw [(eD p hp).1, (eD p hp).2, (eD p' hp').1, (eD p' hp').2] at hpq
      have := hpts.2 _ _ (by split <;> omega) (by split <;> omega) hpq
      split at this <;> split at this <;> omega
/-- what no tube and no spirit uses is zero -/
def zZr (N : Nat → Int32) : Prop := (∀ k, zn (N 5) ≤ k → k < 8 → N (42 + 21 * k + 6) = nI 0 ∧ N (42 + 21 * k + 8) = nI 0) ∧ ∀ s, zn (N 3) ≤ s → s < 5 → N (10 + 4 * s + 3) = nI 0
theorem aTube_n {N : Nat → Int32} {T w : Nat} {s b o l f : Int32} (h5 : w ≠ 5) (h8 : w ≠ 8) (hw : w < 42 + 21 * T ∨ 42 + 21 * T + 8 ≤ w ∨ w = 42 + 21 * T + 6) : aTube N T s b o l f w = N w := by
  rw [aTube, pk_un h8, pk_un (by omega), pk_un (by omega), pk_un (by omega), pk_un (by omega), pk_un (by omega), pk_un (by omega), pk_un (by omega), pk_un h5]
theorem zOk_tube {N : Nat → Int32} (h : zOk N) (hz : zZr N) {T q : Nat} (hT : N 5 = nI T) (hT8 : T < 8) (hq : q < zn (N 3)) {b o l f : Int32} (hb : zIn b 1 50) (ho : zIn o 1 9) (hl : zIn l 10 999) (hf : zIn f 0 999) : zOk (aTube N T (nI q) b o l f) := by
  have zT : zn (N 5) = T := by rw [hT, zn_nI (by omega)]
  have e : ∀ w, w ≠ 5 → w ≠ 8 → (w < 42 + 21 * T ∨ 42 + 21 * T + 8 ≤ w ∨ w = 42 + 21 * T + 6) → aTube N T (nI q) b o l f w = N w := fun w => aTube_n
  have e5 : aTube N T (nI q) b o l f 5 = nI (T + 1) := by
    rw [aTube, pk_un (by omega), pk_un (by omega), pk_un (by omega), pk_un (by omega), pk_un (by omega), pk_un (by omega), pk_un (by omega), pk_un (by omega), pk_us]
  have z5 : zn (nI (T + 1)) = T + 1 := zn_nI (by omega)
  have hh := h
  obtain ⟨h1, h2, h3, h4, h5', h6, h7, h8, h9⟩ := h
  obtain ⟨zz1, zz2⟩ := hz.1 T (by omega) hT8
  refine ⟨by rw [e 3 (by omega) (by omega) (by omega)]; exact h1, by rw [e 4 (by omega) (by omega) (by omega)]; exact h2, ⟨T + 1, e5, by omega⟩, by rw [e 1 (by omega) (by omega) (by omega)]; exact h4, by rw [e 0 (by omega) (by omega) (by omega)]; exact h5', ?_, ?_, ?_, ?_⟩
  · rw [e 6 (by omega) (by omega) (by omega), e 7 (by omega) (by omega) (by omega), e5, z5]
    exact h6.imp_right fun ⟨⟨k, k1, k2⟩, k3⟩ => ⟨⟨k, k1, by omega⟩, k3⟩
  · intro s hs
    have := hh.S5.2
    rw [e 3 (by omega) (by omega) (by omega)] at hs
    rw [e _ (by omega) (by omega) (by omega)]; exact h7 s hs
  · intro s hs
    have := hh.B4.2
    rw [e 4 (by omega) (by omega) (by omega)] at hs
    rw [e _ (by omega) (by omega) (by omega)]; exact h8 s hs
  · intro k hk
    rw [e5, z5] at hk
    by_cases hkT : k = T
    · subst hkT
      refine ⟨⟨q, ?_, by rw [e 3 (by omega) (by omega) (by omega)]; exact hq⟩, ?_, ?_, ?_, ?_, ?_, ?_, ?_, ?_⟩
      · rw [aTube, pk_un (by omega), pk_un (by omega), pk_un (by omega), pk_un (by omega), pk_un (by omega), pk_un (by omega), pk_un (by omega), pk_us]
      · rw [aTube, pk_un (by omega), pk_un (by omega), pk_un (by omega), pk_un (by omega), pk_un (by omega), pk_un (by omega), pk_us]; exact hb
      · rw [aTube, pk_un (by omega), pk_un (by omega), pk_un (by omega), pk_un (by omega), pk_un (by omega), pk_us]; exact ho
      · rw [aTube, pk_un (by omega), pk_un (by omega), pk_un (by omega), pk_un (by omega), pk_us]; exact hl
      · rw [aTube, pk_un (by omega), pk_un (by omega), pk_un (by omega), pk_us]; exact hf
      · rw [aTube, pk_un (by omega), pk_un (by omega), pk_us]; exact (mul10 h5').1
      · rw [e _ (by omega) (by omega) (by omega)]; exact Or.inl zz1
      · exact Or.inl (by rw [aTube, pk_un (by omega), pk_us])
      · exact ⟨0, by rw [e _ (by omega) (by omega) (by omega)]; exact zz2, by omega, fun p hp => by omega, fun p q hp => by omega⟩
    · exact (hh.tu (by omega)).mono (fun w hw => e _ (by omega) (by omega) (by omega)) (by rw [e 3 (by omega) (by omega) (by omega)]; exact Nat.le_refl _) (by rw [e 4 (by omega) (by omega) (by omega)]; exact Nat.le_refl _)


