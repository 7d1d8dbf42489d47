/-! ===== P67: THE LAW'S TEXT AND ITS ROW ===== -/
def rS (E : Ev) : Nat → Nat → Int32
  | 0 => aGal (vRm E) (nI (vLg E))
  | k + 1 => aSpirit (rS E k) k (cw (nm7 k)).toInt32 (nI (nm7 k).length) (nI (vEx E k))
def rB (E : Ev) : Nat → Nat → Int32
  | 0 => rS E (vS E)
  | k + 1 => aBath (rB E k) k (cw (nm7 (3 + k))).toInt32 (nI (nm7 (3 + k)).length) (vDg E k)
def rT (E : Ev) : Nat → Nat → Int32
  | 0 => rB E (vB E)
  | k + 1 => aTube (rT E k) k (nI (vSp E k)) (nI (vBu E k)) (nI (vBo E k)) (nI (vLe E k)) (nI (vFi E k))
theorem aGal_n {v l : Int32} {w : Nat} (h0 : w ≠ 0) (h1 : w ≠ 1) (h6 : w ≠ 6) : aGal v l w = nI 0 := by
  rw [aGal, pk_un h1, pk_un h0, pk_un h6]
theorem rS_n (E : Ev) {w : Nat} (h3 : w ≠ 3) (hw : w < 10 ∨ 30 ≤ w ∨ ∃ s, w = 10 + 4 * s + 3) : ∀ k, k ≤ 5 → rS E k w = aGal (vRm E) (nI (vLg E)) w
  | 0, _ => rfl
  | k + 1, hk => by
    have ih := rS_n E h3 hw k (by omega)
    rw [rS, aSpirit, pk_un (by omega), pk_un (by omega), pk_un (by omega), pk_un (by omega), ih]
theorem rS_3 (E : Ev) : ∀ k, rS E k 3 = nI k
  | 0 => aGal_n (by decide) (by decide) (by decide)
  | k + 1 => by rw [rS, aSpirit, pk_un (by omega), pk_un (by omega), pk_un (by omega), pk_us]
theorem rS_at (E : Ev) {q : Nat} : ∀ k, q < k → rS E k (10 + 4 * q + 0) = (cw (nm7 q)).toInt32 ∧ rS E k (10 + 4 * q + 1) = nI (nm7 q).length ∧ rS E k (10 + 4 * q + 2) = nI (vEx E q)
  | 0, h => absurd h (Nat.not_lt_zero q)
  | k + 1, h => by
    by_cases e : q = k
    · subst e
      refine ⟨?_, ?_, ?_⟩ <;> rw [rS, aSpirit]
      · rw [pk_un (by omega), pk_un (by omega), pk_us]
      · rw [pk_un (by omega), pk_us]
      · rw [pk_us]
    · obtain ⟨i1, i2, i3⟩ := rS_at E (q := q) k (by omega)
      refine ⟨?_, ?_, ?_⟩ <;> rw [rS, aSpirit, pk_un (by omega), pk_un (by omega), pk_un (by omega), pk_un (by omega)] <;> assumption
theorem rB_n (E : Ev) {w : Nat} (h4 : w ≠ 4) (hw : w < 30 ∨ 42 ≤ w) : ∀ k, k ≤ 4 → rB E k w = rS E (vS E) w
  | 0, _ => rfl
  | k + 1, hk => by
    have ih := rB_n E h4 hw k (by omega)
    rw [rB, aBath, pk_un (by omega), pk_un (by omega), pk_un (by omega), pk_un (by omega), ih]
theorem rB_4 (E : Ev) : ∀ k, rB E k 4 = nI k
  | 0 => by
    have := vS_lt E
    rw [rB, rS_n E (by decide) (Or.inl (by decide)) _ (by omega), aGal_n (by decide) (by decide) (by decide)]
  | k + 1 => by rw [rB, aBath, pk_un (by omega), pk_un (by omega), pk_un (by omega), pk_us]
theorem rB_at (E : Ev) {q : Nat} : ∀ k, q < k → rB E k (30 + 3 * q + 0) = (cw (nm7 (3 + q))).toInt32 ∧ rB E k (30 + 3 * q + 1) = nI (nm7 (3 + q)).length ∧ rB E k (30 + 3 * q + 2) = vDg E q
  | 0, h => absurd h (Nat.not_lt_zero q)
  | k + 1, h => by
    by_cases e : q = k
    · subst e
      refine ⟨?_, ?_, ?_⟩ <;> rw [rB, aBath]
      · rw [pk_un (by omega), pk_un (by omega), pk_us]
      · rw [pk_un (by omega), pk_us]
      · rw [pk_us]
    · obtain ⟨i1, i2, i3⟩ := rB_at E (q := q) k (by omega)
      refine ⟨?_, ?_, ?_⟩ <;> rw [rB, aBath, pk_un (by omega), pk_un (by omega), pk_un (by omega), pk_un (by omega)] <;> assumption
theorem rT_n (E : Ev) {w : Nat} (h5 : w ≠ 5) (h8 : w ≠ 8) (hw : w < 42) : ∀ k, rT E k w = rB E (vB E) w
  | 0 => rfl
  | k + 1 => by
    have ih := rT_n E h5 h8 hw k
    rw [rT, aTube, pk_un (by omega), pk_un (by omega), pk_un (by omega), pk_un (by omega), pk_un (by omega), pk_un (by omega), pk_un (by omega), pk_un (by omega), pk_un (by omega), ih]
theorem rT_0 (E : Ev) {w : Nat} (h3 : w ≠ 3) (h4 : w ≠ 4) (hw : w < 10 ∨ 42 ≤ w) : rT E 0 w = aGal (vRm E) (nI (vLg E)) w := by
  have h1 := vS_lt E
  have h2 := vB_lt E
  rw [rT, rB_n E h4 (by omega) _ (by omega), rS_n E h3 (by omega) _ (by omega)]
theorem rT_lo (E : Ev) {w : Nat} (h3 : w ≠ 3) (h4 : w ≠ 4) (h5 : w ≠ 5) (h8 : w ≠ 8) (hw : w < 10) (k : Nat) : rT E k w = aGal (vRm E) (nI (vLg E)) w := by
  rw [rT_n E h5 h8 (by omega), ← rT_0 E h3 h4 (Or.inl hw), rT]
theorem rT_5 (E : Ev) : ∀ k, rT E k 5 = nI k
  | 0 => by rw [rT_0 E (by decide) (by decide) (Or.inl (by decide)), aGal_n (by decide) (by decide) (by decide)]
  | k + 1 => by rw [rT, aTube, pk_un (by omega), pk_un (by omega), pk_un (by omega), pk_un (by omega), pk_un (by omega), pk_un (by omega), pk_un (by omega), pk_un (by omega), pk_us]
theorem rT_far (E : Ev) {w : Nat} : ∀ k, 42 + 21 * k ≤ w → rT E k w = nI 0
  | 0, h => by rw [rT_0 E (by omega) (by omega) (Or.inr (by omega)), aGal_n (by omega) (by omega) (by omega)]
  | k + 1, h => by
    have ih := rT_far E (w := w) k (by omega)
    rw [rT, aTube, pk_un (by omega), pk_un (by omega), pk_un (by omega), pk_un (by omega), pk_un (by omega), pk_un (by omega), pk_un (by omega), pk_un (by omega), pk_un (by omega), ih]
theorem rT_k (E : Ev) {q w : Nat} (hw : w < 21) : ∀ k m, q < k → rT E (k + m) (42 + 21 * q + w) = rT E k (42 + 21 * q + w)
  | k, 0, _ => rfl
  | k, m + 1, h => by
    rw [← rT_k E hw k m h, ← Nat.add_assoc, rT, aTube, pk_un (by omega), pk_un (by omega), pk_un (by omega), pk_un (by omega), pk_un (by omega), pk_un (by omega), pk_un (by omega), pk_un (by omega), pk_un (by omega)]
def zTn (E : Ev) (N : Nat → Int32) (q : Nat) : Prop := N (42 + 21 * q + 0) = nI (vSp E q) ∧ N (42 + 21 * q + 1) = nI (vBu E q) ∧ N (42 + 21 * q + 2) = nI (vBo E q) ∧ N (42 + 21 * q + 3) = nI (vLe E q) ∧ N (42 + 21 * q + 4) = nI (vFi E q) ∧ N (42 + 21 * q + 5) = nI 10 * vRm E ∧ N (42 + 21 * q + 6) = nI 0 ∧ N (42 + 21 * q + 7) = -1 ∧ N (42 + 21 * q + 8) = nI 0
theorem rT_room (E : Ev) (k : Nat) : rT E k 0 = vRm E := by
  rw [rT_lo E (by decide) (by decide) (by decide) (by decide) (by decide), aGal, pk_un (by decide), pk_us]
theorem rT_new (E : Ev) (q : Nat) : zTn E (rT E (q + 1)) q := by
  have e0 := rT_room E q
  refine ⟨?_, ?_, ?_, ?_, ?_, ?_, ?_, ?_, ?_⟩ <;> rw [rT, aTube, pk_un (by omega)]
  · rw [pk_un (by omega), pk_un (by omega), pk_un (by omega), pk_un (by omega), pk_un (by omega), pk_un (by omega), pk_us]
  · rw [pk_un (by omega), pk_un (by omega), pk_un (by omega), pk_un (by omega), pk_un (by omega), pk_us]
  · rw [pk_un (by omega), pk_un (by omega), pk_un (by omega), pk_un (by omega), pk_us]
  · rw [pk_un (by omega), pk_un (by omega), pk_un (by omega), pk_us]
  · rw [pk_un (by omega), pk_un (by omega), pk_us]
  · rw [pk_un (by omega), pk_us, e0]
  · rw [pk_un (by omega), pk_un (by omega), pk_un (by omega), pk_un (by omega), pk_un (by omega), pk_un (by omega), pk_un (by omega), pk_un (by omega), rT_far E q (by omega)]
  · rw [pk_us]
  · rw [pk_un (by omega), pk_un (by omega), pk_un (by omega), pk_un (by omega), pk_un (by omega), pk_un (by omega), pk_un (by omega), pk_un (by omega), rT_far E q (by omega)]
theorem rT_tube (E : Ev) {q k : Nat} (h : q < k) : zTn E (rT E k) q := by
  have e : ∀ w, w < 21 → rT E k (42 + 21 * q + w) = rT E (q + 1) (42 + 21 * q + w) := fun w hw => by
    have := rT_k E (q := q) hw (q + 1) (k - (q + 1)) (by omega)
    rw [show q + 1 + (k - (q + 1)) = k by omega] at this
    exact this
  have h2 := rT_new E q
  rw [zTn] at h2 ⊢
  rw [e 0 (by decide), e 1 (by decide), e 2 (by decide), e 3 (by decide), e 4 (by decide), e 5 (by decide), e 6 (by decide), e 7 (by decide), e 8 (by decide)]
  exact h2
theorem rT_8 (E : Ev) : ∀ k, rT E k 8 = sFl (rT E k) k
  | 0 => by rw [rT_0 E (by decide) (by decide) (Or.inl (by decide)), aGal_n (by decide) (by decide) (by decide), sFl, sAdd]
  | k + 1 => by
    have e : rT E (k + 1) 8 = rT E k 8 + nI (vFi E k) := by rw [rT, aTube, pk_us]
    rw [e, rT_8 E k, sFl, sFl, sAdd, (rT_new E k).2.2.2.2.1]
    congr 1
    exact (sAdd_c _ (fun q hq => rT_k E (q := q) (by decide) k 1 hq)).symm
theorem lost_0 {N : Nat → Int32} : ∀ m, (∀ s, s < m → N (10 + 4 * s + 3) = nI 0) → sLost N m = nI 0
  | 0, _ => rfl
  | m + 1, h => by rw [sLost, lost_0 m (fun s hs => h s (by omega)), h m (by omega), add_nI0]
/-- the row of the law's text -/
abbrev rowL (E : Ev) : Nat → Int32 := rT E (vT E)
theorem rowL_lost (E : Ev) (s : Nat) (hs : s < 5) : rowL E (10 + 4 * s + 3) = nI 0 := by
  have h1 := vS_lt E
  have h2 := vB_lt E
  rw [rowL, rT_n E (by omega) (by omega) (by omega), rB_n E (by omega) (by omega) _ (by omega), rS_n E (by omega) (Or.inr (Or.inr ⟨s, rfl⟩)) _ (by omega), aGal_n (by omega) (by omega) (by omega)]
theorem rT_3 (E : Ev) (k : Nat) : rT E k 3 = nI (vS E) := by
  have h2 := vB_lt E
  rw [rT_n E (by decide) (by decide) (by decide), rB_n E (by decide) (by omega) _ (by omega), rS_3]
theorem rT_4 (E : Ev) (k : Nat) : rT E k 4 = nI (vB E) := by rw [rT_n E (by decide) (by decide) (by decide), rB_4]
theorem rT_sp (E : Ev) (k : Nat) {q w : Nat} (hq : q < vS E) (hw : w < 3) : rT E k (10 + 4 * q + w) = rS E (vS E) (10 + 4 * q + w) := by
  have h1 := vS_lt E
  have h2 := vB_lt E
  rw [rT_n E (by omega) (by omega) (by omega), rB_n E (by omega) (by omega) _ (by omega)]
theorem rowL_d (E : Ev) : dOk E (rowL E) := by
  have h2 := vB_lt E
  refine ⟨rT_3 E _, rT_4 E _, rT_5 E _, fun s hs => ?_, fun b hb => ?_, fun k hk => ?_⟩
  · rw [rowL, rT_sp E _ hs (by decide)]
    exact (rS_at E (vS E) hs).2.2
  · rw [rowL, rT_n E (by omega) (by omega) (by omega)]
    exact (rB_at E (vB E) hb).2.2
  · obtain ⟨a0, a1, a2, a3, -⟩ := rT_tube E hk
    exact ⟨a0, a1, a2, a3⟩
theorem rowL_b (E : Ev) : jB (rowL E) := by
  have h1 := vS_lt E
  have h3 := vT_lt E
  rw [jB, lost_0 _ (fun s hs => rowL_lost E s (by rw [rowL, rT_3, zn_nI (by omega)] at hs; omega)), rowL, rT_5, zn_nI (by omega), rT_8, nI_0, Int32.zero_add]
/-! the text as it is built -/
def xS (E : Ev) : Nat → List Int32
  | 0 => gT_ (vRm E) (nI (vLg E)) []
  | k + 1 => xS E k ++ sT_ (nm7 k) (vEx E k) []
def xB (E : Ev) : Nat → List Int32
  | 0 => xS E (vS E)
  | k + 1 => xB E k ++ bT_ (nm7 (3 + k)) (vDg E k) []
def xT (E : Ev) : Nat → List Int32
  | 0 => xB E (vB E)
  | k + 1 => xT E k ++ uT_ (nm7 (vSp E k)) (vBu E k) (vBo E k) (vLe E k) (vFi E k) []
abbrev txL (E : Ev) : List Int32 := xT E (vT E)
theorem gT_R (v l : Int32) (R : List Int32) : gT_ v l [] ++ R = gT_ v l R := by
  simp only [gT_, dgP, List.append_assoc, List.cons_append, List.nil_append]
theorem sT_R (w : List Int32) (n : Nat) (R : List Int32) : sT_ w n [] ++ R = sT_ w n R := by
  simp only [sT_, List.append_assoc, List.cons_append, List.nil_append]
theorem bT_R (w : List Int32) (v : Int32) (R : List Int32) : bT_ w v [] ++ R = bT_ w v R := by
  simp only [bT_, dgP, List.append_assoc, List.cons_append, List.nil_append]
theorem uT_R (w : List Int32) (b o l f : Nat) (R : List Int32) : uT_ w b o l f [] ++ R = uT_ w b o l f R := by
  simp only [uT_, List.append_assoc, List.cons_append, List.nil_append]
theorem xS_12 (E : Ev) : ∀ k, 12 ≤ (xS E k).length
  | 0 => by
    have h1 := vRm_in E
    have h2 := vLg_in E
    obtain ⟨r1, r2⟩ := h1
    obtain ⟨-, -, -, d4, -⟩ := dig_p (n := (vRm E).toInt.natAbs) (by omega)
    obtain ⟨-, -, -, e4, -⟩ := dig_p (n := (nI (vLg E)).toInt.natAbs) (by rw [nI_toInt (by omega)]; omega)
    rw [xS, gT_, dgP]
    simp only [List.length_append, List.length_cons, List.length_nil, wGal]
    omega
  | k + 1 => by
    have := xS_12 E k
    rw [xS, List.length_append]
    omega
theorem xB_12 (E : Ev) : ∀ k, 12 ≤ (xB E k).length
  | 0 => xS_12 E _
  | k + 1 => by
    have := xB_12 E k
    rw [xB, List.length_append]
    omega
theorem xT_12 (E : Ev) : ∀ k, 12 ≤ (xT E k).length
  | 0 => xB_12 E _
  | k + 1 => by
    have := xT_12 E k
    rw [xT, List.length_append]
    omega
section
variable {E : Ev} {B : Nat → Int32} {L : Nat}
theorem nm_no {p q : Nat} (hp : p < 7) (hq : q < 7) (h : p ≠ q) : ¬ (nI (nm7 p).length = nI (nm7 q).length ∧ (cw (nm7 p)).toInt32.toInt64 = cw (nm7 q)) := nm7_ne ⟨p, hp⟩ ⟨q, hq⟩ (fun e => h (congrArg Fin.val e))
theorem pr_S (h12 : 12 ≤ L) : ∀ k, k ≤ vS E → ∀ R, hd kSp R = false → tl B L 0 (xS E k ++ R) → ∃ t', mText B L = mLoop B L (L - k) (rS E k) t' ∧ tl B L t' R
  | 0, _, R, hR, hT => by
    rw [xS, gT_R] at hT
    have h2 := vLg_in E
    obtain ⟨t', e, s⟩ := p_gal (vRm_in E |> fun h => ⟨h.1, by have := h.2; omega⟩) (l := nI (vLg E)) (by rw [zIn, nI_toInt (by omega)]; omega) hT hR
    refine ⟨t', ?_, s⟩
    rw [mText, skip_0 hT (hd_let wGal_l), e, tB_o, Nat.sub_zero, rS]
  | k + 1, hk, R, hR, hT => by
    have h1 := vS_lt E
    have h2 := vEx_in E k
    rw [xS, List.append_assoc, sT_R] at hT
    obtain ⟨t1, e1, s1⟩ := pr_S h12 k (by omega) _ (hd_let wSpi_l) hT
    obtain ⟨n1, n2, n3, n4⟩ := nm7_lets (q := k) (by omega)
    have e3 := rS_3 E k
    have z3 : zn (rS E k 3) = k := by rw [e3, zn_nI (by omega)]
    have z4 : zn (rS E k 4) = 0 := by rw [rS_n E (by decide) (Or.inl (by decide)) _ (by omega), aGal_n (by decide) (by decide) (by decide), zn0]
    obtain ⟨t', e2, s2, s3⟩ := p_spirit (N := rS E k) n1 n2 h2.1 h2.2 (by rw [e3]; intro h; have := congrArg zn h; rw [zn_nI (by omega), zn_nI (by omega)] at this; omega) (fun q hq => by
      rw [z3] at hq
      obtain ⟨a0, a1, -⟩ := rS_at E k hq
      rw [a0, a1]
      exact nm_no (by omega) (by omega) (by omega)) (fun q hq => by rw [z4] at hq; omega) s1 hR
    refine ⟨t', ?_, s2⟩
    rw [e1, show L - k = L - (k + 1) + 1 by omega, p_loop e2 s3, z3, rS]
theorem pr_B (h12 : 12 ≤ L) : ∀ k, k ≤ vB E → ∀ R, hd kSp R = false → tl B L 0 (xB E k ++ R) → ∃ t', mText B L = mLoop B L (L - vS E - k) (rB E k) t' ∧ tl B L t' R
  | 0, _, R, hR, hT => by
    obtain ⟨t', e, s⟩ := pr_S (E := E) h12 (vS E) (Nat.le_refl _) R hR hT
    exact ⟨t', e, s⟩
  | k + 1, hk, R, hR, hT => by
    have h1 := vS_lt E
    have h2 := vB_lt E
    rw [xB, List.append_assoc, bT_R] at hT
    obtain ⟨t1, e1, s1⟩ := pr_B h12 k (by omega) _ (hd_let wBat_l) hT
    obtain ⟨n1, n2, n3, n4⟩ := nm7_lets (q := 3 + k) (by omega)
    have e4 := rB_4 E k
    have z4 : zn (rB E k 4) = k := by rw [e4, zn_nI (by omega)]
    have z3 : zn (rB E k 3) = vS E := by rw [rB_n E (by decide) (Or.inl (by decide)) _ (by omega), rS_3, zn_nI (by omega)]
    obtain ⟨t', e2, s2, s3⟩ := p_bath (N := rB E k) n1 n2 (vDg_in E k) (by rw [e4]; intro h; have := congrArg zn h; rw [zn_nI (by omega), zn_nI (by omega)] at this; omega) (fun q hq => by
      rw [z3] at hq
      obtain ⟨a0, a1, -⟩ := rS_at E (vS E) hq
      rw [rB_n E (by omega) (by omega) _ (by omega), rB_n E (by omega) (by omega) _ (by omega), a0, a1]
      exact nm_no (by omega) (by omega) (by omega)) (fun q hq => by
      rw [z4] at hq
      obtain ⟨a0, a1, -⟩ := rB_at E k hq
      rw [a0, a1]
      exact nm_no (by omega) (by omega) (by omega)) s1 hR
    refine ⟨t', ?_, s2⟩
    rw [e1, show L - vS E - k = L - vS E - (k + 1) + 1 by omega, p_loop e2 s3, z4, rB]
theorem pr_T (h12 : 12 ≤ L) : ∀ k, k ≤ vT E → ∀ R, hd kSp R = false → tl B L 0 (xT E k ++ R) → ∃ t', mText B L = mLoop B L (L - vS E - vB E - k) (rT E k) t' ∧ tl B L t' R
  | 0, _, R, hR, hT => by
    obtain ⟨t', e, s⟩ := pr_B (E := E) h12 (vB E) (Nat.le_refl _) R hR hT
    exact ⟨t', e, s⟩
  | k + 1, hk, R, hR, hT => by
    have h1 := vS_lt E
    have h2 := vB_lt E
    have h3 := vT_lt E
    have h4 := vSp_lt (k := k) (vT_S (E := E) (k := k) (by omega))
    rw [xT, List.append_assoc, uT_R] at hT
    obtain ⟨t1, e1, s1⟩ := pr_T h12 k (by omega) _ (hd_let wTub_l) hT
    obtain ⟨n1, n2, n3, n4⟩ := nm7_lets (q := vSp E k) (by omega)
    have e5 := rT_5 E k
    have z5 : zn (rT E k 5) = k := by rw [e5, zn_nI (by omega)]
    have z3 : zn (rT E k 3) = vS E := by rw [rT_3, zn_nI (by omega)]
    have hf := vFi_in E k
    have hq : ∀ q, q < vS E → rT E k (10 + 4 * q + 1) = nI (nm7 q).length ∧ rT E k (10 + 4 * q + 0) = (cw (nm7 q)).toInt32 := fun q hq => by
      obtain ⟨a0, a1, -⟩ := rS_at E (vS E) hq
      exact ⟨by rw [rT_sp E _ hq (by decide), a1], by rw [rT_sp E _ hq (by decide), a0]⟩
    obtain ⟨t', e2, s2, s3⟩ := p_tube (N := rT E k) (q := vSp E k) n1 (vBu_in E k) (vBo_in E k) (vLe_in E k) (by omega) (by rw [e5]; intro h; have := congrArg zn h; rw [zn_nI (by omega), zn_nI (by omega)] at this; omega) (by omega) (by omega) (by
      rw [(hq _ h4).1, (hq _ h4).2]
      exact ⟨rfl, n3⟩) (fun z hz => by
      rw [(hq z (by omega)).1, (hq z (by omega)).2]
      exact nm_no (by omega) (by omega) (by omega)) s1 hR
    refine ⟨t', ?_, s2⟩
    rw [e1, show L - vS E - vB E - k = L - vS E - vB E - (k + 1) + 1 by omega, p_loop e2 s3, z5, rT]
theorem text_L (hT : tl B L 0 (txL E)) : ∃ t', mText B L = .ok (t', rowL E) := by
  have h1 := xT_12 E (vT E)
  have h2 : 0 + (xT E (vT E)).length = L := hT.1
  obtain ⟨t', e, s⟩ := pr_T (E := E) (B := B) (L := L) (by omega) (vT E) (Nat.le_refl _) [] rfl (by rw [List.append_nil]; exact hT)
  exact ⟨t', e.trans (p_done s _)⟩
end

