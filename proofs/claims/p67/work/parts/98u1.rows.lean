/-! ===== P67: READING THE LAW'S TEXT: statements ===== -/
theorem hd_c {c : Int32 → Bool} {x : Int32} {R : List Int32} (h : c x = false) : hd c (x :: R) = false := h
theorem sp_s {R : List Int32} (h : hd kSp R = false) : sp (nI 32 :: R) R := ⟨h, Or.inr rfl⟩
theorem sp_n {R : List Int32} (h : hd kSp R = false) : sp R R := ⟨h, Or.inl rfl⟩
def dgP (b : List Int32) (v : Int32) (R : List Int32) : List Int32 := (if v < 0 then nI 45 :: b else []) ++ (dig v.toInt.natAbs ++ R)
def gT_ (v l : Int32) (R : List Int32) : List Int32 := wGal ++ (nI 32 :: dgP [] v (nI 32 :: (dig l.toInt.natAbs ++ (nI 59 :: R))))
def sT_ (w : List Int32) (n : Nat) (R : List Int32) : List Int32 := wSpi ++ (nI 32 :: (w ++ (nI 32 :: (dig n ++ (nI 59 :: R)))))
def bT_ (w : List Int32) (v : Int32) (R : List Int32) : List Int32 := wBat ++ (nI 32 :: (w ++ (nI 32 :: dgP [nI 32] v (nI 59 :: R))))
def uT_ (w : List Int32) (b o l f : Nat) (R : List Int32) : List Int32 := wTub ++ (nI 32 :: (w ++ (nI 32 :: (dig b ++ (nI 32 :: (dig o ++ (nI 32 :: (dig l ++ (nI 32 :: (dig f ++ (nI 59 :: R)))))))))))
theorem hd_deg {b : List Int32} {v : Int32} {R : List Int32} (hv : zIn v (-20) 150) : hd kSp (dgP b v R) = false := by
  obtain ⟨h1, h2⟩ := hv
  rw [dgP]
  split
  · exact hd_c (by decide)
  · obtain ⟨d1, d2, d3, d4, -⟩ := dig_p (n := v.toInt.natAbs) (by omega)
    exact hd_dig d3 d4
theorem hd_num {n : Nat} {R : List Int32} (hn : n < 1000) : hd kSp (dig n ++ R) = false := by
  obtain ⟨d1, d2, d3, d4, -⟩ := dig_p hn
  exact hd_dig d3 d4
theorem hd_let {w R : List Int32} (h : lets w) : hd kSp (w ++ R) = false := by
  obtain ⟨h1, h2⟩ := h
  cases w with
  | nil => exact absurd h2 (Nat.lt_irrefl 0)
  | cons x w =>
    have h3 := h1 x List.mem_cons_self
    show kSp x = false
    rw [kLet, decide_eq_true_iff] at h3
    rw [kSp, decide_eq_false_iff_not]
    rintro (rfl | rfl)
    · exact absurd h3.1 (by decide)
    · exact absurd h3.1 (by decide)
section
variable {B : Nat → Int32} {L t : Nat}
theorem p_deg {b R R' : List Int32} {v : Int32} (hv : zIn v (-20) 150) (hb : b = [] ∨ b = [nI 32]) (hT : tl B L t (dgP b v R)) (hR : hd kDig R = false) (hs : sp R R') : ∃ t', tDeg B L t = .ok (t', v) ∧ tl B L t' R' := by
  obtain ⟨h1, h2⟩ := hv
  by_cases h : v < 0
  · have h3 := Int32.lt_iff_toInt_lt.mp h
    rw [show ((0 : Int32)).toInt = 0 by decide] at h3
    rw [dgP, if_pos h] at hT
    have e : -nI v.toInt.natAbs = v := by
      refine Int32.toInt_inj.mp ?_
      rw [Int32.toInt_neg, nI_toInt (by omega), Int.bmod_eq_of_le] <;> omega
    obtain ⟨t', e1, e2⟩ := p_degn (n := v.toInt.natAbs) (D := b ++ (dig v.toInt.natAbs ++ R)) (by omega) hT (by
      rcases hb with rfl | rfl
      · exact sp_n (hd_num (by omega))
      · exact sp_s (hd_num (by omega))) hR hs
    exact ⟨t', by rw [e1, e], e2⟩
  · have h3 : ¬ v.toInt < 0 := fun h4 => h (Int32.lt_iff_toInt_lt.mpr h4)
    rw [dgP, if_neg h] at hT
    have e : nI v.toInt.natAbs = v := by
      refine Int32.toInt_inj.mp ?_
      rw [nI_toInt (by omega)]
      omega
    obtain ⟨t', e1, e2⟩ := p_degp (n := v.toInt.natAbs) (by omega) hT hR hs
    exact ⟨t', by rw [e1, e], e2⟩
theorem p_gal {v l : Int32} {R : List Int32} (hv : zIn v (-20) 150) (hl : zIn l 1 20) (hT : tl B L t (gT_ v l R)) (hR : hd kSp R = false) : ∃ t', mGal B L t = .ok (t', aGal v l) ∧ tl B L t' R := by
  have hT' : tl B L t (wGal ++ (nI 32 :: dgP [] v (nI 32 :: (dig l.toInt.natAbs ++ (nI 59 :: R))))) := hT
  obtain ⟨l1, l2⟩ := hl
  have el : nI l.toInt.natAbs = l := by
    refine Int32.toInt_inj.mp ?_
    rw [nI_toInt (by omega)]
    omega
  have s1 := p_word wGal_l hT' (hd_c (by decide)) (sp_s (hd_deg hv))
  obtain ⟨t2, e2, s2⟩ := p_deg hv (Or.inl rfl) s1 (hd_c (by decide)) (sp_s (hd_num (by omega)))
  obtain ⟨t3, e3, s3⟩ := p_num (l := 1) (h := 20) (n := l.toInt.natAbs) (by omega) (by omega) (by omega) (by decide) s2 (hd_c (by decide)) (sp_n (hd_c (by decide)))
  obtain ⟨t4, e4, s4⟩ := p_end (P := False) (dP := inferInstance) id s3 (sp_n hR)
  refine ⟨t4, ?_, s4⟩
  rw [mGal, if_pos ((p_isW wGal_l (by decide) hT' (hd_c (by decide))).mpr cw_gal), e2, tB_o, e3, tB_o, e4, tB_o, el]
theorem p_new {N : Nat → Int32} {w R R' : List Int32} (hw : lets w) (h4 : w.length ≤ 4) (hS : ∀ q, q < zn (N 3) → ¬ (N (10 + 4 * q + 1) = nI w.length ∧ (N (10 + 4 * q + 0)).toInt64 = cw w)) (hB : ∀ q, q < zn (N 4) → ¬ (N (30 + 3 * q + 1) = nI w.length ∧ (N (30 + 3 * q + 0)).toInt64 = cw w))
    (hT : tl B L t (w ++ R)) (hR : hd kLet R = false) (hs : sp R R') : ∃ t', tNew N B L t = .ok (t', ()) ∧ tl B L t' R' := by
  obtain ⟨k1, k2, k3, k4⟩ := tok_w hT hw.1 hw.2 hR
  refine ⟨sNext B L t, ?_, p_word hw hT hR hs⟩
  have a1 : sUntil (fSp N B L t) 0 (zn (N 3)) = -1 := sUntil_no _ _ (fun q h1 h2 => by
    rw [fSp, decide_eq_false_iff_not, k3, k4]
    exact fun h => hS q (by omega) h.2)
  have a2 : sUntil (fBa N B L t) 0 (zn (N 4)) = -1 := sUntil_no _ _ (fun q h1 h2 => by
    rw [fBa, decide_eq_false_iff_not, k3, k4]
    exact fun h => hB q (by omega) h.2)
  rw [tNew, if_neg (fun h => h k1), if_neg (by omega), if_neg (fun h => by
    rcases h with h | h
    · exact h a1
    · exact h a2)]
theorem p_spirit {N : Nat → Int32} {w R : List Int32} {n : Nat} (hw : lets w) (h4 : w.length ≤ 4) (h1 : 1 ≤ n) (h2 : n ≤ 40) (h3 : ¬ N 3 = nI 5) (hS : ∀ q, q < zn (N 3) → ¬ (N (10 + 4 * q + 1) = nI w.length ∧ (N (10 + 4 * q + 0)).toInt64 = cw w)) (hB : ∀ q, q < zn (N 4) → ¬ (N (30 + 3 * q + 1) = nI w.length ∧ (N (30 + 3 * q + 0)).toInt64 = cw w))
    (hT : tl B L t (sT_ w n R)) (hR : hd kSp R = false) : ∃ t', mStat N B L t = .ok (t', aSpirit N (zn (N 3)) (cw w).toInt32 (nI w.length) (nI n)) ∧ tl B L t' R ∧ sKind B L t = 1 := by
  have hT' : tl B L t (wSpi ++ (nI 32 :: (w ++ (nI 32 :: (dig n ++ (nI 59 :: R)))))) := hT
  have s1 := p_word wSpi_l hT' (hd_c (by decide)) (sp_s (hd_let hw))
  obtain ⟨k1, k2, k3, k4⟩ := tok_w s1 hw.1 hw.2 (hd_c (by decide))
  obtain ⟨t2, e2, s2⟩ := p_new hw h4 hS hB s1 (hd_c (by decide)) (sp_s (hd_num (by omega)))
  obtain ⟨t3, e3, s3⟩ := p_num (l := 1) (h := 40) (by omega) h1 h2 (by decide) s2 (hd_c (by decide)) (sp_n (hd_c (by decide)))
  obtain ⟨t4, e4, s4⟩ := p_end (P := False) (dP := inferInstance) id s3 (sp_n hR)
  refine ⟨t4, ?_, s4, (tok_w hT' wSpi_l.1 wSpi_l.2 (hd_c (by decide))).1⟩
  rw [mStat, if_pos ((p_isW wSpi_l (by decide) hT' (hd_c (by decide))).mpr cw_spi), mSpirit, if_neg h3, e2, tB_o, e3, tB_o, e4, tB_o, k3, k4]
theorem p_bath {N : Nat → Int32} {w R : List Int32} {v : Int32} (hw : lets w) (h4 : w.length ≤ 4) (hv : zIn v (-20) 150) (h3 : ¬ N 4 = nI 4) (hS : ∀ q, q < zn (N 3) → ¬ (N (10 + 4 * q + 1) = nI w.length ∧ (N (10 + 4 * q + 0)).toInt64 = cw w)) (hB : ∀ q, q < zn (N 4) → ¬ (N (30 + 3 * q + 1) = nI w.length ∧ (N (30 + 3 * q + 0)).toInt64 = cw w))
    (hT : tl B L t (bT_ w v R)) (hR : hd kSp R = false) : ∃ t', mStat N B L t = .ok (t', aBath N (zn (N 4)) (cw w).toInt32 (nI w.length) v) ∧ tl B L t' R ∧ sKind B L t = 1 := by
  have hT' : tl B L t (wBat ++ (nI 32 :: (w ++ (nI 32 :: dgP [nI 32] v (nI 59 :: R))))) := hT
  have s1 := p_word wBat_l hT' (hd_c (by decide)) (sp_s (hd_let hw))
  obtain ⟨k1, k2, k3, k4⟩ := tok_w s1 hw.1 hw.2 (hd_c (by decide))
  obtain ⟨t2, e2, s2⟩ := p_new hw h4 hS hB s1 (hd_c (by decide)) (sp_s (hd_deg hv))
  obtain ⟨t3, e3, s3⟩ := p_deg hv (Or.inr rfl) s2 (hd_c (by decide)) (sp_n (hd_c (by decide)))
  obtain ⟨t4, e4, s4⟩ := p_end (P := False) (dP := inferInstance) id s3 (sp_n hR)
  refine ⟨t4, ?_, s4, (tok_w hT' wBat_l.1 wBat_l.2 (hd_c (by decide))).1⟩
  rw [mStat, if_neg (fun h => absurd ((p_isW wBat_l (by decide) hT' (hd_c (by decide))).mp h) (by rw [cw_bat]; decide)), if_pos ((p_isW wBat_l (by decide) hT' (hd_c (by decide))).mpr cw_bat), mBath, if_neg h3, e2, tB_o, e3, tB_o, e4, tB_o, k3, k4]
theorem p_tube {N : Nat → Int32} {w R : List Int32} {q b o l f : Nat} (hw : lets w) (hb : 1 ≤ b ∧ b ≤ 50) (ho : 1 ≤ o ∧ o ≤ 9) (hl : 10 ≤ l ∧ l ≤ 999) (hf : f ≤ 999) (h3 : ¬ N 5 = nI 8) (hq : q < zn (N 3)) (hq5 : zn (N 3) ≤ 5) (hN : N (10 + 4 * q + 1) = nI w.length ∧ (N (10 + 4 * q + 0)).toInt64 = cw w) (hn : ∀ z, z < q → ¬ (N (10 + 4 * z + 1) = nI w.length ∧ (N (10 + 4 * z + 0)).toInt64 = cw w))
    (hT : tl B L t (uT_ w b o l f R)) (hR : hd kSp R = false) : ∃ t', mStat N B L t = .ok (t', aTube N (zn (N 5)) (nI q) (nI b) (nI o) (nI l) (nI f)) ∧ tl B L t' R ∧ sKind B L t = 1 := by
  have hT' : tl B L t (wTub ++ (nI 32 :: (w ++ (nI 32 :: (dig b ++ (nI 32 :: (dig o ++ (nI 32 :: (dig l ++ (nI 32 :: (dig f ++ (nI 59 :: R))))))))))))  := hT
  have s1 := p_word wTub_l hT' (hd_c (by decide)) (sp_s (hd_let hw))
  obtain ⟨k1, k2, k3, k4⟩ := tok_w s1 hw.1 hw.2 (hd_c (by decide))
  have s2 := p_word hw s1 (hd_c (by decide)) (sp_s (hd_num (by omega)))
  have a1 : sUntil (fSp N B L (sNext B L t)) 0 (zn (N 3)) = nI q := sUntil_at _ _ q (Nat.zero_le _) (by omega) (by
    rw [fSp, decide_eq_true_iff, k3, k4]
    exact ⟨k1, hN⟩) (fun z _ hz => by
    rw [fSp, decide_eq_false_iff_not, k3, k4]
    exact fun h => hn z hz h.2)
  have e2 : tSp N B L (sNext B L t) = .ok (sNext B L (sNext B L t), nI q) := by
    rw [tSp, if_pos ⟨k1, by
      rw [a1]
      intro h
      have := congrArg Int32.toInt h
      rw [nI_toInt (by omega), show ((-1 : Int32)).toInt = -1 by decide] at this
      omega⟩, a1]
  obtain ⟨t3, e3, s3⟩ := p_num (l := 1) (h := 50) (by omega) hb.1 hb.2 (by decide) s2 (hd_c (by decide)) (sp_s (hd_num (by omega)))
  obtain ⟨t4, e4, s4⟩ := p_num (l := 1) (h := 9) (by omega) ho.1 ho.2 (by decide) s3 (hd_c (by decide)) (sp_s (hd_num (by omega)))
  obtain ⟨t5, e5, s5⟩ := p_num (l := 10) (h := 999) (by omega) hl.1 hl.2 (by decide) s4 (hd_c (by decide)) (sp_s (hd_num (by omega)))
  obtain ⟨t6, e6, s6⟩ := p_num (l := 0) (h := 999) (by omega) (Nat.zero_le _) hf (by decide) s5 (hd_c (by decide)) (sp_n (hd_c (by decide)))
  obtain ⟨t7, e7, s7⟩ := p_end (P := False) (dP := inferInstance) id s6 (sp_n hR)
  refine ⟨t7, ?_, s7, (tok_w hT' wTub_l.1 wTub_l.2 (hd_c (by decide))).1⟩
  have hW := p_isW (c := wd_tube) wTub_l (by decide) hT' (hd_c (by decide))
  rw [mStat, if_neg (fun h => absurd ((p_isW wTub_l (by decide) hT' (hd_c (by decide))).mp h) (by rw [cw_tub]; decide)), if_neg (fun h => absurd ((p_isW wTub_l (by decide) hT' (hd_c (by decide))).mp h) (by rw [cw_tub]; decide)), if_pos (hW.mpr cw_tub), mTube, if_neg h3, e2, tB_o, e3, tB_o, e4, tB_o, e5, tB_o, e6, tB_o, e7, tB_o]
theorem p_loop {N N' : Nat → Int32} {t' f : Nat} (e : mStat N B L t = .ok (t', N')) (hk : sKind B L t = 1) : mLoop B L (f + 1) N t = mLoop B L f N' t' := by
  rw [mLoop, if_neg (by rw [hk]; decide), e, tB_o]
theorem p_done {N : Nat → Int32} (hT : tl B L t []) : ∀ f, mLoop B L f N t = .ok (t, N)
  | 0 => rfl
  | f + 1 => by
    have h := hT.1
    rw [List.length_nil] at h
    rw [mLoop, if_pos (by rw [sKind, if_pos (by omega)])]
end

