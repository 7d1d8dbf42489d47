/-! ===== THE CLASS: A GALLERY CLEARED; NEW SPIRITS, BATHS, TUBES ===== -/
theorem zH.new {i : Ni} {a : Nat → Nat} {v l : Int32} (hv : zIn v (-20) 150) (hl : zIn l 1 20) (h : zNo i a) (hc : zCnt (i (a 0)) (aGal v l)) : zH i a (aGal v l) := by
  have e : ∀ w, w ≠ 0 → w ≠ 1 → w ≠ 6 → aGal v l w = nI 0 := fun w a b c => by rw [aGal, pk_un b, pk_un a, pk_un c]
  refine ⟨(aGal_ok hv hl).1, hc, fun s hs => ?_, fun s hs => ?_, fun q hq => ?_, ?_, fun s hs => ?_, h⟩
  · rw [e 3 (by omega) (by omega) (by omega), zn0] at hs; omega
  · rw [e 4 (by omega) (by omega) (by omega), zn0] at hs; omega
  · rw [e 5 (by omega) (by omega) (by omega), zn0] at hq; omega
  · rw [e 5 (by omega) (by omega) (by omega), e 8 (by omega) (by omega) (by omega), zn0]; rfl
  · rw [e 3 (by omega) (by omega) (by omega), zn0] at hs; omega
set_option maxHeartbeats 4000000 in
set_option maxRecDepth 20000 in
theorem c_X0_clear {E : Ev} {g : Sh} {i : Ni} {j : Nj} {K : Kp} {A0 : Nat} (h1 : gT g A0 = 1) (hK : K (.inl none) g (wA i A0 (upd (upd (upd (upd (upd (upd (upd (upd (i A0) 5 (nI 0)) 6 (nI 0)) 7 (nI 0)) 8 (nI 0)) 9 (nI 0)) 10 (nI 1)) 11 (-1)) 12 (nI 0))) j) : zCon E mX0_clear [.ref A0] g i j K := by
  refine zcon_of (by decide +kernel) rfl rfl (lo := [.ref A0]) rfl (fun X => ?_)
  refine r_aload_n qX0_clear_0 rfl ?_
  refine r_iconst (v := nI 0) qX0_clear_1 (by decide) ?_
  refine r_puti qX0_clear_2 fX0_46 (Or.inl rfl) rfl rfl rfl (by assumption) ?_
  refine r_aload_n qX0_clear_5 rfl ?_
  refine r_iconst (v := nI 0) qX0_clear_6 (by decide) ?_
  refine r_puti qX0_clear_7 fX0_49 (Or.inl rfl) rfl rfl rfl (by assumption) ?_
  simp only [wA_s, wA_wA]
  refine r_aload_n qX0_clear_10 rfl ?_
  refine r_iconst (v := nI 0) qX0_clear_11 (by decide) ?_
  refine r_puti qX0_clear_12 fX0_52 (Or.inl rfl) rfl rfl rfl (by assumption) ?_
  simp only [wA_s, wA_wA]
  refine r_aload_n qX0_clear_15 rfl ?_
  refine r_iconst (v := nI 0) qX0_clear_16 (by decide) ?_
  refine r_puti qX0_clear_17 fX0_55 (Or.inl rfl) rfl rfl rfl (by assumption) ?_
  simp only [wA_s, wA_wA]
  refine r_aload_n qX0_clear_20 rfl ?_
  refine r_iconst (v := nI 0) qX0_clear_21 (by decide) ?_
  refine r_puti qX0_clear_22 fX0_58 (Or.inl rfl) rfl rfl rfl (by assumption) ?_
  simp only [wA_s, wA_wA]
  refine r_aload_n qX0_clear_25 rfl ?_
  refine r_iconst (v := nI 1) qX0_clear_26 (by decide) ?_
  refine r_puti qX0_clear_27 fX0_33 (Or.inl rfl) rfl rfl rfl (by assumption) ?_
  simp only [wA_s, wA_wA]
  refine r_aload_n qX0_clear_30 rfl ?_
  refine r_iconst (v := (-1)) qX0_clear_31 (by decide) ?_
  refine r_puti qX0_clear_32 fX0_37 (Or.inl rfl) rfl rfl rfl (by assumption) ?_
  simp only [wA_s, wA_wA]
  refine r_aload_n qX0_clear_35 rfl ?_
  refine r_iconst (v := nI 0) qX0_clear_36 (by decide) ?_
  refine r_puti qX0_clear_37 fX0_61 (Or.inl rfl) rfl rfl rfl (by assumption) ?_
  simp only [wA_s, wA_wA]
  refine r_vret qX0_clear_40 rfl rfl rfl ?_
  exact hK
theorem sAdd_0 {f : Nat → Int32} : ∀ m, (∀ q, q < m → f q = nI 0) → sAdd f m = nI 0
  | 0, _ => rfl
  | m + 1, h => by rw [sAdd, sAdd_0 m (fun q hq => h q (by omega)), h m (by omega)]; decide
theorem zH.spirit {i i' : Ni} {a : Nat → Nat} {N : Nat → Int32} {p w l e : Int32} (h : zH i a N) (hz : zZr N) (hS : zn (N 3) < 5) (hn : zNx p w l) (he : zIn e 1 40) (m0 : i' (a 0) = upd (i (a 0)) 5 (nI (zn (N 3) + 1))) (m1 : i' (a 1) = upd (i (a 1)) (zn (N 3)) p) (m2 : i' (a 2) = upd (i (a 2)) (zn (N 3)) e) (m : ∀ c, 3 ≤ c → c < 30 → i' (a c) = i (a c)) : zH i' a (aSpirit N (zn (N 3)) w l e) := by
  have hO := h.1
  obtain ⟨hS5, -⟩ := hO.S5
  have hT8 := hO.T8.2
  have hB4 := hO.B4.2
  generalize hSS : zn (N 3) = S at *
  obtain ⟨c5, c6, c7, c8, c9, c10, c11, c12⟩ := h.cnt
  have en : ∀ q, q ≠ 3 → q ≠ 10 + 4 * S + 0 → q ≠ 10 + 4 * S + 1 → q ≠ 10 + 4 * S + 2 → aSpirit N S w l e q = N q := fun q a b c d => by rw [aSpirit, pk_un d, pk_un c, pk_un b, pk_un a]
  have e3 : aSpirit N S w l e 3 = nI (S + 1) := by rw [aSpirit, pk_un (by omega), pk_un (by omega), pk_un (by omega), pk_us]
  have z3 : zn (nI (S + 1)) = S + 1 := zn_nI (by omega)
  have e4 := en 4 (by omega) (by omega) (by omega) (by omega)
  have e5 := en 5 (by omega) (by omega) (by omega) (by omega)
  refine ⟨zOk_spirit hO hS5 hS he, ?_, fun s hs => ?_, fun s hs => ?_, fun q hq => ?_, ?_, fun s hs => ?_, fun z hz => ?_⟩
  · show zCnt (i' (a 0)) _
    rw [m0]
    exact ⟨by rw [pk_us, e3], by rw [pk_un (by decide), e4]; exact c6, by rw [pk_un (by decide), e5]; exact c7, by rw [pk_un (by decide), en 2 (by omega) (by omega) (by omega) (by omega)]; exact c8, by rw [pk_un (by decide), en 0 (by omega) (by omega) (by omega) (by omega)]; exact c9, by rw [pk_un (by decide), en 1 (by omega) (by omega) (by omega) (by omega)]; exact c10, by rw [pk_un (by decide), en 6 (by omega) (by omega) (by omega) (by omega)]; exact c11, by rw [pk_un (by decide), en 7 (by omega) (by omega) (by omega) (by omega)]; exact c12⟩
  · rw [e3, z3] at hs
    show i' (a 2) s = _ ∧ zNx (i' (a 1) s) _ _
    rw [m1, m2]
    by_cases hsS : s = S
    · subst hsS
      rw [pk_us, pk_us, aSpirit, pk_us, pk_un (by omega), pk_un (by omega), pk_us, pk_un (by omega), pk_us]
      exact ⟨rfl, hn⟩
    · rw [pk_un hsS, pk_un hsS, en _ (by omega) (by omega) (by omega) (by omega), en _ (by omega) (by omega) (by omega) (by omega), en _ (by omega) (by omega) (by omega) (by omega)]
      exact h.sp (by omega)
  · rw [e4] at hs
    show i' (a 4) s = _ ∧ zNx (i' (a 3) s) _ _
    rw [m 4 (by omega) (by omega), m 3 (by omega) (by omega), en _ (by omega) (by omega) (by omega) (by omega), en _ (by omega) (by omega) (by omega) (by omega), en _ (by omega) (by omega) (by omega) (by omega)]
    exact h.ba hs
  · rw [e5] at hq
    obtain ⟨s, s1, s2, s3⟩ := hO.S hq
    have eN : ∀ z, z < 21 → aSpirit N S w l e (42 + 21 * q + z) = N (42 + 21 * q + z) := fun z hz => en _ (by omega) (by omega) (by omega) (by omega)
    refine ⟨?_, ?_⟩
    · show tH (i' (a (6 + 3 * q))) (i' (a (7 + 3 * q))) (i' (a (8 + 3 * q))) _ q
      rw [m (6 + 3 * q) (by omega) (by omega), m (7 + 3 * q) (by omega) (by omega), m (8 + 3 * q) (by omega) (by omega)]
      exact (h.tu hq).move (hO.many hq).2 eN (by rw [s1, zn_nI (by omega)]; exact en _ (by omega) (by omega) (by omega) (by omega))
    · show i' (a (6 + 3 * q)) 5 = i' (a 1) (zn (aSpirit N S w l e (42 + 21 * q + 0)))
      rw [m (6 + 3 * q) (by omega) (by omega), m1, eN 0 (by omega), s1, zn_nI (by omega), pk_un (by omega)]
      have := h.na hq
      rw [s1, zn_nI (by omega)] at this
      exact this
  · show sAdd (fun q => i' (a (6 + 3 * q)) 14) (zn (aSpirit N S w l e 5)) = aSpirit N S w l e 8
    rw [e5, en 8 (by omega) (by omega) (by omega) (by omega), ← h.giv]
    exact sAdd_c _ (fun q hq => by rw [m (6 + 3 * q) (by omega) (by omega)])
  · rw [e3, z3] at hs
    show sAdd (fun q => if aSpirit N S w l e (42 + 21 * q + 0) = nI s then i' (a (6 + 3 * q)) 15 else nI 0) (zn (aSpirit N S w l e 5)) = aSpirit N S w l e (10 + 4 * s + 3)
    rw [e5, en (10 + 4 * s + 3) (by omega) (by omega) (by omega) (by omega)]
    by_cases hsS : s = S
    · subst hsS
      rw [hz.2 s (by omega) (by omega)]
      refine sAdd_0 _ (fun q hq => ?_)
      obtain ⟨t, t1, t2, t3⟩ := hO.S hq
      rw [en _ (by omega) (by omega) (by omega) (by omega), t1, if_neg (fun hh => by have := (nI_eq (by omega) (by omega)).mp hh; omega)]
    · rw [← h.los (show s < zn (N 3) by omega)]
      exact sAdd_c _ (fun q hq => by rw [m (6 + 3 * q) (by omega) (by omega), en _ (by omega) (by omega) (by omega) (by omega)])
  · show i' (a (6 + 3 * z)) 0 = nI z
    rw [m (6 + 3 * z) (by omega) (by omega)]
    exact h.no z hz
theorem zH.nbath {i i' : Ni} {a : Nat → Nat} {N : Nat → Int32} {p w l e : Int32} (h : zH i a N) (hS : zn (N 4) < 4) (hn : zNx p w l) (he : zIn e (-20) 150) (m0 : i' (a 0) = upd (i (a 0)) 6 (nI (zn (N 4) + 1))) (m1 : i' (a 3) = upd (i (a 3)) (zn (N 4)) p) (m2 : i' (a 4) = upd (i (a 4)) (zn (N 4)) e) (m : ∀ c, c ≠ 0 → c ≠ 3 → c ≠ 4 → c < 30 → i' (a c) = i (a c)) : zH i' a (aBath N (zn (N 4)) w l e) := by
  have hO := h.1
  obtain ⟨hS5, -⟩ := hO.B4
  have hT8 := hO.T8.2
  have hB4 := hO.S5.2
  generalize hSS : zn (N 4) = S at *
  obtain ⟨c5, c6, c7, c8, c9, c10, c11, c12⟩ := h.cnt
  have en : ∀ q, q ≠ 4 → q ≠ 30 + 3 * S + 0 → q ≠ 30 + 3 * S + 1 → q ≠ 30 + 3 * S + 2 → aBath N S w l e q = N q := fun q a b c d => by rw [aBath, pk_un d, pk_un c, pk_un b, pk_un a]
  have e4 : aBath N S w l e 4 = nI (S + 1) := by rw [aBath, pk_un (by omega), pk_un (by omega), pk_un (by omega), pk_us]
  have z4 : zn (nI (S + 1)) = S + 1 := zn_nI (by omega)
  have e3 := en 3 (by omega) (by omega) (by omega) (by omega)
  have e5 := en 5 (by omega) (by omega) (by omega) (by omega)
  refine ⟨zOk_newbath hO hS5 hS he, ?_, fun s hs => ?_, fun s hs => ?_, fun q hq => ?_, ?_, fun s hs => ?_, fun z hz => ?_⟩
  · show zCnt (i' (a 0)) _
    rw [m0]
    exact ⟨by rw [pk_un (by decide), e3]; exact c5, by rw [pk_us, e4], by rw [pk_un (by decide), e5]; exact c7, by rw [pk_un (by decide), en 2 (by omega) (by omega) (by omega) (by omega)]; exact c8, by rw [pk_un (by decide), en 0 (by omega) (by omega) (by omega) (by omega)]; exact c9, by rw [pk_un (by decide), en 1 (by omega) (by omega) (by omega) (by omega)]; exact c10, by rw [pk_un (by decide), en 6 (by omega) (by omega) (by omega) (by omega)]; exact c11, by rw [pk_un (by decide), en 7 (by omega) (by omega) (by omega) (by omega)]; exact c12⟩
  · rw [e3] at hs
    show i' (a 2) s = _ ∧ zNx (i' (a 1) s) _ _
    rw [m 2 (by omega) (by omega) (by omega) (by omega), m 1 (by omega) (by omega) (by omega) (by omega), en _ (by omega) (by omega) (by omega) (by omega), en _ (by omega) (by omega) (by omega) (by omega), en _ (by omega) (by omega) (by omega) (by omega)]
    exact h.sp hs
  · rw [e4, z4] at hs
    show i' (a 4) s = _ ∧ zNx (i' (a 3) s) _ _
    rw [m1, m2]
    by_cases hsS : s = S
    · subst hsS
      rw [pk_us, pk_us, aBath, pk_us, pk_un (by omega), pk_un (by omega), pk_us, pk_un (by omega), pk_us]
      exact ⟨rfl, hn⟩
    · rw [pk_un hsS, pk_un hsS, en _ (by omega) (by omega) (by omega) (by omega), en _ (by omega) (by omega) (by omega) (by omega), en _ (by omega) (by omega) (by omega) (by omega)]
      exact h.ba (by omega)
  · rw [e5] at hq
    obtain ⟨s, s1, s2, s3⟩ := hO.S hq
    have eN : ∀ z, z < 21 → aBath N S w l e (42 + 21 * q + z) = N (42 + 21 * q + z) := fun z hz => en _ (by omega) (by omega) (by omega) (by omega)
    refine ⟨?_, ?_⟩
    · show tH (i' (a (6 + 3 * q))) (i' (a (7 + 3 * q))) (i' (a (8 + 3 * q))) _ q
      rw [m (6 + 3 * q) (by omega) (by omega) (by omega) (by omega), m (7 + 3 * q) (by omega) (by omega) (by omega) (by omega), m (8 + 3 * q) (by omega) (by omega) (by omega) (by omega)]
      exact (h.tu hq).move (hO.many hq).2 eN (by rw [s1, zn_nI (by omega)]; exact en _ (by omega) (by omega) (by omega) (by omega))
    · show i' (a (6 + 3 * q)) 5 = i' (a 1) (zn (aBath N S w l e (42 + 21 * q + 0)))
      rw [m (6 + 3 * q) (by omega) (by omega) (by omega) (by omega), m 1 (by omega) (by omega) (by omega) (by omega), eN 0 (by omega)]
      exact h.na hq
  · show sAdd (fun q => i' (a (6 + 3 * q)) 14) (zn (aBath N S w l e 5)) = aBath N S w l e 8
    rw [e5, en 8 (by omega) (by omega) (by omega) (by omega), ← h.giv]
    exact sAdd_c _ (fun q hq => by rw [m (6 + 3 * q) (by omega) (by omega) (by omega) (by omega)])
  · rw [e3] at hs
    show sAdd (fun q => if aBath N S w l e (42 + 21 * q + 0) = nI s then i' (a (6 + 3 * q)) 15 else nI 0) (zn (aBath N S w l e 5)) = aBath N S w l e (10 + 4 * s + 3)
    rw [e5, en (10 + 4 * s + 3) (by omega) (by omega) (by omega) (by omega), ← h.los hs]
    exact sAdd_c _ (fun q hq => by rw [m (6 + 3 * q) (by omega) (by omega) (by omega) (by omega), en _ (by omega) (by omega) (by omega) (by omega)])
  · show i' (a (6 + 3 * z)) 0 = nI z
    rw [m (6 + 3 * z) (by omega) (by omega) (by omega) (by omega)]
    exact h.no z hz
theorem zH.ntube {i i' : Ni} {a : Nat → Nat} {N : Nat → Int32} {q0 : Nat} {b o l f : Int32} (h : zH i a N) (hz : zZr N) (hT : zn (N 5) < 8) (hq0 : q0 < zn (N 3)) (hb : zIn b 1 50) (ho : zIn o 1 9) (hl : zIn l 10 999) (hf : zIn f 0 999) (m0 : i' (a 0) = upd (i (a 0)) 7 (nI (zn (N 5) + 1)))
    (mu : i' (a (6 + 3 * zn (N 5))) = upd (upd (upd (upd (upd (upd (upd (upd (upd (upd (upd (upd (upd (upd (i (a (6 + 3 * zn (N 5)))) 7 b) 8 o) 9 l) 10 f) 14 f) 11 (nI 10 * N 0)) 3 (nI 0)) 12 (-1)) 13 (nI 0)) 15 (nI 0)) 16 (nI 0)) 4 (nI q0)) 5 (i (a 1) q0)) 6 (i (a 2) q0))
    (m : ∀ c, c ≠ 0 → c ≠ 6 + 3 * zn (N 5) → c < 30 → i' (a c) = i (a c)) : zH i' a (aTube N (zn (N 5)) (nI q0) b o l f) := by
  have hO := h.1
  obtain ⟨hT5, -⟩ := hO.T8
  have hS5 := hO.S5.2
  have hB4 := hO.B4.2
  generalize hTT : zn (N 5) = T at *
  obtain ⟨c5, c6, c7, c8, c9, c10, c11, c12⟩ := h.cnt
  have e : ∀ w, w ≠ 5 → w ≠ 8 → (w < 42 + 21 * T ∨ 42 + 21 * T + 8 ≤ w ∨ w = 42 + 21 * T + 6) → aTube N T (nI q0) b o l f w = N w := fun w => aTube_n
  have e5 : aTube N T (nI q0) b o l f 5 = nI (T + 1) := by
    rw [aTube, pk_un (by omega), pk_un (by omega), pk_un (by omega), pk_un (by omega), pk_un (by omega), pk_un (by omega), pk_un (by omega), pk_un (by omega), pk_us]
  have e8 : aTube N T (nI q0) b o l f 8 = N 8 + f := by rw [aTube, pk_us]
  have z5 : zn (nI (T + 1)) = T + 1 := zn_nI (by omega)
  have e3 := e 3 (by omega) (by omega) (by omega)
  have e4 := e 4 (by omega) (by omega) (by omega)
  obtain ⟨zz1, zz2⟩ := hz.1 T (by omega) hT
  have t0 : aTube N T (nI q0) b o l f (42 + 21 * T + 0) = nI q0 := by
    rw [aTube, pk_un (by omega), pk_un (by omega), pk_un (by omega), pk_un (by omega), pk_un (by omega), pk_un (by omega), pk_un (by omega), pk_us]
  refine ⟨zOk_tube hO hz hT5 hT hq0 hb ho hl hf, ?_, fun s hs => ?_, fun s hs => ?_, fun q hq => ?_, ?_, fun s hs => ?_, fun z hz => ?_⟩
  · show zCnt (i' (a 0)) _
    rw [m0]
    exact ⟨by rw [pk_un (by decide), e3]; exact c5, by rw [pk_un (by decide), e4]; exact c6, by rw [pk_us, e5], by rw [pk_un (by decide), e 2 (by omega) (by omega) (by omega)]; exact c8, by rw [pk_un (by decide), e 0 (by omega) (by omega) (by omega)]; exact c9, by rw [pk_un (by decide), e 1 (by omega) (by omega) (by omega)]; exact c10, by rw [pk_un (by decide), e 6 (by omega) (by omega) (by omega)]; exact c11, by rw [pk_un (by decide), e 7 (by omega) (by omega) (by omega)]; exact c12⟩
  · rw [e3] at hs
    show i' (a 2) s = _ ∧ zNx (i' (a 1) s) _ _
    rw [m 2 (by omega) (by omega) (by omega), m 1 (by omega) (by omega) (by omega), e _ (by omega) (by omega) (by omega), e _ (by omega) (by omega) (by omega), e _ (by omega) (by omega) (by omega)]
    exact h.sp hs
  · rw [e4] at hs
    show i' (a 4) s = _ ∧ zNx (i' (a 3) s) _ _
    rw [m 4 (by omega) (by omega) (by omega), m 3 (by omega) (by omega) (by omega), e _ (by omega) (by omega) (by omega), e _ (by omega) (by omega) (by omega), e _ (by omega) (by omega) (by omega)]
    exact h.ba hs
  · rw [e5, z5] at hq
    by_cases hqT : q = T
    · subst hqT
      have em : sMany (aTube N q (nI q0) b o l f) q = 0 := by rw [sMany, e _ (by omega) (by omega) (by omega), zz2, zn0]
      refine ⟨?_, ?_⟩
      · show tH (i' (a (6 + 3 * q))) (i' (a (7 + 3 * q))) (i' (a (8 + 3 * q))) _ q
        rw [mu]
        refine ⟨?_, ?_, ?_, ?_, ?_, ?_, ?_, ?_, ?_, ?_, ?_, fun p hp => by omega⟩
        · simp (disch := decide) only [pk_us, pk_un]; exact h.no q (by omega)
        · simp (disch := decide) only [pk_us, pk_un]; rw [e _ (by omega) (by omega) (by omega)]; exact zz2.symm
        · simp (disch := decide) only [pk_us, pk_un]; exact t0.symm
        · rw [pk_us, t0, zn_nI (by omega), e _ (by omega) (by omega) (by omega)]; exact (h.sp hq0).1
        · simp (disch := decide) only [pk_us, pk_un]; rw [aTube, pk_un (by omega), pk_un (by omega), pk_un (by omega), pk_un (by omega), pk_un (by omega), pk_un (by omega), pk_us]
        · simp (disch := decide) only [pk_us, pk_un]; rw [aTube, pk_un (by omega), pk_un (by omega), pk_un (by omega), pk_un (by omega), pk_un (by omega), pk_us]
        · simp (disch := decide) only [pk_us, pk_un]; rw [aTube, pk_un (by omega), pk_un (by omega), pk_un (by omega), pk_un (by omega), pk_us]
        · simp (disch := decide) only [pk_us, pk_un]; rw [aTube, pk_un (by omega), pk_un (by omega), pk_un (by omega), pk_us]
        · simp (disch := decide) only [pk_us, pk_un]; rw [aTube, pk_un (by omega), pk_un (by omega), pk_us]
        · simp (disch := decide) only [pk_us, pk_un]; rw [aTube, pk_un (by omega), pk_us]
        · simp (disch := decide) only [pk_us, pk_un]; rw [e _ (by omega) (by omega) (by omega)]; exact zz1.symm
      · show i' (a (6 + 3 * q)) 5 = i' (a 1) (zn (aTube N q (nI q0) b o l f (42 + 21 * q + 0)))
        rw [mu, t0, zn_nI (by omega), m 1 (by omega) (by omega) (by omega)]
        simp (disch := decide) only [pk_us, pk_un]
    · have hq2 : q < zn (N 5) := by omega
      obtain ⟨s, s1, s2, s3⟩ := hO.S hq2
      have eN : ∀ z, z < 21 → aTube N T (nI q0) b o l f (42 + 21 * q + z) = N (42 + 21 * q + z) := fun z hz => e _ (by omega) (by omega) (by omega)
      refine ⟨?_, ?_⟩
      · show tH (i' (a (6 + 3 * q))) (i' (a (7 + 3 * q))) (i' (a (8 + 3 * q))) _ q
        rw [m (6 + 3 * q) (by omega) (by omega) (by omega), m (7 + 3 * q) (by omega) (by omega) (by omega), m (8 + 3 * q) (by omega) (by omega) (by omega)]
        exact (h.tu hq2).move (hO.many hq2).2 eN (by rw [s1, zn_nI (by omega)]; exact e _ (by omega) (by omega) (by omega))
      · show i' (a (6 + 3 * q)) 5 = i' (a 1) (zn (aTube N T (nI q0) b o l f (42 + 21 * q + 0)))
        rw [m (6 + 3 * q) (by omega) (by omega) (by omega), m 1 (by omega) (by omega) (by omega), eN 0 (by omega)]
        exact h.na hq2
  · show sAdd (fun q => i' (a (6 + 3 * q)) 14) (zn (aTube N T (nI q0) b o l f 5)) = aTube N T (nI q0) b o l f 8
    rw [e5, z5, e8, ← h.giv, hTT, sAdd, sAdd_c (f := fun q => i (a (6 + 3 * q)) 14) T (fun q hq => by rw [m (6 + 3 * q) (by omega) (by omega) (by omega)]), mu]
    simp (disch := decide) only [pk_us, pk_un]
  · rw [e3] at hs
    show sAdd (fun q => if aTube N T (nI q0) b o l f (42 + 21 * q + 0) = nI s then i' (a (6 + 3 * q)) 15 else nI 0) (zn (aTube N T (nI q0) b o l f 5)) = aTube N T (nI q0) b o l f (10 + 4 * s + 3)
    rw [e5, z5, e _ (by omega) (by omega) (by omega), ← h.los hs, hTT, sAdd, sAdd_c (f := fun q => if N (42 + 21 * q + 0) = nI s then i (a (6 + 3 * q)) 15 else nI 0) T (fun q hq => by rw [m (6 + 3 * q) (by omega) (by omega) (by omega), e _ (by omega) (by omega) (by omega)]), mu]
    have e15 : ∀ P : Prop, ∀ [Decidable P], (if P then (nI 0 : Int32) else nI 0) = nI 0 := fun P _ => ite_self _
    simp (disch := decide) only [pk_us, pk_un, e15, add_nI0]
  · show i' (a (6 + 3 * z)) 0 = nI z
    by_cases hzT : z = T
    · subst hzT
      rw [mu]
      simp (disch := decide) only [pk_us, pk_un]
      exact h.no z hz
    · rw [m (6 + 3 * z) (by omega) (by omega) (by omega)]
      exact h.no z hz


