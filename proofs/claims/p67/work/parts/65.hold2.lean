/-! ===== THE CLASS: POINTS, THE THUMB, THE ROOM ===== -/
def zOu (a : Nat → Nat) (i' i : Ni) : Prop := ∀ r, (∀ c, c < 30 → r ≠ a c) → i' r = i r
theorem zOu.refl {a : Nat → Nat} {i : Ni} : zOu a i i := fun _ _ => rfl
theorem zOu.trans {a : Nat → Nat} {i i' i'' : Ni} (h : zOu a i'' i') (h2 : zOu a i' i) : zOu a i'' i := fun r hr => (h r hr).trans (h2 r hr)
theorem zOu.w {a : Nat → Nat} {i : Ni} {c : Nat} {F : Nat → Int32} (hc : c < 30) : zOu a (wA i (a c) F) i := fun _ hr => wA_n (hr c hc)
theorem zH.top {i i' : Ni} {a : Nat → Nat} {N N' : Nat → Int32} (h : zH i a N) (hO' : zOk N') (e : ∀ w, w ≠ 0 → w ≠ 2 → w ≠ 6 → w ≠ 7 → w ≠ 9 → N' w = N w) (cnt : zCnt (i' (a 0)) N') (m : ∀ c, 1 ≤ c → c < 30 → i' (a c) = i (a c)) : zH i' a N' := by
  have hO := h.1
  have hT8 := hO.T8.2
  have hS5 := hO.S5.2
  have hB4 := hO.B4.2
  have e3 : N' 3 = N 3 := e 3 (by omega) (by omega) (by omega) (by omega) (by omega)
  have e4 : N' 4 = N 4 := e 4 (by omega) (by omega) (by omega) (by omega) (by omega)
  have e5 : N' 5 = N 5 := e 5 (by omega) (by omega) (by omega) (by omega) (by omega)
  have e8 : N' 8 = N 8 := e 8 (by omega) (by omega) (by omega) (by omega) (by omega)
  have ex : ∀ w, 10 ≤ w → N' w = N w := fun w hw => e w (by omega) (by omega) (by omega) (by omega) (by omega)
  refine ⟨hO', cnt, fun s hs => ?_, fun s hs => ?_, fun q hq => ?_, ?_, fun s hs => ?_, fun z hz => ?_⟩
  · rw [e3] at hs
    show i' (a 2) s = _ ∧ zNx (i' (a 1) s) _ _
    rw [m 2 (by omega) (by omega), m 1 (by omega) (by omega), ex _ (by omega), ex _ (by omega), ex _ (by omega)]
    exact h.sp hs
  · rw [e4] at hs
    show i' (a 4) s = _ ∧ zNx (i' (a 3) s) _ _
    rw [m 4 (by omega) (by omega), m 3 (by omega) (by omega), ex _ (by omega), ex _ (by omega), ex _ (by omega)]
    exact h.ba hs
  · rw [e5] at hq
    refine ⟨?_, ?_⟩
    · show tH (i' (a (6 + 3 * q))) (i' (a (7 + 3 * q))) (i' (a (8 + 3 * q))) N' q
      rw [m (6 + 3 * q) (by omega) (by omega), m (7 + 3 * q) (by omega) (by omega), m (8 + 3 * q) (by omega) (by omega)]
      exact (h.tu hq).move (hO.many hq).2 (fun w _ => ex _ (by omega)) (ex _ (by omega))
    · show i' (a (6 + 3 * q)) 5 = i' (a 1) (zn (N' (42 + 21 * q + 0)))
      rw [m (6 + 3 * q) (by omega) (by omega), m 1 (by omega) (by omega), ex _ (by omega)]
      exact h.na hq
  · show sAdd (fun q => i' (a (6 + 3 * q)) 14) (zn (N' 5)) = N' 8
    rw [e5, e8, ← h.giv]
    exact sAdd_c _ (fun q hq => by rw [m (6 + 3 * q) (by omega) (by omega)])
  · rw [e3] at hs
    show sAdd (fun q => if N' (42 + 21 * q + 0) = nI s then i' (a (6 + 3 * q)) 15 else nI 0) (zn (N' 5)) = N' (10 + 4 * s + 3)
    rw [e5, ex _ (by omega), ← h.los hs]
    exact sAdd_c _ (fun q hq => by rw [m (6 + 3 * q) (by omega) (by omega), ex _ (by omega)])
  · show i' (a (6 + 3 * z)) 0 = nI z
    rw [m (6 + 3 * z) (by omega) (by omega)]
    exact h.no z hz
theorem zH.ou {i i' : Ni} {a : Nat → Nat} {N : Nat → Int32} (h : zH i a N) (m : ∀ c, c < 30 → i' (a c) = i (a c)) : zH i' a N :=
  h.top h.1 (fun _ _ _ _ _ _ => rfl) (by rw [m 0 (by omega)]; exact h.cnt) (fun c _ hc => m c hc)
theorem zH.room {g : Sh} {i : Ni} {a : Nat → Nat} {N : Nat → Int32} {v : Int32} (hC : zC g a) (h : zH i a N) (hv : zIn v (-20) 150) : zH (wA i (a 0) (upd (i (a 0)) 9 v)) a (upd N 0 v) := by
  obtain ⟨c5, c6, c7, c8, c9, c10, c11, c12⟩ := h.cnt
  refine h.top (zOk_room h.1 hv) (fun w h0 _ _ _ _ => pk_un h0) ?_ (fun c c1 c2 => wA_n (hC.inj c2 (by omega) (by omega)))
  rw [wA_s]
  refine ⟨?_, ?_, ?_, ?_, ?_, ?_, ?_, ?_⟩ <;> simp (disch := decide) only [pk_us, pk_un] <;> assumption
theorem zH.thumb {g : Sh} {i : Ni} {a : Nat → Nat} {N : Nat → Int32} {k : Nat} {m : Int32} (hC : zC g a) (h : zH i a N) (hk : k < zn (N 5)) (hm : zIn m 1 60) : zH (wA i (a 0) (upd (upd (i (a 0)) 11 (nI k)) 12 m)) a (aThumb N k m) := by
  obtain ⟨c5, c6, c7, c8, c9, c10, c11, c12⟩ := h.cnt
  refine h.top (zOk_thumb h.1 hk hm) (fun w _ _ h6 h7 _ => by rw [aThumb, pk_un h7, pk_un h6]) ?_ (fun c c1 c2 => wA_n (hC.inj c2 (by omega) (by omega)))
  rw [wA_s, aThumb]
  refine ⟨?_, ?_, ?_, ?_, ?_, ?_, ?_, ?_⟩ <;> simp (disch := decide) only [pk_us, pk_un] <;> assumption
theorem zH.min {g : Sh} {i : Ni} {a : Nat → Nat} {N : Nat → Int32} (hC : zC g a) (h : zH i a N) : zH (wA i (a 0) (upd (i (a 0)) 8 (N 2 + nI 1))) a (upd N 2 (N 2 + nI 1)) := by
  obtain ⟨c5, c6, c7, c8, c9, c10, c11, c12⟩ := h.cnt
  refine h.top (h.1.up (Or.inl rfl)) (fun w _ h2 _ _ _ => pk_un h2) ?_ (fun c c1 c2 => wA_n (hC.inj c2 (by omega) (by omega)))
  rw [wA_s]
  refine ⟨?_, ?_, ?_, ?_, ?_, ?_, ?_, ?_⟩ <;> simp (disch := decide) only [pk_us, pk_un] <;> assumption
theorem sPut_d {N : Nat → Int32} {k : Nat} : sDeg (sPut N k) k (sMany N k) = N (30 + 3 * zn (N (42 + 21 * k + 7)) + 2) := by
  rw [sDeg, sPut, pk_un (by omega), pk_un (by omega), pk_us]
theorem sPut_h {N : Nat → Int32} (h : zOk N) {k : Nat} (hk : k < zn (N 5)) : sHgt (sPut N k) k (sMany N k) = sHigh N k := by
  rw [sHgt, sPut, pk_un (by omega), pk_us, sHigh_up h hk (by omega)]
theorem zH.put {g : Sh} {i i' : Ni} {a : Nat → Nat} {N : Nat → Int32} {k : Nat} (hC : zC g a) (h : zH i a N) (hk : k < zn (N 5)) (h0 : sMark N k = 0) (iu : i' (a (6 + 3 * k)) = upd (i (a (6 + 3 * k))) 3 (nI (sMany N k + 1))) (id_ : i' (a (7 + 3 * k)) = upd (i (a (7 + 3 * k))) (sMany N k) (N (30 + 3 * zn (N (42 + 21 * k + 7)) + 2))) (ih : i' (a (8 + 3 * k)) = upd (i (a (8 + 3 * k))) (sMany N k) (sHigh N k))
    (io : ∀ r, r ≠ a (6 + 3 * k) → r ≠ a (7 + 3 * k) → r ≠ a (8 + 3 * k) → i' r = i r) : zH i' a (sPut N k) := by
  obtain ⟨f0, f3, f4, f6, f7, f8, f9, f10, f11, f12, f13, fP⟩ := h.tu hk
  obtain ⟨s, s1, s2, s3⟩ := h.1.S hk
  obtain ⟨b0, hb0, hb4, hm5⟩ := sMark_0 h.1 hk h0
  have h8 := h.1.k8 hk
  have hS5 := h.1.S5.2
  have e : ∀ w, (w < 42 + 21 * k + 8 ∨ 42 + 21 * k + 21 ≤ w) → sPut N k w = N w := fun w hw => sPut_n (by omega) (by omega) (by omega)
  have mm : ∀ c, c < 30 → c ≠ 6 + 3 * k → c ≠ 7 + 3 * k → c ≠ 8 + 3 * k → i' (a c) = i (a c) := fun c hc h1 h2 h3 => io _ (hC.inj hc (by omega) h1) (hC.inj hc (by omega) h2) (hC.inj hc (by omega) h3)
  have em : sPut N k (42 + 21 * k + 8) = nI (sMany N k + 1) := by rw [sPut, pk_us]
  have em2 : sMany (sPut N k) k = sMany N k + 1 := by rw [sMany, em, zn_nI (by omega)]
  refine h.step (g := g) (k := k) (y := nI 0) (e := nI 0) (zOk_put h.1 hk h0) hk (e _ (by omega)) (e _ (by omega)) (e _ (by omega)) (by rw [e _ (by omega), add_nI0]) (fun s hs => ⟨e _ (by omega), e _ (by omega), e _ (by omega)⟩) (fun s hs => by rw [e _ (by omega)]; exact sHad_0.symm) (fun q a b => e _ (by omega)) (fun q hq hqk z hz => e _ (by omega)) (e _ (by omega)) (zCnt.to h.cnt (mm 0 (by omega) (by omega) (by omega) (by omega)) (fun z hz => e _ (by omega))) (fun c hc _ c1 c2 c3 => mm c hc c1 c2 c3) ?_ ?_ ?_ ?_
  · rw [iu, id_, ih]
    refine ⟨by rw [pk_un (by decide)]; exact f0, by rw [pk_us, em], by rw [pk_un (by decide), e _ (by omega)]; exact f4, by rw [pk_un (by decide), e (42 + 21 * k + 0) (by omega), s1, zn_nI (by omega), e _ (by omega), f6, s1, zn_nI (by omega)], by rw [pk_un (by decide), e _ (by omega)]; exact f7, by rw [pk_un (by decide), e _ (by omega)]; exact f8, by rw [pk_un (by decide), e _ (by omega)]; exact f9, by rw [pk_un (by decide), e _ (by omega)]; exact f10, by rw [pk_un (by decide), e _ (by omega)]; exact f11, by rw [pk_un (by decide), e _ (by omega)]; exact f12, by rw [pk_un (by decide), e _ (by omega)]; exact f13, fun p hp => ?_⟩
    rw [em2] at hp
    by_cases hpm : p = sMany N k
    · subst hpm
      rw [pk_us, pk_us, sPut_d, sPut_h h.1 hk]
      exact ⟨rfl, rfl⟩
    · rw [pk_un hpm, pk_un hpm, show sDeg (sPut N k) k p = sDeg N k p from sPut_n (by omega) (by omega) (by omega), show sHgt (sPut N k) k p = sHgt N k p from sPut_n (by omega) (by omega) (by omega)]
      exact fP p (by omega)
  · rw [iu, pk_un (by decide)]
  · rw [iu, pk_un (by decide), add_nI0]
  · rw [iu, pk_un (by decide), add_nI0]
theorem sErase_d {N : Nat → Int32} {k q : Nat} : ∀ p, p < sMany N k - 1 → sDeg (sErase N k q) k p = sDeg N k (if p < q then p else p + 1) ∧ sHgt (sErase N k q) k p = sHgt N k (if p < q then p else p + 1) := by
  intro p hp
  have a1 : sDeg (sErase N k q) k p = sDeg (sDown N k q (sMany N k - (q + 1))) k p := by rw [sDeg, sErase, pk_un (by omega)]; rfl
  have a2 : sHgt (sErase N k q) k p = sHgt (sDown N k q (sMany N k - (q + 1))) k p := by rw [sHgt, sErase, pk_un (by omega)]; rfl
  rw [a1, a2]
  split
  · exact ⟨sDown_n _ (by omega), sDown_n _ (by omega)⟩
  · exact sDown_d _ p (by omega) (by omega)
theorem sPull_at {f F : Nat → Int32} {q m p : Nat} (h : ∀ z, z < m → f z = F z) (hp : p < m - 1) : sPull f q (m - 1) p = F (if p < q then p else p + 1) := by
  rw [sPull]
  by_cases h2 : p < q
  · rw [if_neg (by omega), if_pos h2]; exact h p (by omega)
  · rw [if_pos (by omega), if_neg h2]; exact h (p + 1) (by omega)
theorem zH.erase {g : Sh} {i i' : Ni} {a : Nat → Nat} {N : Nat → Int32} {k q : Nat} (hC : zC g a) (h : zH i a N) (hk : k < zn (N 5)) (hq : q < sMany N k) (iu : i' (a (6 + 3 * k)) = upd (i (a (6 + 3 * k))) 3 (nI (sMany N k - 1))) (id_ : i' (a (7 + 3 * k)) = sPull (i (a (7 + 3 * k))) q (sMany N k - 1)) (ih : i' (a (8 + 3 * k)) = sPull (i (a (8 + 3 * k))) q (sMany N k - 1))
    (io : ∀ r, r ≠ a (6 + 3 * k) → r ≠ a (7 + 3 * k) → r ≠ a (8 + 3 * k) → i' r = i r) : zH i' a (sErase N k q) := by
  obtain ⟨f0, f3, f4, f6, f7, f8, f9, f10, f11, f12, f13, fP⟩ := h.tu hk
  obtain ⟨s, s1, s2, s3⟩ := h.1.S hk
  obtain ⟨hm, hm6⟩ := h.1.many hk
  have h8 := h.1.k8 hk
  have hS5 := h.1.S5.2
  have e : ∀ w, (w < 42 + 21 * k + 8 ∨ 42 + 21 * k + 21 ≤ w) → sErase N k q w = N w := fun w hw => sErase_n hm6 hq hw
  have mm : ∀ c, c < 30 → c ≠ 6 + 3 * k → c ≠ 7 + 3 * k → c ≠ 8 + 3 * k → i' (a c) = i (a c) := fun c hc h1 h2 h3 => io _ (hC.inj hc (by omega) h1) (hC.inj hc (by omega) h2) (hC.inj hc (by omega) h3)
  have em : sErase N k q (42 + 21 * k + 8) = nI (sMany N k - 1) := by rw [sErase, pk_us]
  have em2 : sMany (sErase N k q) k = sMany N k - 1 := by rw [sMany, em, zn_nI (by omega)]
  refine h.step (g := g) (k := k) (y := nI 0) (e := nI 0) (zOk_erase h.1 hk hq) hk (e _ (by omega)) (e _ (by omega)) (e _ (by omega)) (by rw [e _ (by omega), add_nI0]) (fun s hs => ⟨e _ (by omega), e _ (by omega), e _ (by omega)⟩) (fun s hs => by rw [e _ (by omega)]; exact sHad_0.symm) (fun q a b => e _ (by omega)) (fun q hq hqk z hz => e _ (by omega)) (e _ (by omega)) (zCnt.to h.cnt (mm 0 (by omega) (by omega) (by omega) (by omega)) (fun z hz => e _ (by omega))) (fun c hc _ c1 c2 c3 => mm c hc c1 c2 c3) ?_ ?_ ?_ ?_
  · rw [iu, id_, ih]
    refine ⟨by rw [pk_un (by decide)]; exact f0, by rw [pk_us, em], by rw [pk_un (by decide), e _ (by omega)]; exact f4, by rw [pk_un (by decide), e (42 + 21 * k + 0) (by omega), s1, zn_nI (by omega), e _ (by omega), f6, s1, zn_nI (by omega)], by rw [pk_un (by decide), e _ (by omega)]; exact f7, by rw [pk_un (by decide), e _ (by omega)]; exact f8, by rw [pk_un (by decide), e _ (by omega)]; exact f9, by rw [pk_un (by decide), e _ (by omega)]; exact f10, by rw [pk_un (by decide), e _ (by omega)]; exact f11, by rw [pk_un (by decide), e _ (by omega)]; exact f12, by rw [pk_un (by decide), e _ (by omega)]; exact f13, fun p hp => ?_⟩
    rw [em2] at hp
    rw [(sErase_d p hp).1, (sErase_d p hp).2]
    exact ⟨sPull_at (fun z hz => (fP z hz).1) hp, sPull_at (fun z hz => (fP z hz).2) hp⟩
  · rw [iu, pk_un (by decide)]
  · rw [iu, pk_un (by decide), add_nI0]
  · rw [iu, pk_un (by decide), add_nI0]
set_option maxHeartbeats 4000000 in
set_option maxRecDepth 20000 in
theorem c_X0_markPoint {E : Ev} {g : Sh} {i : Ni} {j : Nj} {K : Kp} {a : Nat → Nat} {N : Nat → Int32} {k : Nat} (hC : zC g a) (hH : zH i a N) (hk : k < zn (N 5)) (h0 : sMark N k = 0) (hK : ∀ i' : Ni, zH i' a (sPut N k) → zOu a i' i → i' (a (6 + 3 * k)) 3 = nI (sMany N k + 1) → K (.inl none) g i' j) : zCon E mX0_markPoint [.ref (a 0), .ref (a (6 + 3 * k))] g i j K := by
  refine zcon_of (by decide +kernel) rfl rfl (lo := [.ref (a 0), .ref (a (6 + 3 * k))]) rfl (fun X => ?_)
  have hO := hH.1
  have h8 := hO.k8 hk
  obtain ⟨-, hT⟩ := hC.tb h8
  have u1 := hT.1
  obtain ⟨a1, a2, a3, a4, a5, a6, a7, a8, a9, a10, a11, a12, a13, a14, a15, a16, -⟩ := id hC
  obtain ⟨c5, c6, c7, c8, c9, c10, c11, c12⟩ := hH.cnt
  have hU := hH.tu hk
  obtain ⟨f0, f3, f4, f6, f7, f8, f9, f10, f11, f12, f13, fP⟩ := id hU
  obtain ⟨hB, hB4⟩ := hO.B4
  obtain ⟨hm, hm6⟩ := hO.many hk
  obtain ⟨b, hb, hb4, hm5⟩ := sMark_0 hO hk h0
  have hbB : b < zn (N 4) := by
    obtain ⟨-, -, -, -, -, -, -, b7, -⟩ := hO.tu hk
    rcases b7 with b7 | ⟨b', b1, b2⟩
    · exact absurd (hb.symm.trans b7) (nb_m1 (by omega))
    · have : b' = b := (nI_eq (by omega) (by omega)).mp (b1.symm.trans hb)
      omega
  refine r_aload_n qX0_markPoint_0 rfl ?_
  refine r_geti qX0_markPoint_1 fX0_79 rfl (by assumption) ?_
  rw [f12, hb]
  refine r_if_lt (t := 35) qX0_markPoint_4 (by decide) (fun hc4 => absurd hc4 (not_neg (by omega))) (fun hc4 => ?_)
  refine r_aload_n qX0_markPoint_7 rfl ?_
  refine r_geti qX0_markPoint_8 fX0_79 rfl (by assumption) ?_
  rw [f12, hb]
  refine r_aload_n qX0_markPoint_11 rfl ?_
  refine r_geti qX0_markPoint_12 fX0_49 rfl (by assumption) ?_
  rw [c6, hB]
  refine r_icmp_ge (t := 35) qX0_markPoint_15 (by decide) (fun hc15 => absurd hc15 (nI_ge hbB (by omega))) (fun hc15 => ?_)
  refine r_aload_n qX0_markPoint_18 rfl ?_
  refine r_aload_n qX0_markPoint_19 rfl ?_
  refine r_getr qX0_markPoint_20 fX0_21 rfl (by assumption) (by first | assumption | rfl) ?_
  refine r_aload_n qX0_markPoint_23 rfl ?_
  refine r_geti qX0_markPoint_24 fX0_79 rfl (by assumption) ?_
  rw [f12, hb]
  refine r_ialdN qX0_markPoint_27 (by assumption) (by assumption) (by omega) rfl ?_
  rw [(hH.ba hbB).1]
  refine r_aload_n qX0_markPoint_28 rfl ?_
  refine r_cv0 (cu2 := 0) (su2 := 0) qX0_markPoint_29 kX0_97 rfl (by decide +kernel) (c := 2) (by assumption) (by decide) rfl rfl rfl rfl rfl rfl ?_
  refine c_X2_level hT hU hO hk ?_
  show zR E _ _ X 32 _ _ _ _ _ _ _
  refine r_cv2 (cu2 := 0) (su2 := 0) qX0_markPoint_32 kX0_107 rfl (by decide +kernel) (c := 2) (by assumption) (by decide) rfl rfl rfl rfl rfl rfl ?_
  refine c_X2_addPoint hT (f3.trans hm) hm5 ?_
  show zR E _ _ X 35 _ _ _ _ _ _ _
  refine r_vret qX0_markPoint_35 rfl rfl rfl ?_
  refine hK _ (hH.put hC hk h0 (by rw [wA_s]) (by rw [wA_n (hC.inj (by omega) (by omega) (by omega)), wA_n (hC.inj (by omega) (by omega) (by omega)), wA_s, hb, zn_nI (by omega)]) (by rw [wA_n (hC.inj (by omega) (by omega) (by omega)), wA_s]) (fun r r1 r2 r3 => by rw [wA_n r1, wA_n r3, wA_n r2])) (fun r hr => by rw [wA_n (hr _ (by omega)), wA_n (hr _ (by omega)), wA_n (hr _ (by omega))]) (by rw [wA_s, pk_us])


