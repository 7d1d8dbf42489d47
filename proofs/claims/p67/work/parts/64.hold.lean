/-! ===== THE CLASS: WHAT A GALLERY HOLDS AFTER A CHANGE ===== -/
theorem tH.move {f d h N N' : Nat → Int32} {k : Nat} (h0 : tH f d h N k) (hm : sMany N k ≤ 6) (hw : ∀ w, w < 21 → N' (42 + 21 * k + w) = N (42 + 21 * k + w)) (hs : N' (10 + 4 * zn (N (42 + 21 * k + 0)) + 2) = N (10 + 4 * zn (N (42 + 21 * k + 0)) + 2)) : tH f d h N' k := by
  obtain ⟨f0, f3, f4, f6, f7, f8, f9, f10, f11, f12, f13, fP⟩ := h0
  have em : sMany N' k = sMany N k := by rw [sMany, sMany, hw 8 (by omega)]
  refine ⟨f0, by rw [hw 8 (by omega)]; exact f3, by rw [hw 0 (by omega)]; exact f4, by rw [hw 0 (by omega), hs]; exact f6, by rw [hw 1 (by omega)]; exact f7, by rw [hw 2 (by omega)]; exact f8, by rw [hw 3 (by omega)]; exact f9, by rw [hw 4 (by omega)]; exact f10, by rw [hw 5 (by omega)]; exact f11, by rw [hw 7 (by omega)]; exact f12, by rw [hw 6 (by omega)]; exact f13, fun p hp => ?_⟩
  rw [em] at hp
  rw [show sDeg N' k p = sDeg N k p from hw (9 + 2 * p) (by omega), show sHgt N' k p = sHgt N k p from hw (9 + 2 * p + 1) (by omega)]
  exact fP p hp
theorem sAdd_c {f f' : Nat → Int32} : ∀ m, (∀ q, q < m → f' q = f q) → sAdd f' m = sAdd f m
  | 0, _ => rfl
  | m + 1, h => by rw [sAdd, sAdd, sAdd_c m (fun q hq => h q (by omega)), h m (by omega)]
theorem sAdd_at {f f' : Nat → Int32} {k : Nat} {e : Int32} : ∀ m, k < m → (∀ q, q < m → q ≠ k → f' q = f q) → f' k = f k + e → sAdd f' m = sAdd f m + e
  | 0, h, _, _ => by omega
  | m + 1, h, h1, h2 => by
    rw [sAdd, sAdd]
    by_cases hm : k = m
    · subst hm
      rw [sAdd_c k (fun q hq => h1 q (by omega) (by omega)), h2, Int32.add_assoc]
    · rw [sAdd_at m (by omega) (fun q hq => h1 q (by omega)) h2, h1 m (by omega) (fun e => hm e.symm), Int32.add_assoc, Int32.add_comm e, ← Int32.add_assoc]
theorem add_nI0 (a : Int32) : a + nI 0 = a := by rw [nI_0, Int32.add_zero]
def zCnt (f N : Nat → Int32) : Prop := f 5 = N 3 ∧ f 6 = N 4 ∧ f 7 = N 5 ∧ f 8 = N 2 ∧ f 9 = N 0 ∧ f 10 = N 1 ∧ f 11 = N 6 ∧ f 12 = N 7
theorem zCnt.to {f f' N N' : Nat → Int32} (h : zCnt f N) (hf : f' = f) (hN : ∀ w, w < 8 → N' w = N w) : zCnt f' N' := by
  subst hf
  rw [zCnt, hN 0 (by omega), hN 1 (by omega), hN 2 (by omega), hN 3 (by omega), hN 4 (by omega), hN 5 (by omega), hN 6 (by omega), hN 7 (by omega)]
  exact h
theorem zH.step {g : Sh} {i i' : Ni} {a : Nat → Nat} {N N' : Nat → Int32} {k : Nat} {y e : Int32} (h : zH i a N) (hO' : zOk N') (hk : k < zn (N 5)) (e3 : N' 3 = N 3) (e4 : N' 4 = N 4) (e5 : N' 5 = N 5) (e8 : N' 8 = N 8 + y)
    (es : ∀ s, s < 5 → N' (10 + 4 * s + 0) = N (10 + 4 * s + 0) ∧ N' (10 + 4 * s + 1) = N (10 + 4 * s + 1) ∧ N' (10 + 4 * s + 2) = N (10 + 4 * s + 2))
    (el : ∀ s, s < zn (N 3) → N' (10 + 4 * s + 3) = N (10 + 4 * s + 3) + (if N (42 + 21 * k + 0) = nI s then e else nI 0))
    (eb : ∀ w, 30 ≤ w → w < 42 → N' w = N w) (et : ∀ q, q < zn (N 5) → q ≠ k → ∀ w, w < 21 → N' (42 + 21 * q + w) = N (42 + 21 * q + w)) (ek : N' (42 + 21 * k + 0) = N (42 + 21 * k + 0))
    (cnt : zCnt (i' (a 0)) N') (m : ∀ c, c < 30 → c ≠ 0 → c ≠ 6 + 3 * k → c ≠ 7 + 3 * k → c ≠ 8 + 3 * k → i' (a c) = i (a c))
    (mt : tH (i' (a (6 + 3 * k))) (i' (a (7 + 3 * k))) (i' (a (8 + 3 * k))) N' k) (m5 : i' (a (6 + 3 * k)) 5 = i (a (6 + 3 * k)) 5) (m14 : i' (a (6 + 3 * k)) 14 = i (a (6 + 3 * k)) 14 + y) (m15 : i' (a (6 + 3 * k)) 15 = i (a (6 + 3 * k)) 15 + e) : zH i' a N' := by
  have hO := h.1
  have h8 := hO.k8 hk
  have hT8 := hO.T8.2
  have hS5 := hO.S5.2
  have hB4 := hO.B4.2
  refine ⟨hO', cnt, fun s hs => ?_, fun s hs => ?_, fun q hq => ?_, ?_, fun s hs => ?_, fun z hz => ?_⟩
  · rw [e3] at hs
    show i' (a 2) s = _ ∧ zNx (i' (a 1) s) _ _
    rw [m 2 (by omega) (by omega) (by omega) (by omega) (by omega), m 1 (by omega) (by omega) (by omega) (by omega) (by omega), (es s (by omega)).1, (es s (by omega)).2.1, (es s (by omega)).2.2]
    exact h.sp hs
  · rw [e4] at hs
    show i' (a 4) s = _ ∧ zNx (i' (a 3) s) _ _
    rw [m 4 (by omega) (by omega) (by omega) (by omega) (by omega), m 3 (by omega) (by omega) (by omega) (by omega) (by omega), eb _ (by omega) (by omega), eb _ (by omega) (by omega), eb _ (by omega) (by omega)]
    exact h.ba hs
  · rw [e5] at hq
    by_cases hqk : q = k
    · subst hqk
      refine ⟨mt, ?_⟩
      show i' (a (6 + 3 * q)) 5 = i' (a 1) (zn (N' (42 + 21 * q + 0)))
      rw [m5, m 1 (by omega) (by omega) (by omega) (by omega) (by omega), ek]
      exact h.na hk
    · obtain ⟨s, s1, s2, s3⟩ := hO.S hq
      have eN := et q hq hqk
      refine ⟨?_, ?_⟩
      · show tH (i' (a (6 + 3 * q))) (i' (a (7 + 3 * q))) (i' (a (8 + 3 * q))) N' q
        rw [m (6 + 3 * q) (by omega) (by omega) (by omega) (by omega) (by omega), m (7 + 3 * q) (by omega) (by omega) (by omega) (by omega) (by omega), m (8 + 3 * q) (by omega) (by omega) (by omega) (by omega) (by omega)]
        exact (h.tu hq).move (hO.many hq).2 eN (by rw [s1, zn_nI (by omega)]; exact (es s s3).2.2)
      · show i' (a (6 + 3 * q)) 5 = i' (a 1) (zn (N' (42 + 21 * q + 0)))
        rw [m (6 + 3 * q) (by omega) (by omega) (by omega) (by omega) (by omega), m 1 (by omega) (by omega) (by omega) (by omega) (by omega), eN 0 (by omega)]
        exact h.na hq
  · show sAdd (fun q => i' (a (6 + 3 * q)) 14) (zn (N' 5)) = N' 8
    rw [e5, e8, ← h.giv]
    exact sAdd_at _ hk (fun q hq hqk => by rw [m (6 + 3 * q) (by omega) (by omega) (by omega) (by omega) (by omega)]) m14
  · rw [e3] at hs
    show sAdd (fun q => if N' (42 + 21 * q + 0) = nI s then i' (a (6 + 3 * q)) 15 else nI 0) (zn (N' 5)) = N' (10 + 4 * s + 3)
    rw [e5, el s hs, ← h.los hs]
    refine sAdd_at _ hk (fun q hq hqk => ?_) ?_
    · rw [m (6 + 3 * q) (by omega) (by omega) (by omega) (by omega) (by omega), et q hq hqk 0 (by omega)]
    · rw [ek]
      by_cases hc : N (42 + 21 * k + 0) = nI s
      · rw [if_pos hc, if_pos hc, if_pos hc]; exact m15
      · rw [if_neg hc, if_neg hc, if_neg hc, add_nI0]
  · show i' (a (6 + 3 * z)) 0 = nI z
    by_cases hzk : z = k
    · subst hzk; exact mt.1
    · rw [m (6 + 3 * z) (by omega) (by omega) (by omega) (by omega) (by omega)]
      exact h.no z hz
theorem sHad_0 {N : Nat → Int32} {k s : Nat} : N (10 + 4 * s + 3) + (if N (42 + 21 * k + 0) = nI s then nI 0 else nI 0) = N (10 + 4 * s + 3) := by
  rw [ite_self, add_nI0]
/-- a change of numbers of one tube alone, and of one place of the row -/
theorem zH.one {g : Sh} {i : Ni} {a : Nat → Nat} {N : Nat → Int32} {k w : Nat} {v : Int32} {F : Nat → Int32} (hC : zC g a) (h : zH i a N) (hk : k < zn (N 5)) (hw : 1 ≤ w ∧ w < 8) (hO' : zOk (upd N (42 + 21 * k + w) v)) (hF : F 5 = i (a (6 + 3 * k)) 5 ∧ F 14 = i (a (6 + 3 * k)) 14 ∧ F 15 = i (a (6 + 3 * k)) 15) (mt : tH F (i (a (7 + 3 * k))) (i (a (8 + 3 * k))) (upd N (42 + 21 * k + w) v) k) : zH (wA i (a (6 + 3 * k)) F) a (upd N (42 + 21 * k + w) v) := by
  have h8 := h.1.k8 hk
  have hS5 := h.1.S5.2
  have e : ∀ q, q ≠ 42 + 21 * k + w → upd N (42 + 21 * k + w) v q = N q := fun q hq => pk_un hq
  have mm : ∀ c, c < 30 → c ≠ 6 + 3 * k → wA i (a (6 + 3 * k)) F (a c) = i (a c) := fun c hc hne => wA_n (hC.inj hc (by omega) hne)
  refine h.step (g := g) (k := k) (y := nI 0) (e := nI 0) hO' hk (e _ (by omega)) (e _ (by omega)) (e _ (by omega)) (by rw [e _ (by omega), add_nI0]) (fun s hs => ⟨e _ (by omega), e _ (by omega), e _ (by omega)⟩) (fun s hs => by rw [e _ (by omega)]; exact sHad_0.symm) (fun q a b => e _ (by omega)) (fun q hq hqk z hz => e _ (by omega)) (e _ (by omega)) (zCnt.to h.cnt (mm 0 (by omega) (by omega)) (fun z hz => e _ (by omega))) (fun c hc _ c1 _ _ => mm c hc c1) ?_ ?_ ?_ ?_
  · rw [wA_s, mm _ (by omega) (by omega), mm _ (by omega) (by omega)]; exact mt
  · rw [wA_s]; exact hF.1
  · rw [wA_s, hF.2.1, add_nI0]
  · rw [wA_s, hF.2.2, add_nI0]
theorem zH.bath {g : Sh} {i : Ni} {a : Nat → Nat} {N : Nat → Int32} {k : Nat} {v : Int32} (hC : zC g a) (h : zH i a N) (hk : k < zn (N 5)) (hv : v = -1 ∨ ∃ b, v = nI b ∧ b < zn (N 4)) : zH (wA i (a (6 + 3 * k)) (upd (i (a (6 + 3 * k))) 12 v)) a (upd N (42 + 21 * k + 7) v) := by
  obtain ⟨f0, f3, f4, f6, f7, f8, f9, f10, f11, f12, f13, fP⟩ := h.tu hk
  obtain ⟨s, s1, s2, s3⟩ := h.1.S hk
  have hm := (h.1.many hk).2
  have e : ∀ q, q ≠ 42 + 21 * k + 7 → upd N (42 + 21 * k + 7) v q = N q := fun q hq => pk_un hq
  have em : sMany (upd N (42 + 21 * k + 7) v) k = sMany N k := by rw [sMany, sMany, e _ (by omega)]
  refine h.one hC hk (by omega) (zOk_bath h.1 hk hv) ⟨pk_un (by decide), pk_un (by decide), pk_un (by decide)⟩ ⟨by rw [pk_un (by decide)]; exact f0, by rw [pk_un (by decide), e _ (by omega)]; exact f3, by rw [pk_un (by decide), e _ (by omega)]; exact f4, by rw [pk_un (by decide), e (42 + 21 * k + 0) (by omega), s1, zn_nI (by omega), e _ (by omega), f6, s1, zn_nI (by omega)], by rw [pk_un (by decide), e _ (by omega)]; exact f7, by rw [pk_un (by decide), e _ (by omega)]; exact f8, by rw [pk_un (by decide), e _ (by omega)]; exact f9, by rw [pk_un (by decide), e _ (by omega)]; exact f10, by rw [pk_un (by decide), e _ (by omega)]; exact f11, by rw [pk_us, pk_us], by rw [pk_un (by decide), e _ (by omega)]; exact f13, fun p hp => ?_⟩
  rw [em] at hp
  rw [sDeg, sHgt, e _ (by omega), e _ (by omega)]; exact fP p hp
theorem zH.leaky {g : Sh} {i : Ni} {a : Nat → Nat} {N : Nat → Int32} {k : Nat} {v : Int32} (hC : zC g a) (h : zH i a N) (hk : k < zn (N 5)) (hv : v = nI 0 ∨ v = nI 1) : zH (wA i (a (6 + 3 * k)) (upd (i (a (6 + 3 * k))) 13 v)) a (upd N (42 + 21 * k + 6) v) := by
  obtain ⟨f0, f3, f4, f6, f7, f8, f9, f10, f11, f12, f13, fP⟩ := h.tu hk
  obtain ⟨s, s1, s2, s3⟩ := h.1.S hk
  have hm := (h.1.many hk).2
  have e : ∀ q, q ≠ 42 + 21 * k + 6 → upd N (42 + 21 * k + 6) v q = N q := fun q hq => pk_un hq
  have em : sMany (upd N (42 + 21 * k + 6) v) k = sMany N k := by rw [sMany, sMany, e _ (by omega)]
  refine h.one hC hk (by omega) (zOk_leaky h.1 hk hv) ⟨pk_un (by decide), pk_un (by decide), pk_un (by decide)⟩ ⟨by rw [pk_un (by decide)]; exact f0, by rw [pk_un (by decide), e _ (by omega)]; exact f3, by rw [pk_un (by decide), e _ (by omega)]; exact f4, by rw [pk_un (by decide), e (42 + 21 * k + 0) (by omega), s1, zn_nI (by omega), e _ (by omega), f6, s1, zn_nI (by omega)], by rw [pk_un (by decide), e _ (by omega)]; exact f7, by rw [pk_un (by decide), e _ (by omega)]; exact f8, by rw [pk_un (by decide), e _ (by omega)]; exact f9, by rw [pk_un (by decide), e _ (by omega)]; exact f10, by rw [pk_un (by decide), e _ (by omega)]; exact f11, by rw [pk_un (by decide), e _ (by omega)]; exact f12, by rw [pk_us, pk_us], fun p hp => ?_⟩
  rw [em] at hp
  rw [sDeg, sHgt, e _ (by omega), e _ (by omega)]; exact fP p hp
theorem zH.pour {g : Sh} {i : Ni} {a : Nat → Nat} {N : Nat → Int32} {k : Nat} {v : Int32} (hC : zC g a) (h : zH i a N) (hk : k < zn (N 5)) (hv : zIn (N (42 + 21 * k + 4) + v) 0 999) : zH (wA i (a (6 + 3 * k)) (upd (upd (i (a (6 + 3 * k))) 10 (i (a (6 + 3 * k)) 10 + v)) 14 (i (a (6 + 3 * k)) 14 + v))) a (aPour N k v) := by
  obtain ⟨f0, f3, f4, f6, f7, f8, f9, f10, f11, f12, f13, fP⟩ := h.tu hk
  obtain ⟨s, s1, s2, s3⟩ := h.1.S hk
  have h8 := h.1.k8 hk
  have hm := (h.1.many hk).2
  have e : ∀ q, q ≠ 42 + 21 * k + 4 → q ≠ 8 → aPour N k v q = N q := fun q hq h2 => by rw [aPour, pk_un h2, pk_un hq]
  have em : sMany (aPour N k v) k = sMany N k := by rw [sMany, sMany, e _ (by omega) (by omega)]
  have hS5 := h.1.S5.2
  have mm : ∀ c, c < 30 → c ≠ 6 + 3 * k → wA i (a (6 + 3 * k)) (upd (upd (i (a (6 + 3 * k))) 10 (i (a (6 + 3 * k)) 10 + v)) 14 (i (a (6 + 3 * k)) 14 + v)) (a c) = i (a c) := fun c hc hne => wA_n (hC.inj hc (by omega) hne)
  refine h.step (g := g) (k := k) (y := v) (e := nI 0) (zOk_pour h.1 hk hv) hk (e _ (by omega) (by omega)) (e _ (by omega) (by omega)) (e _ (by omega) (by omega)) (by rw [aPour, pk_us]) (fun s hs => ⟨e _ (by omega) (by omega), e _ (by omega) (by omega), e _ (by omega) (by omega)⟩) (fun s hs => by rw [e _ (by omega) (by omega)]; exact sHad_0.symm) (fun q a b => e _ (by omega) (by omega)) (fun q hq hqk z hz => e _ (by omega) (by omega)) (e _ (by omega) (by omega)) (zCnt.to h.cnt (mm 0 (by omega) (by omega)) (fun z hz => e _ (by omega) (by omega))) (fun c hc _ c1 _ _ => mm c hc c1) ?_ ?_ ?_ ?_
  · rw [wA_s, mm _ (by omega) (by omega), mm _ (by omega) (by omega)]
    refine ⟨by rw [pk_un (by decide), pk_un (by decide)]; exact f0, by rw [pk_un (by decide), pk_un (by decide), e _ (by omega) (by omega)]; exact f3, by rw [pk_un (by decide), pk_un (by decide), e _ (by omega) (by omega)]; exact f4, by rw [pk_un (by decide), pk_un (by decide), e (42 + 21 * k + 0) (by omega) (by omega), s1, zn_nI (by omega), e _ (by omega) (by omega), f6, s1, zn_nI (by omega)], by rw [pk_un (by decide), pk_un (by decide), e _ (by omega) (by omega)]; exact f7, by rw [pk_un (by decide), pk_un (by decide), e _ (by omega) (by omega)]; exact f8, by rw [pk_un (by decide), pk_un (by decide), e _ (by omega) (by omega)]; exact f9, by rw [pk_un (by decide), pk_us, aPour, pk_un (by omega), pk_us, f10], by rw [pk_un (by decide), pk_un (by decide), e _ (by omega) (by omega)]; exact f11, by rw [pk_un (by decide), pk_un (by decide), e _ (by omega) (by omega)]; exact f12, by rw [pk_un (by decide), pk_un (by decide), e _ (by omega) (by omega)]; exact f13, fun p hp => ?_⟩
    rw [em] at hp
    rw [sDeg, sHgt, e _ (by omega) (by omega), e _ (by omega) (by omega)]; exact fP p hp
  · rw [wA_s, pk_un (by decide), pk_un (by decide)]
  · rw [wA_s, pk_us]
  · rw [wA_s, pk_un (by decide), pk_un (by decide), add_nI0]


