/-! ===== A TEXT THAT IS TAKEN; A ROW THAT IS SAVED ===== -/
section
variable {g : Sh} {i i1 i' : Ni} {j j' : Nj} {c rd tx ur sl sf sb : Nat} {A : Nat → Nat → Nat} {x n d b p s o ol u w L : Nat} {O : List Int32}
theorem iNu.ld1 {N2 : Nat → Int32} (hS : iSh g c rd tx ur sl sf sb A x n d b p s o ol) (h : iNu g i j c rd tx sf sb A x n b p s o u w L O) (q1 : zH i1 (A 0) N2) (q2 : zH i1 (A (3 + u)) (i n)) (q3 : i1 c 7 = nI (if u = 5 then 0 else u + 1)) (q4 : i1 c 8 = nI (if w = 6 then 6 else w + 1)) (h9 : i1 c 9 = 0) (h10 : i1 c 10 = -1) (hr : i1 rd 2 = nI 0) (hN : zNo i1 (A 2))
    (hi1 : ∀ r, r ≠ c → r ≠ rd → (∀ q, q < 30 → r ≠ A 2 q) → (∀ q, q < 30 → r ≠ A 0 q) → (∀ q, q < 30 → r ≠ A (3 + u) q) → i1 r = i r)
    (hZ : zLd x i' i1 j' j 0 (-1)) (h29 : i' x 29 = nI (if w = 6 then 6 else w + 1)) (hn : i' n = N2) (hp : i' p = sRem (i1 p) (i1 n) w) (hi : ∀ r, r ≠ x → r ≠ d → r ≠ n → r ≠ p → i' r = i1 r) : iNu g i' j' c rd tx sf sb A x n b p s o (if u = 5 then 0 else u + 1) (if w = 6 then 6 else w + 1) 0 O := by
  obtain ⟨⟨a1, a2, a3⟩, ⟨b1, b2, b3, b4, b5, b6⟩, c1, ⟨d1, d2⟩, ⟨e1, e2, e3, e4, e5, e6⟩, f1, f2, f3⟩ := h
  obtain ⟨z1, z2, z3, z4, z5, z6, z7, z8⟩ := hZ
  have hW := hS.ww
  have w1 := hW.1
  have w8 := hW.2.2.2.2.2.2.2.1.1
  have wd := hW.2.2.2.2.2.2.2.2.1.1
  have wb := hW.2.2.2.2.2.2.2.2.2.1.1
  have wp := hW.2.2.2.2.2.2.2.2.2.2.1.1
  have ws := hW.2.2.2.2.2.2.2.2.2.2.2.1.1
  have wo := hW.2.2.2.2.2.2.2.2.2.2.2.2.1.1
  have ns := hW.2.2.2.2.2.2.2.2.2.2.2.2.2.2.2.1
  have no := hW.2.2.2.2.2.2.2.2.2.2.2.2.2.2.2.2.1
  have ds := hW.2.2.2.2.2.2.2.2.2.2.2.2.2.2.2.2.2.2.1
  have dO := hW.2.2.2.2.2.2.2.2.2.2.2.2.2.2.2.2.2.2.2.1
  have ps := hW.2.2.2.2.2.2.2.2.2.2.2.2.2.2.2.2.2.2.2.2.1
  have po := hW.2.2.2.2.2.2.2.2.2.2.2.2.2.2.2.2.2.2.2.2.2.1
  have M : ∀ r, dM x n d b p s o r → i1 r = i r := fun r hr => hi1 r (hS.di hr).1 (hS.di hr).2.1 (fun q hq => (hS.di hr).2.2.2.2.2.2 2 q (by decide) hq) (fun q hq => (hS.di hr).2.2.2.2.2.2 0 q (by decide) hq) (fun q hq => (hS.di hr).2.2.2.2.2.2 (3 + u) q (by omega) hq)
  have Dx := hS.di dM_x
  have Dd := hS.di dM_d
  have Dn := hS.di dM_n
  have Dp := hS.di dM_p
  have eb : i' b = i b := (hi b (k_ne wb w1 (by decide)) (k_ne wb wd (by decide)) (k_ne wb w8 (by decide)) (k_ne wb wp (by decide))).trans (M b dM_b)
  have es : i' s = i s := (hi s (k_ne ws w1 (by decide)) (Ne.symm ds) (Ne.symm ns) (Ne.symm ps)).trans (M s dM_s)
  have eo : i' o = i o := (hi o (k_ne wo w1 (by decide)) (Ne.symm dO) (Ne.symm no) (Ne.symm po)).trans (M o dM_o)
  have ec : i' c = i1 c := hi c (Ne.symm Dx.1) (Ne.symm Dd.1) (Ne.symm Dn.1) (Ne.symm Dp.1)
  have er : i' rd = i1 rd := hi rd (Ne.symm Dx.2.1) (Ne.symm Dd.2.1) (Ne.symm Dn.2.1) (Ne.symm Dp.2.1)
  have C : ∀ {r t : Nat}, gT g r = t → t ≠ 4 → t ≠ 2 → (t ≠ 1 ∧ t ≠ 11 ∧ t ≠ 15 ∧ t ≠ 3) → i1 r = i r := fun {r t} h1 h2 h3 h4 => hi1 r (k_ne h1 hS.kc h2) (k_ne h1 hS.krd h3) (fun q hq => Ne.symm (hS.an (by decide) hq h1 h4)) (fun q hq => Ne.symm (hS.an (by decide) hq h1 h4)) (fun q hq => Ne.symm (hS.an (by omega) hq h1 h4))
  have et : i' tx = i tx := (hi tx (Ne.symm Dx.2.2.1) (Ne.symm Dd.2.2.1) (Ne.symm Dn.2.2.1) (Ne.symm Dp.2.2.1)).trans (C hS.ktx (by decide) (by decide) (by decide))
  have ef : i' sf = i sf := (hi sf (Ne.symm Dx.2.2.2.1) (Ne.symm Dd.2.2.2.1) (Ne.symm Dn.2.2.2.1) (Ne.symm Dp.2.2.2.1)).trans (C hS.ksf (by decide) (by decide) (by decide))
  have ebb : i' sb = i sb := (hi sb (Ne.symm Dx.2.2.2.2.1) (Ne.symm Dd.2.2.2.2.1) (Ne.symm Dn.2.2.2.2.1) (Ne.symm Dp.2.2.2.2.1)).trans (C hS.ksb (by decide) (by decide) (by decide))
  have eg : i' (gR g sb 0) = i (gR g sb 0) := (hi _ (Ne.symm Dx.2.2.2.2.2.1) (Ne.symm Dd.2.2.2.2.2.1) (Ne.symm Dn.2.2.2.2.2.1) (Ne.symm Dp.2.2.2.2.2.1)).trans (C f2.2.2.2.1 (by decide) (by decide) (by decide))
  have eA1 : ∀ m q, m < 11 → q < 30 → i' (A m q) = i1 (A m q) := fun m q hm hq => hi _ (Ne.symm (Dx.2.2.2.2.2.2 m q hm hq)) (Ne.symm (Dd.2.2.2.2.2.2 m q hm hq)) (Ne.symm (Dn.2.2.2.2.2.2 m q hm hq)) (Ne.symm (Dp.2.2.2.2.2.2 m q hm hq))
  have eA : ∀ m q, m < 11 → m ≠ 2 → m ≠ 0 → m ≠ 3 + u → q < 30 → i' (A m q) = i (A m q) := fun m q hm h2 h0 hu hq => (eA1 m q hm hq).trans (hi1 _ (hS.an hm hq hS.kc (by decide)) (hS.an hm hq hS.krd (by decide)) (fun q2 hq2 => hS.y.ne hm (by decide) h2 hq hq2) (fun q2 hq2 => hS.y.ne hm (by decide) h0 hq hq2) (fun q2 hq2 => hS.y.ne hm (by omega) hu hq hq2))
  have H0 : zH i' (A 0) N2 := q1.ou (fun q hq => eA1 0 q (by decide) hq)
  have H3 : zH i' (A (3 + u)) (i n) := q2.ou (fun q hq => eA1 _ q (by omega) hq)
  refine ⟨⟨by rw [hn]; exact q1.1, by rw [hn]; exact H0, fun m hm => ?_⟩, ⟨by rw [ec]; exact q3, by split <;> omega, by rw [ec]; exact q4, by split <;> omega, h29, fun k hk => ?_⟩, fun q hq => ?_, ⟨by rw [ec, h9, z3], by rw [ec, h10, z4]⟩, ⟨by rw [er]; exact hr, z2, by decide, by rw [et]; exact e4, by rw [eb]; exact e5, fun k hk => absurd hk (Nat.not_lt_zero k)⟩, ?_, f2.num ebb eg, ?_⟩
  · by_cases h2 : m = 2
    · rw [h2]
      exact fun z hz => by rw [eA1 2 _ (by decide) (by omega)]; exact hN z hz
    · by_cases h0 : m = 0
      · rw [h0]; exact H0.no
      · by_cases hu : m = 3 + u
        · rw [hu]; exact H3.no
        · exact fun z hz => by rw [eA m _ hm h2 h0 hu (by omega)]; exact a3 m hm z hz
  · rw [hp, M p dM_p, M n dM_n]
    match k, hk with
    | 0, hk =>
      have e : 3 + ((if u = 5 then 0 else u + 1) + 5 - 0) % 6 = 3 + u := by split <;> omega
      rw [e]
      exact H3.ext (fun a ha => sRem_0 b4 ha)
    | k + 1, hk =>
      have hk6 : k + 1 < 6 := by split at hk <;> omega
      have e : 3 + ((if u = 5 then 0 else u + 1) + 5 - (k + 1)) % 6 = 3 + (u + 5 - k) % 6 := by split <;> omega
      have hkw : k < w := by split at hk <;> omega
      rw [e]
      exact ((b6 k hkw).ou (fun q hq => eA _ q (by omega) (by omega) (by omega) (by omega) hq)).ext (fun a ha => sRem_s b4 ha hk)
  · obtain ⟨f, r1, r2, r3, r4⟩ := c1 q hq
    refine ⟨f, r1, by rw [ef]; exact r2, by rw [z5, M x dM_x]; exact r3, fun hf => ?_⟩
    rw [es]
    exact (r4 hf).ou (fun q2 hq2 => eA _ q2 (by omega) (by omega) (by omega) (by omega) hq2)
  · obtain ⟨v1, v2, v3, v4, v5, v6, v7, v8, v9, v10, v11, v12, v13, v14⟩ := f1
    exact ⟨(z7 _ (by decide)).trans v1, (z7 _ (by decide)).trans v2, (z7 _ (by decide)).trans v3, (z7 _ (by decide)).trans v4, (z7 _ (by decide)).trans v5, (z7 _ (by decide)).trans v6, (z7 _ (by decide)).trans v7, (z7 _ (by decide)).trans v8, (z7 _ (by decide)).trans v9, (z7 _ (by decide)).trans v10, (z7 _ (by decide)).trans v11, (z7 _ (by decide)).trans v12, (z7 _ (by decide)).trans v13, (z7 _ (by decide)).trans v14⟩
  · obtain ⟨l1, l2, l3⟩ := f3
    exact ⟨by rw [z6, M x dM_x]; exact l1, l2, by rw [eo]; exact l3⟩
theorem iNu.save {a : Nat} (ha : a < 2) (hS : iSh g c rd tx ur sl sf sb A x n d b p s o ol) (h : iNu g i j c rd tx sf sb A x n b p s o u w L O) (q1 : zH i1 (A (9 + a)) (i n)) (q2 : i1 sf = upd (i sf) a (nI 1)) (q3 : ∀ r, r ≠ sf → (∀ q, q < 30 → r ≠ A (9 + a) q) → i1 r = i r)
    (hx : ∀ m, m ≠ 0 → m ≠ 31 → i' x m = i1 x m) (h31 : i' x 31 = i1 x 31 ||| (nI 1 <<< (nI a &&& 31))) (hs : i' s = yput (i1 s) (i1 n) (210 * a) 210) (hi : ∀ r, r ≠ x → r ≠ s → i' r = i1 r) (hj : j' x = j x) : iNu g i' j' c rd tx sf sb A x n b p s o u w L O := by
  obtain ⟨⟨a1, a2, a3⟩, ⟨b1, b2, b3, b4, b5, b6⟩, c1, ⟨d1, d2⟩, ⟨e1, e2, e3, e4, e5, e6⟩, f1, f2, f3⟩ := h
  have hW := hS.ww
  have w1 := hW.1
  have w8 := hW.2.2.2.2.2.2.2.1.1
  have wb := hW.2.2.2.2.2.2.2.2.2.1.1
  have wp := hW.2.2.2.2.2.2.2.2.2.2.1.1
  have ws := hW.2.2.2.2.2.2.2.2.2.2.2.1.1
  have wo := hW.2.2.2.2.2.2.2.2.2.2.2.2.1.1
  have ns := hW.2.2.2.2.2.2.2.2.2.2.2.2.2.2.2.1
  have ps := hW.2.2.2.2.2.2.2.2.2.2.2.2.2.2.2.2.2.2.2.2.1
  have so := hW.2.2.2.2.2.2.2.2.2.2.2.2.2.2.2.2.2.2.2.2.2.2
  have M : ∀ r, dM x n d b p s o r → i1 r = i r := fun r hr => q3 r (hS.di hr).2.2.2.1 (fun q hq => (hS.di hr).2.2.2.2.2.2 (9 + a) q (by omega) hq)
  have Dx := hS.di dM_x
  have Ds := hS.di dM_s
  have en : i' n = i n := (hi n (k_ne w8 w1 (by decide)) ns).trans (M n dM_n)
  have eb : i' b = i b := (hi b (k_ne wb w1 (by decide)) (k_ne wb ws (by decide))).trans (M b dM_b)
  have ep : i' p = i p := (hi p (k_ne wp w1 (by decide)) ps).trans (M p dM_p)
  have eo : i' o = i o := (hi o (k_ne wo w1 (by decide)) (Ne.symm so)).trans (M o dM_o)
  have hxx : ∀ m, m ≠ 0 → m ≠ 31 → i' x m = i x m := fun m h1 h2 => (hx m h1 h2).trans (congrFun (M x dM_x) m)
  have C : ∀ {r t : Nat}, gT g r = t → t ≠ 13 → (t ≠ 1 ∧ t ≠ 11 ∧ t ≠ 15 ∧ t ≠ 3) → i1 r = i r := fun {r t} h1 h2 h4 => q3 r (k_ne h1 hS.ksf h2) (fun q hq => Ne.symm (hS.an (by omega) hq h1 h4))
  have ec : i' c = i c := (hi c (Ne.symm Dx.1) (Ne.symm Ds.1)).trans (C hS.kc (by decide) (by decide))
  have er : i' rd = i rd := (hi rd (Ne.symm Dx.2.1) (Ne.symm Ds.2.1)).trans (C hS.krd (by decide) (by decide))
  have et : i' tx = i tx := (hi tx (Ne.symm Dx.2.2.1) (Ne.symm Ds.2.2.1)).trans (C hS.ktx (by decide) (by decide))
  have ef : i' sf = upd (i sf) a (nI 1) := (hi sf (Ne.symm Dx.2.2.2.1) (Ne.symm Ds.2.2.2.1)).trans q2
  have ebb : i' sb = i sb := (hi sb (Ne.symm Dx.2.2.2.2.1) (Ne.symm Ds.2.2.2.2.1)).trans (C hS.ksb (by decide) (by decide))
  have eg : i' (gR g sb 0) = i (gR g sb 0) := (hi _ (Ne.symm Dx.2.2.2.2.2.1) (Ne.symm Ds.2.2.2.2.2.1)).trans (C f2.2.2.2.1 (by decide) (by decide))
  have eA1 : ∀ m q, m < 11 → q < 30 → i' (A m q) = i1 (A m q) := fun m q hm hq => hi _ (Ne.symm (Dx.2.2.2.2.2.2 m q hm hq)) (Ne.symm (Ds.2.2.2.2.2.2 m q hm hq))
  have eA : ∀ m q, m < 11 → m ≠ 9 + a → q < 30 → i' (A m q) = i (A m q) := fun m q hm h9 hq => (eA1 m q hm hq).trans (q3 _ (hS.an hm hq hS.ksf (by decide)) (fun q2 hq2 => hS.y.ne hm (by omega) h9 hq hq2))
  refine ⟨⟨by rw [en]; exact a1, by rw [en]; exact a2.ou (fun q hq => eA 0 q (by decide) (by omega) hq), fun m hm => ?_⟩, ⟨by rw [ec]; exact b1, b2, by rw [ec]; exact b3, b4, by rw [hxx 29 (by decide) (by decide)]; exact b5, fun k hk => ?_⟩, fun q hq => ?_, ⟨by rw [ec, hxx 32 (by decide) (by decide)]; exact d1, by rw [ec, hxx 33 (by decide) (by decide)]; exact d2⟩, ⟨by rw [er]; exact e1, by rw [hxx 5 (by decide) (by decide)]; exact e2, e3, by rw [et]; exact e4, by rw [eb]; exact e5, by rw [et, eb]; exact e6⟩, by rw [hj]; exact f1, f2.num ebb eg, ?_⟩
  · by_cases h9 : m = 9 + a
    · rw [h9]
      exact fun z hz => by rw [eA1 _ _ (by omega) (by omega)]; exact q1.no z hz
    · exact fun z hz => by rw [eA m _ hm h9 (by omega)]; exact a3 m hm z hz
  · rw [ep]
    exact (b6 k hk).ou (fun q hq => eA _ q (by omega) (by omega) hq)
  · have e31 : i' x 31 = i x 31 ||| (nI 1 <<< (nI a &&& 31)) := by rw [h31, M x dM_x]
    have es : i' s = yput (i s) (i n) (210 * a) 210 := by rw [hs, M s dM_s, M n dM_n]
    by_cases hqa : q = a
    · refine ⟨1, Or.inr rfl, by rw [ef, hqa, pk_us], ?_, fun _ => ?_⟩
      · rw [e31, zBit_or (by omega) (by omega)]
        exact ⟨fun _ => rfl, fun _ => Or.inr hqa.symm⟩
      · rw [hqa, es]
        refine (q1.ou (fun q2 hq2 => eA1 _ q2 (by omega) hq2)).ext (fun z hz => ?_)
        rw [yput, if_pos (by omega)]
        exact congrArg (i n) (by omega)
    · obtain ⟨f, r1, r2, r3, r4⟩ := c1 q hq
      refine ⟨f, r1, by rw [ef, pk_un hqa]; exact r2, ?_, fun hf => ?_⟩
      · rw [e31, zBit_or (by omega) (by omega)]
        exact ⟨fun h => h.elim r3.mp (fun h => absurd h.symm hqa), fun h => Or.inl (r3.mpr h)⟩
      · rw [es]
        refine ((r4 hf).ou (fun q2 hq2 => eA _ q2 (by omega) (by omega) hq2)).ext (fun z hz => ?_)
        rw [yput, if_neg (by omega)]
  · obtain ⟨l1, l2, l3⟩ := f3
    exact ⟨by rw [hxx 35 (by decide) (by decide)]; exact l1, l2, by rw [eo]; exact l3⟩
end

