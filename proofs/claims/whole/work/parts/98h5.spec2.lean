/-! ===== PRINTING, LOADING, SAVING ===== -/
section
variable {g g1 : Sh} {i i1 i' : Ni} {j j1 j' : Nj} {c rd tx ur sl sf sb : Nat} {A : Nat → Nat → Nat} {x n d b p s o ol u w L : Nat} {O O' : List Int32}
/-- another buffer of the builder -/
theorem iSh.bf (hS : iSh g c rd tx ur sl sf sb A x n d b p s o ol) (hB : zBu g i sb O) (bf : zBf sb g i j g1 i1 j1) : iSh g1 c rd tx ur sl sf sb A x n d b p s o ol ∧ (∀ r, gT g r ≠ 0 → r ≠ sb → r ≠ gR g sb 0 → i1 r = i r) ∧ (∀ r, gT g r ≠ 0 → j1 r = j r) := by
  have ks : ∀ {r t : Nat}, gT g r = t → t ≠ 6 → r ≠ sb := fun h h2 e => h2 (by rw [← h, e]; exact hS.ksb)
  have K : ∀ {r t : Nat}, gT g r = t → t ≠ 0 → gT g1 r = t ∧ gL g1 r = gL g r := fun {r t} h h2 => by
    obtain ⟨f1, f2, -⟩ := bf.2 r (by rw [h]; exact h2)
    exact ⟨f1.trans h, f2⟩
  have R : ∀ {r t : Nat}, gT g r = t → t ≠ 0 → t ≠ 6 → ∀ k, gR g1 r k = gR g r k := fun {r t} h h2 h3 k => ((bf.2 r (by rw [h]; exact h2)).2.2.2 (ks h h3)).1 k
  obtain ⟨hY, hW, h3, ⟨ho1, ho2⟩, htx, hD⟩ := id hS
  obtain ⟨y1, y2, y3, y4, y5, y6, y7, y8, ⟨y9, y10, y11⟩, ⟨y12, y13⟩, ⟨y14, y15, y16⟩, ⟨y17, y18, y19⟩, ⟨y20, y21⟩, y22, y23, y24⟩ := id hY
  obtain ⟨w1, w2, w3, w4, w5, w6, w7, ⟨w8, w9⟩, ⟨w10, w11⟩, ⟨w12, w13⟩, ⟨w14, w15⟩, ⟨w16, w17⟩, ⟨w18, w19⟩, wr⟩ := id hW
  have kb : ∀ r, gT g r ≠ 0 → r ≠ gR g sb 0 → r ≠ gR g1 sb 0 := fun r hr h e => by
    rcases bf.1 with e2 | e2
    · exact h (e.trans e2)
    · exact hr (by rw [e]; exact e2)
  have dz : ∀ r, dM x n d b p s o r → gT g r ≠ 0 := by
    rintro r (rfl | rfl | rfl | rfl | rfl | rfl | rfl)
    · rw [w1]; decide
    · rw [w8]; decide
    · rw [w10]; decide
    · rw [w12]; decide
    · rw [w14]; decide
    · rw [w16]; decide
    · rw [w18]; decide
  refine ⟨⟨⟨(K y1 (by decide)).1, (R y1 (by decide) (by decide) 0).trans y2, (R y1 (by decide) (by decide) 1).trans y3, (R y1 (by decide) (by decide) 2).trans y4, (R y1 (by decide) (by decide) 3).trans y5, (R y1 (by decide) (by decide) 4).trans y6, (R y1 (by decide) (by decide) 5).trans y7, (R y1 (by decide) (by decide) 6).trans y8, ⟨(K y9 (by decide)).1, (R y9 (by decide) (by decide) 0).trans y10, (R y9 (by decide) (by decide) 1).trans y11⟩, ⟨(K y12 (by decide)).1, (K y12 (by decide)).2.trans y13⟩, ⟨(K y14 (by decide)).1, (K y14 (by decide)).2.trans y15, fun q hq => (R y14 (by decide) (by decide) q).trans (y16 q hq)⟩, ⟨(K y17 (by decide)).1, (K y17 (by decide)).2.trans y18, fun q hq => (R y17 (by decide) (by decide) q).trans (y19 q hq)⟩, ⟨(K y20 (by decide)).1, (K y20 (by decide)).2.trans y21⟩, (K y22 (by decide)).1, fun m hm => ((y23 m hm).bf hB bf).1, y24⟩, ?_, (R w1 (by decide) (by decide) 3).trans h3, ⟨(K ho1 (by decide)).1, (K ho1 (by decide)).2.trans ho2⟩, kb tx (by rw [y12]; decide) htx, fun r hr => ?_⟩, fun r hr h1 h2 => ((bf.2 r hr).2.2.2 h1).2 h2, fun r hr => (bf.2 r hr).2.2.1⟩
  · exact ⟨(K w1 (by decide)).1, (R w1 (by decide) (by decide) 1).trans w2, (R w1 (by decide) (by decide) 2).trans w3, (R w1 (by decide) (by decide) 4).trans w4, (R w1 (by decide) (by decide) 28).trans w5, (R w1 (by decide) (by decide) 30).trans w6, (R w1 (by decide) (by decide) 34).trans w7, ⟨(K w8 (by decide)).1, (K w8 (by decide)).2.trans w9⟩, ⟨(K w10 (by decide)).1, (K w10 (by decide)).2.trans w11⟩, ⟨(K w12 (by decide)).1, (K w12 (by decide)).2.trans w13⟩, ⟨(K w14 (by decide)).1, (K w14 (by decide)).2.trans w15⟩, ⟨(K w16 (by decide)).1, (K w16 (by decide)).2.trans w17⟩, ⟨(K w18 (by decide)).1, (K w18 (by decide)).2.trans w19⟩, wr⟩
  · obtain ⟨d1, d2, d3, d4, d5, d6, d7⟩ := hD r hr
    exact ⟨d1, d2, d3, d4, d5, kb r (dz r hr) d6, d7⟩
/-- the memory changed nowhere where the two keep their state but in the printed line -/
theorem iNu.prt (hS : iSh g c rd tx ur sl sf sb A x n d b p s o ol) (h : iNu g i j c rd tx sf sb A x n b p s o u w L O) (hi1 : ∀ r, gT g r ≠ 0 → r ≠ sb → r ≠ gR g sb 0 → i1 r = i r) (bu : zBu g1 i1 sb O') (hn1 : ∀ r, dM x n d b p s o r → r ≠ gR g1 sb 0)
    (hx : ∀ m, m ≠ 0 → m ≠ 35 → i' x m = i1 x m) (hi : ∀ r, r ≠ x → r ≠ o → i' r = i1 r) (hL : zL (i' x) (i' o) O') (hj : j' x = j x) : iNu g1 i' j' c rd tx sf sb A x n b p s o u w L O' := by
  obtain ⟨⟨a1, a2, a3⟩, ⟨b1, b2, b3, b4, b5, b6⟩, c1, ⟨d1, d2⟩, ⟨e1, e2, e3, e4, e5, e6⟩, f1, f2, f3⟩ := h
  have hW := hS.ww
  have w1 := hW.1
  have w8 := hW.2.2.2.2.2.2.2.1.1
  have wb := hW.2.2.2.2.2.2.2.2.2.1.1
  have wp := hW.2.2.2.2.2.2.2.2.2.2.1.1
  have ws := hW.2.2.2.2.2.2.2.2.2.2.2.1.1
  have wo := hW.2.2.2.2.2.2.2.2.2.2.2.2.1.1
  have no := hW.2.2.2.2.2.2.2.2.2.2.2.2.2.2.2.2.1
  have po := hW.2.2.2.2.2.2.2.2.2.2.2.2.2.2.2.2.2.2.2.2.2.1
  have so := hW.2.2.2.2.2.2.2.2.2.2.2.2.2.2.2.2.2.2.2.2.2.2
  have M : ∀ r t, dM x n d b p s o r → gT g r = t → t ≠ 0 → i1 r = i r := fun r t hr h1 h2 => hi1 r (by rw [h1]; exact h2) (hS.di hr).2.2.2.2.1 (hS.di hr).2.2.2.2.2.1
  have C : ∀ {r t : Nat}, gT g r = t → t ≠ 0 → t ≠ 6 → t ≠ 12 → i1 r = i r := fun {r t} h1 h2 h3 h4 => hi1 r (by rw [h1]; exact h2) (k_ne h1 hS.ksb h3) (k_ne h1 f2.2.2.2.1 h4)
  have Dx := hS.di dM_x
  have Do := hS.di dM_o
  have en : i' n = i n := (hi n (k_ne w8 w1 (by decide)) no).trans (M n 11 dM_n w8 (by decide))
  have eb : i' b = i b := (hi b (k_ne wb w1 (by decide)) (k_ne wb wo (by decide))).trans (M b 12 dM_b wb (by decide))
  have ep : i' p = i p := (hi p (k_ne wp w1 (by decide)) po).trans (M p 11 dM_p wp (by decide))
  have es : i' s = i s := (hi s (k_ne ws w1 (by decide)) so).trans (M s 11 dM_s ws (by decide))
  have hxx : ∀ m, m ≠ 0 → m ≠ 35 → i' x m = i x m := fun m h1 h2 => (hx m h1 h2).trans (congrFun (M x 5 dM_x w1 (by decide)) m)
  have ec : i' c = i c := (hi c (Ne.symm Dx.1) (Ne.symm Do.1)).trans (C hS.kc (by decide) (by decide) (by decide))
  have er : i' rd = i rd := (hi rd (Ne.symm Dx.2.1) (Ne.symm Do.2.1)).trans (C hS.krd (by decide) (by decide) (by decide))
  have et : i' tx = i tx := (hi tx (Ne.symm Dx.2.2.1) (Ne.symm Do.2.2.1)).trans (hi1 tx (by rw [hS.ktx]; decide) (k_ne hS.ktx hS.ksb (by decide)) hS.2.2.2.2.1)
  have ef : i' sf = i sf := (hi sf (Ne.symm Dx.2.2.2.1) (Ne.symm Do.2.2.2.1)).trans (C hS.ksf (by decide) (by decide) (by decide))
  have eA : ∀ m q, m < 11 → q < 30 → i' (A m q) = i (A m q) := fun m q hm hq => (hi _ (Ne.symm (Dx.2.2.2.2.2.2 m q hm hq)) (Ne.symm (Do.2.2.2.2.2.2 m q hm hq))).trans (hi1 _ ((hS.cc hm).nz hq) (hS.an hm hq hS.ksb (by decide)) (hS.an hm hq f2.2.2.2.1 (by decide)))
  refine ⟨⟨by rw [en]; exact a1, by rw [en]; exact a2.ou (fun q hq => eA 0 q (by decide) hq), fun m hm z hz => by rw [eA m _ hm (by omega)]; exact a3 m hm z hz⟩, ⟨by rw [ec]; exact b1, b2, by rw [ec]; exact b3, b4, by rw [hxx 29 (by decide) (by decide)]; exact b5, fun k hk => ?_⟩, fun q hq => ?_, ⟨by rw [ec, hxx 32 (by decide) (by decide)]; exact d1, by rw [ec, hxx 33 (by decide) (by decide)]; exact d2⟩, ⟨by rw [er]; exact e1, by rw [hxx 5 (by decide) (by decide)]; exact e2, e3, by rw [et]; exact e4, by rw [eb]; exact e5, by rw [et, eb]; exact e6⟩, by rw [hj]; exact f1, bu.num (hi sb (Ne.symm Dx.2.2.2.2.1) (Ne.symm Do.2.2.2.2.1)) (hi _ (Ne.symm (hn1 x dM_x)) (Ne.symm (hn1 o dM_o))), hL⟩
  · rw [ep]
    exact (b6 k hk).ou (fun q hq => eA _ q (by omega) hq)
  · obtain ⟨f, q1, q2, q3, q4⟩ := c1 q hq
    refine ⟨f, q1, by rw [ef]; exact q2, by rw [hxx 31 (by decide) (by decide)]; exact q3, fun hf => ?_⟩
    rw [es]
    exact (q4 hf).ou (fun q2 hq2 => eA _ q2 (by omega) hq2)
/-- a text that is refused -/
theorem iNu.ld0 {c' w' : Int32} (hS : iSh g c rd tx ur sl sf sb A x n d b p s o ol) (h : iNu g i j c rd tx sf sb A x n b p s o u w L O) (h9 : i1 c 9 = c') (h10 : i1 c 10 = w') (hc : ∀ f, f ≠ 9 → f ≠ 10 → i1 c f = i c f) (hr : i1 rd 2 = nI 0) (hN : zNo i1 (A 2)) (hi1 : ∀ r, r ≠ c → r ≠ rd → (∀ q, q < 30 → r ≠ A 2 q) → i1 r = i r)
    (hZ : zLd x i' i1 j' j c' w') (h29 : i' x 29 = nI w) (hi : ∀ r, r ≠ x → r ≠ d → i' r = i1 r) : iNu g i' j' c rd tx sf sb A x n b p s o u w 0 O := by
  obtain ⟨⟨a1, a2, a3⟩, ⟨b1, b2, b3, b4, b5, b6⟩, c1, ⟨d1, d2⟩, ⟨e1, e2, e3, e4, e5, e6⟩, f1, f2, f3⟩ := h
  obtain ⟨z1, z2, z3, z4, z5, z6, z7, z8⟩ := hZ
  have hW := hS.ww
  have w1 := hW.1
  have w8 := hW.2.2.2.2.2.2.2.1.1
  have wd := hW.2.2.2.2.2.2.2.2.1.1
  have wb := hW.2.2.2.2.2.2.2.2.2.1.1
  have wp := hW.2.2.2.2.2.2.2.2.2.2.1.1
  have ws := hW.2.2.2.2.2.2.2.2.2.2.2.1.1
  have wo := hW.2.2.2.2.2.2.2.2.2.2.2.2.1.1
  have nd := hW.2.2.2.2.2.2.2.2.2.2.2.2.2.1
  have dp := hW.2.2.2.2.2.2.2.2.2.2.2.2.2.2.2.2.2.1
  have ds := hW.2.2.2.2.2.2.2.2.2.2.2.2.2.2.2.2.2.2.1
  have dO := hW.2.2.2.2.2.2.2.2.2.2.2.2.2.2.2.2.2.2.2.1
  have M : ∀ r, dM x n d b p s o r → i1 r = i r := fun r hr => hi1 r (hS.di hr).1 (hS.di hr).2.1 (fun q hq => (hS.di hr).2.2.2.2.2.2 2 q (by decide) hq)
  have Dx := hS.di dM_x
  have Dd := hS.di dM_d
  have en : i' n = i n := (hi n (k_ne w8 w1 (by decide)) nd).trans (M n dM_n)
  have eb : i' b = i b := (hi b (k_ne wb w1 (by decide)) (k_ne wb wd (by decide))).trans (M b dM_b)
  have ep : i' p = i p := (hi p (k_ne wp w1 (by decide)) (Ne.symm dp)).trans (M p dM_p)
  have es : i' s = i s := (hi s (k_ne ws w1 (by decide)) (Ne.symm ds)).trans (M s dM_s)
  have eo : i' o = i o := (hi o (k_ne wo w1 (by decide)) (Ne.symm dO)).trans (M o dM_o)
  have ec : i' c = i1 c := hi c (Ne.symm Dx.1) (Ne.symm Dd.1)
  have er : i' rd = i1 rd := hi rd (Ne.symm Dx.2.1) (Ne.symm Dd.2.1)
  have C : ∀ {r t : Nat}, gT g r = t → t ≠ 4 → t ≠ 2 → (t ≠ 1 ∧ t ≠ 11 ∧ t ≠ 15 ∧ t ≠ 3) → i1 r = i r := fun {r t} h1 h2 h3 h4 => hi1 r (k_ne h1 hS.kc h2) (k_ne h1 hS.krd h3) (fun q hq => Ne.symm (hS.an (by decide) hq h1 h4))
  have et : i' tx = i tx := (hi tx (Ne.symm Dx.2.2.1) (Ne.symm Dd.2.2.1)).trans (C hS.ktx (by decide) (by decide) (by decide))
  have ef : i' sf = i sf := (hi sf (Ne.symm Dx.2.2.2.1) (Ne.symm Dd.2.2.2.1)).trans (C hS.ksf (by decide) (by decide) (by decide))
  have ebb : i' sb = i sb := (hi sb (Ne.symm Dx.2.2.2.2.1) (Ne.symm Dd.2.2.2.2.1)).trans (C hS.ksb (by decide) (by decide) (by decide))
  have eg : i' (gR g sb 0) = i (gR g sb 0) := (hi _ (Ne.symm Dx.2.2.2.2.2.1) (Ne.symm Dd.2.2.2.2.2.1)).trans (C f2.2.2.2.1 (by decide) (by decide) (by decide))
  have eA1 : ∀ m q, m < 11 → q < 30 → i' (A m q) = i1 (A m q) := fun m q hm hq => hi _ (Ne.symm (Dx.2.2.2.2.2.2 m q hm hq)) (Ne.symm (Dd.2.2.2.2.2.2 m q hm hq))
  have eA : ∀ m q, m < 11 → m ≠ 2 → q < 30 → i' (A m q) = i (A m q) := fun m q hm h2 hq => (eA1 m q hm hq).trans (hi1 _ (hS.an hm hq hS.kc (by decide)) (hS.an hm hq hS.krd (by decide)) (fun q2 hq2 => hS.y.ne hm (by decide) h2 hq hq2))
  refine ⟨⟨by rw [en]; exact a1, by rw [en]; exact a2.ou (fun q hq => eA 0 q (by decide) (by decide) hq), fun m hm => ?_⟩, ⟨by rw [ec, hc 7 (by decide) (by decide)]; exact b1, b2, by rw [ec, hc 8 (by decide) (by decide)]; exact b3, b4, h29, fun k hk => ?_⟩, fun q hq => ?_, ⟨by rw [ec, h9, z3], by rw [ec, h10, z4]⟩, ⟨by rw [er]; exact hr, z2, by decide, by rw [et]; exact e4, by rw [eb]; exact e5, fun k hk => absurd hk (Nat.not_lt_zero k)⟩, ?_, f2.num ebb eg, ?_⟩
  · by_cases h2 : m = 2
    · rw [h2]
      exact fun z hz => by rw [eA1 2 _ (by decide) (by omega)]; exact hN z hz
    · exact fun z hz => by rw [eA m _ hm h2 (by omega)]; exact a3 m hm z hz
  · rw [ep]
    exact (b6 k hk).ou (fun q hq => eA _ q (by omega) (by omega) hq)
  · obtain ⟨f, r1, r2, r3, r4⟩ := c1 q hq
    refine ⟨f, r1, by rw [ef]; exact r2, by rw [z5, M x dM_x]; exact r3, fun hf => ?_⟩
    rw [es]
    exact (r4 hf).ou (fun q2 hq2 => eA _ q2 (by omega) (by omega) hq2)
  · obtain ⟨v1, v2, v3, v4, v5, v6, v7, v8, v9, v10, v11, v12, v13, v14⟩ := f1
    exact ⟨(z7 _ (by decide)).trans v1, (z7 _ (by decide)).trans v2, (z7 _ (by decide)).trans v3, (z7 _ (by decide)).trans v4, (z7 _ (by decide)).trans v5, (z7 _ (by decide)).trans v6, (z7 _ (by decide)).trans v7, (z7 _ (by decide)).trans v8, (z7 _ (by decide)).trans v9, (z7 _ (by decide)).trans v10, (z7 _ (by decide)).trans v11, (z7 _ (by decide)).trans v12, (z7 _ (by decide)).trans v13, (z7 _ (by decide)).trans v14⟩
  · obtain ⟨l1, l2, l3⟩ := f3
    exact ⟨by rw [z6, M x dM_x]; exact l1, l2, by rw [eo]; exact l3⟩
end

