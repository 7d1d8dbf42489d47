/-! ===== THE LAW FROM ITS ENTRY ===== -/
/-- all that stood is as before -/
def zFf (g : Sh) (i : Ni) (g' : Sh) (i' : Ni) : Prop := ∀ r, gT g r ≠ 0 → gT g' r = gT g r ∧ gL g' r = gL g r ∧ (∀ k, gR g' r k = gR g r k) ∧ i' r = i r
theorem zFf.trans {g g1 g2 : Sh} {i i1 i2 : Ni} (h : zFf g i g1 i1) (h2 : zFf g1 i1 g2 i2) : zFf g i g2 i2 := fun r hr => by
  obtain ⟨a1, a2, a3, a4⟩ := h r hr
  obtain ⟨b1, b2, b3, b4⟩ := h2 r (by rw [a1]; exact hr)
  exact ⟨b1.trans a1, b2.trans a2, fun k => (b3 k).trans (a3 k), b4.trans a4⟩
theorem zFf.new {d t n : Nat} {g : Sh} {i : Ni} {f : Nat → Int32} (hd : gT g d = 0) : zFf g i (wN g d t n) (wA i d f) := fun q hq => by
  have : q ≠ d := fun e => hq (by rw [e]; exact hd)
  exact ⟨by rw [gT_wN, if_neg this], by rw [gL_wN, if_neg this], fun k => by rw [gR_wN, if_neg this], wA_n this⟩
theorem zNg.ff {u : Nat} {g g0 g' : Sh} {i i' i0 : Ni} {j j' : Nj} (h : zNg u g i j g' i' j') (hu : gT g0 u = 0) (h0 : zFf g0 i0 g i) : zFf g0 i0 g' i' := fun r hr => by
  obtain ⟨b1, b2, b3, b4⟩ := h0 r hr
  obtain ⟨a1, a2, a3⟩ := h r (by rw [b1]; exact hr)
  have hne : r ≠ u := fun e => hr (by rw [e]; exact hu)
  exact ⟨a1.trans b1, a2.trans b2, fun k => ((a3 hne).2.1 k).trans (b3 k), (a3 hne).2.2.trans b4⟩
section
variable {g g' : Sh} {i i' : Ni}
theorem zFf.ty (h : zFf g i g' i') {r t : Nat} (hr : gT g r = t) (ht : t ≠ 0) : gT g' r = t ∧ gL g' r = gL g r ∧ (∀ k, gR g' r k = gR g r k) ∧ i' r = i r := by
  obtain ⟨a1, a2, a3, a4⟩ := h r (by rw [hr]; exact ht)
  exact ⟨a1.trans hr, a2, a3, a4⟩
theorem zFf.c (h : zFf g i g' i') {a : Nat → Nat} (hC : zC g a) : zC g' a ∧ ∀ q, q < 30 → i' (a q) = i (a q) := ⟨hC.to (fun q hq => ⟨(h _ (hC.nz hq)).1, (h _ (hC.nz hq)).2.1, (h _ (hC.nz hq)).2.2.1⟩), fun q hq => (h _ (hC.nz hq)).2.2.2⟩
theorem zFf.y (h : zFf g i g' i') {c rd tx ur sl sf sb : Nat} {A : Nat → Nat → Nat} (hY : zY g c rd tx ur sl sf sb A) : zY g' c rd tx ur sl sf sb A := by
  obtain ⟨y1, y2, y3, y4, y5, y6, y7, y8, ⟨y9, y10, y11⟩, ⟨y12, y13⟩, ⟨y14, y15, y16⟩, ⟨y17, y18, y19⟩, ⟨y20, y21⟩, y22, y23, y24⟩ := hY
  obtain ⟨c1, -, c3, -⟩ := h.ty y1 (by decide)
  obtain ⟨d1, -, d3, -⟩ := h.ty y9 (by decide)
  obtain ⟨e1, e2, -, -⟩ := h.ty y12 (by decide)
  obtain ⟨f1, f2, f3, -⟩ := h.ty y14 (by decide)
  obtain ⟨h1, h2, h3, -⟩ := h.ty y17 (by decide)
  obtain ⟨k1, k2, -, -⟩ := h.ty y20 (by decide)
  exact ⟨c1, (c3 0).trans y2, (c3 1).trans y3, (c3 2).trans y4, (c3 3).trans y5, (c3 4).trans y6, (c3 5).trans y7, (c3 6).trans y8, ⟨d1, (d3 0).trans y10, (d3 1).trans y11⟩, ⟨e1, e2.trans y13⟩, ⟨f1, f2.trans y15, fun q hq => (f3 q).trans (y16 q hq)⟩, ⟨h1, h2.trans y18, fun q hq => (h3 q).trans (y19 q hq)⟩, ⟨k1, k2.trans y21⟩, (h.ty y22 (by decide)).1, fun m hm => (h.c (y23 m hm)).1, y24⟩
theorem zFf.w (h : zFf g i g' i') {x n d b p s o : Nat} (hW : zW g x n d b p s o) : zW g' x n d b p s o := by
  obtain ⟨w1, w2, w3, w4, w5, w6, w7, ⟨w8, w9⟩, ⟨w10, w11⟩, ⟨w12, w13⟩, ⟨w14, w15⟩, ⟨w16, w17⟩, ⟨w18, w19⟩, wr⟩ := hW
  obtain ⟨c1, -, c3, -⟩ := h.ty w1 (by decide)
  have P : ∀ {r t l : Nat}, gT g r = t → t ≠ 0 → gL g r = l → gT g' r = t ∧ gL g' r = l := fun {r t l} h1 h2 h3 => ⟨(h.ty h1 h2).1, (h.ty h1 h2).2.1.trans h3⟩
  exact ⟨c1, (c3 1).trans w2, (c3 2).trans w3, (c3 4).trans w4, (c3 28).trans w5, (c3 30).trans w6, (c3 34).trans w7, P w8 (by decide) w9, P w10 (by decide) w11, P w12 (by decide) w13, P w14 (by decide) w15, P w16 (by decide) w17, P w18 (by decide) w19, wr⟩
theorem zFf.bu (h : zFf g i g' i') {r : Nat} {L : List Int32} (hB : zBu g i r L) : zBu g' i' r L ∧ gR g' r 0 = gR g r 0 := by
  obtain ⟨h1, h2, h3, h4, h5, h6, h7, h8⟩ := hB
  obtain ⟨a1, -, a3, a4⟩ := h.ty h1 (by decide)
  obtain ⟨b1, b2, -, b4⟩ := h.ty h4 (by decide)
  have e := a3 0
  refine ⟨⟨a1, by rw [a4]; exact h2, by rw [a4]; exact h3, by rw [e]; exact b1, by rw [e, b2]; exact h5, by rw [e, b2]; exact h6, by rw [e, b4]; exact h7, by rw [e, b2, b4]; exact h8⟩, e⟩
end
theorem zBit_0 : ∀ q : Fin 8, ¬ zBit 0 q.val := by
  intro q h
  have e : ∀ q : Fin 8, (((0 : Int32) >>> (nI q.val &&& 31)) &&& nI 1) = nI 0 := by decide +kernel
  have h2 : ((0 : Int32) >>> (nI q.val &&& 31)) &&& nI 1 = nI 1 := h
  rw [e q] at h2
  exact absurd h2 (by decide)
/-- the two right behind their constructors, and the array -/
theorem iInv.start {g1 g3 g4 : Sh} {i1 i3 i4 : Ni} {j3 j4 : Nj} {ix : Nat → Int32} {c rd tx ur sl sf sb : Nat} {A : Nat → Nat → Nat} {x n d b p s o ol : Nat}
    (hY : zY g1 c rd tx ur sl sf sb A) (hH : zH i1 (A 0) (fr f18_)) (hN : ∀ m, m < 11 → zNo i1 (A m)) (h7 : i1 c 7 = nI 0) (h8 : i1 c 8 = nI 0) (h9 : i1 c 9 = nI 0) (h10 : i1 c 10 = -1) (h2 : i1 rd 2 = nI 0) (hby : zByt (i1 tx)) (hsf : ∀ q, i1 sf q = 0) (hBu : zBu g1 i1 sb []) (htx : tx ≠ gR g1 sb 0)
    (hx : gT g1 x = 0) (F : zFf g1 i1 g3 i3) (hW : zW g3 x n d b p s o) (hr3 : gR g3 x 3 = n) (hn : i3 n = fr f18_) (hb : ∀ k, i3 b k = 0) (hix : i3 x = upd ix 33 (-1)) (h0 : ∀ k, ix k = 0) (hw : zWd (j3 x)) (hnew : ∀ r, (r = n ∨ r = d ∨ r = b ∨ r = p ∨ r = s ∨ r = o) → gT g1 r = 0)
    (F4 : zFf g3 i3 g4 i4) (hol : gT g4 ol = 14) (hol1 : gL g4 ol = 1) (hj : j4 x = j3 x) : iInv g4 i4 j4 c rd tx ur sl sf sb A x n d b p s o ol := by
  have G := F.trans F4
  have hY4 := G.y hY
  have hW4 := F4.w hW
  obtain ⟨hB4, eB⟩ := G.bu hBu
  have hd : ∀ r, dM x n d b p s o r → gT g1 r = 0 := by
    rintro r (h | h | h | h | h | h | h)
    · rw [h]; exact hx
    · exact hnew r (Or.inl h)
    · exact hnew r (Or.inr (Or.inl h))
    · exact hnew r (Or.inr (Or.inr (Or.inl h)))
    · exact hnew r (Or.inr (Or.inr (Or.inr (Or.inl h))))
    · exact hnew r (Or.inr (Or.inr (Or.inr (Or.inr (Or.inl h)))))
    · exact hnew r (Or.inr (Or.inr (Or.inr (Or.inr (Or.inr h)))))
  obtain ⟨y1, y2, y3, y4, y5, y6, y7, y8, ⟨y9, y10, y11⟩, ⟨y12, y13⟩, -, -, ⟨y20, y21⟩, y22, y23, y24⟩ := id hY
  have ne : ∀ {r q t : Nat}, gT g1 r = 0 → gT g1 q = t → t ≠ 0 → r ≠ q := fun h1 h2 h3 e => h3 (by rw [← h2, ← e, h1])
  have kx := (F4.ty hW.1 (by decide)).2.2.2
  have kn := (F4.ty hW.2.2.2.2.2.2.2.1.1 (by decide)).2.2.2
  have kb := (F4.ty hW.2.2.2.2.2.2.2.2.2.1.1 (by decide)).2.2.2
  have ex : ∀ k, i4 x k = upd ix 33 (-1) k := fun k => by rw [kx, hix]
  have kc := (G.ty y1 (by decide)).2.2.2
  have krd := (G.ty y9 (by decide)).2.2.2
  have ktx := (G.ty y12 (by decide)).2.2.2
  have ksf := (G.ty y20 (by decide)).2.2.2
  have en : i4 n = fr f18_ := kn.trans hn
  have H0 : zH i4 (A 0) (fr f18_) := hH.ou (fun q hq => (G.c (y23 0 (by decide))).2 q hq)
  refine ⟨⟨hY4, hW4, ((F4.ty hW.1 (by decide)).2.2.1 3).trans hr3, ⟨hol, hol1⟩, by rw [eB]; exact htx, fun r hr => ?_⟩, 0, 0, 0, [], ⟨by rw [en]; exact f18_keep.1, by rw [en]; exact H0, fun m hm z hz => by rw [(G.c (y23 m hm)).2 _ (by omega)]; exact hN m hm z hz⟩, ⟨by rw [kc]; exact h7, by decide, by rw [kc]; exact h8, by decide, by rw [ex, pk_un (by decide), h0]; rfl, fun k hk => absurd hk (Nat.not_lt_zero k)⟩, fun q hq => ⟨0, Or.inl rfl, by rw [ksf, hsf]; rfl, ?_, fun h => absurd h (by decide)⟩, ⟨by rw [kc, ex, pk_un (by decide), h0]; exact h9, by rw [kc, ex, pk_us]; exact h10⟩, ⟨by rw [krd]; exact h2, by rw [ex, pk_un (by decide), h0]; rfl, by decide, by rw [ktx]; exact hby, fun k => by rw [kb, hb]; exact ⟨by decide, by decide⟩, fun k hk => absurd hk (Nat.not_lt_zero k)⟩, by rw [hj]; exact hw, hB4, ⟨by rw [ex, pk_un (by decide), h0]; rfl, by decide, fun k hk => absurd hk (Nat.not_lt_zero k)⟩⟩
  · have h1 := hd r hr
    exact ⟨ne h1 y1 (by decide), ne h1 y9 (by decide), ne h1 y12 (by decide), ne h1 y20 (by decide), ne h1 y22 (by decide), by rw [eB]; exact ne h1 hBu.2.2.2.1 (by decide), fun m q hm hq e => (y23 m hm).nz hq (by rw [← e]; exact h1)⟩
  · rw [ex, pk_un (by decide), h0]
    exact ⟨fun h => absurd h (zBit_0 ⟨q, by omega⟩), fun h => absurd h (by decide)⟩
set_option maxRecDepth 20000 in
set_option maxHeartbeats 4000000 in
theorem law_main {E : Ev} {Z : Fx → State → Prop} {X : Fx} {bb L0 : Nat} {xs : Nat → Int32} {g : Sh} {i : Ni} {j : Nj} (hX : zScr E X bb L0 xs) (hL : L0 ≤ 3072) (KE : ∀ (g : Sh) (i : Ni) (j : Nj) (cu su : Nat) (lo : List Value), cu ≤ 601024 → su ≤ 7293034 → zR E mL_law Z X 3563 lo [] g i j cu su) : zR E mL_law Z X 0 [.ref (bb + 1), zJ, zJ, zJ, zJ, zJ, zJ, zJ, zJ] [] g i j 0 0 := by
  have K23 : ∀ (c rd tx ur sl sf sb : Nat) (A : Nat → Nat → Nat) (x n d b p s o ol : Nat) (g : Sh) (i : Ni) (j : Nj) (cu su : Nat), cu ≤ 1000 → su ≤ 20000 → iInv g i j c rd tx ur sl sf sb A x n d b p s o ol → zR E mL_law Z X 23 [.ref (bb + 1), .ref c, .ref x, .ref ol, .int (nI 0), zJ, zJ, zJ, zJ] [] g i j cu su := fun c rd tx ur sl sf sb A x n d b p s o ol g i j cu su h1 h2 hI => law_loop hX hL KE 512 0 (by omega) (by omega) g i j cu su zJ zJ zJ zJ (by omega) (by omega) hI
  refine r_new qL_law_0 nW_8 rfl rfl (fun c c0 cf => ?_)
  refine r_dup qL_law_3 rfl ?_
  refine r_ci0 (cu2 := 501) (su2 := 6011) qL_law_4 kW_170 rfl (by decide +kernel) c0 rfl rfl rfl rfl rfl ?_
  refine c_X3_init c0 (by rw [gT_wN, if_pos rfl]) (fun rd tx ur sl sf sb A g1 i1 j1 y1 y2 y3 y4 y5 y6 y7 y8 y9 y10 y11 y12 F1 => ?_)
  show zR E _ _ X 7 _ _ _ _ _ _ _
  refine r_widen (cu2 := 600) (su2 := 8000) (by decide) (by decide) ?_
  refine r_as_9_1 qL_law_7 rfl rfl ?_
  refine r_new qL_law_8 nW_171 rfl rfl (fun x x0 xf => ?_)
  refine r_dup qL_law_11 rfl ?_
  refine r_ci0 (cu2 := 607) (su2 := 10836) qL_law_12 kW_173 rfl (by decide +kernel) x0 rfl rfl rfl rfl rfl ?_
  refine c_X4_init x0 (by rw [gT_wN, if_pos rfl]) (fun f => by rw [wA_s]) (fun n d b p s o g3 i3 j3 w1 w2 w3 w4 w5 w6 w7 F3 => ?_)
  show zR E _ _ X 15 _ _ _ _ _ _ _
  refine r_as_9_2 qL_law_15 rfl rfl ?_
  refine r_iconst (v := nI 1) qL_law_16 (by decide) ?_
  refine r_newa (N := 1) qL_law_17 rfl (by decide) na_3 (by decide) (by decide) rfl rfl rfl (fun ol ol0 olf => ?_)
  refine r_as_9_3 qL_law_19 rfl rfl ?_
  refine r_iconst (v := nI 0) qL_law_20 (by decide) ?_
  refine r_is_9_4 qL_law_21 rfl rfl ?_
  refine K23 c rd tx ur sl sf sb A x n d b p s o ol _ _ _ _ _ (by decide) (by decide) (iInv.start (g1 := g1) (i1 := i1) (g3 := g3) (i3 := i3) (j3 := j3) (ix := wA i1 x (fun _ => 0) x) y1 y2 y3 y4 y5 y6 y7 y8 y9 y10 y11 y12 xf ?_ w1 w2 w3 w4 w5 (fun k => by rw [wA_s]) w6 ?_ (zFf.new olf) (by rw [gT_wN, if_pos rfl]) (by rw [gL_wN, if_pos rfl]) ?_)
  · exact F3.ff (by exact xf) (zFf.new xf)
  · intro r hr
    have := w7 r hr
    rw [gT_wN] at this
    split at this
    · exact absurd this (by decide)
    · exact this
  · exact wB_n (fun e => by have h9 := w1.1; rw [e, olf] at h9; exact absurd h9 (by decide))

