/-! ===== A NEW GALLERY ===== -/
/-- a gallery whose first z tubes are there -/
def zCz (z : Nat) (g : Sh) (i : Ni) (a : Nat → Nat) : Prop := (gT g (a 0) = 1 ∧ gR g (a 0) 0 = a 1 ∧ gR g (a 0) 1 = a 2 ∧ gR g (a 0) 2 = a 3 ∧ gR g (a 0) 3 = a 4 ∧ gR g (a 0) 4 = a 5 ∧ gT g (a 1) = 11 ∧ gL g (a 1) = 5 ∧ gT g (a 2) = 11 ∧ gL g (a 2) = 5 ∧ gT g (a 3) = 11 ∧ gL g (a 3) = 4 ∧ gT g (a 4) = 11 ∧ gL g (a 4) = 4 ∧ gT g (a 5) = 15 ∧ gL g (a 5) = 8) ∧
  (∀ k, k < z → gR g (a 5) k = a (6 + 3 * k) ∧ zT3 g (a (6 + 3 * k)) (a (7 + 3 * k)) (a (8 + 3 * k)) ∧ i (a (6 + 3 * k)) 0 = nI k) ∧ ∀ p q, p < 6 + 3 * z → q < 6 + 3 * z → a p = a q → p = q
theorem zCz.kd {z : Nat} {g : Sh} {i : Ni} {a : Nat → Nat} (h : zCz z g i a) {q : Nat} (hq : q < 6 + 3 * z) : gT g (a q) ≠ 0 := by
  obtain ⟨⟨a1, a2, a3, a4, a5, a6, a7, a8, a9, a10, a11, a12, a13, a14, a15, a16⟩, a17, -⟩ := h
  by_cases h6 : q < 6
  · rcases (show q = 0 ∨ q = 1 ∨ q = 2 ∨ q = 3 ∨ q = 4 ∨ q = 5 by omega) with rfl | rfl | rfl | rfl | rfl | rfl <;> omega
  · obtain ⟨-, ⟨b1, -, -, b4, -, b6, -⟩, -⟩ := a17 ((q - 6) / 3) (by omega)
    rcases (show q = 6 + 3 * ((q - 6) / 3) ∨ q = 7 + 3 * ((q - 6) / 3) ∨ q = 8 + 3 * ((q - 6) / 3) by omega) with e | e | e
    · rw [e, b1]; decide
    · rw [e, b4]; decide
    · rw [e, b6]; decide
theorem zCz.to {z : Nat} {g g' : Sh} {i i' : Ni} {a : Nat → Nat} (h : zCz z g i a) (m : ∀ q, q < 6 + 3 * z → gT g' (a q) = gT g (a q) ∧ gL g' (a q) = gL g (a q) ∧ (∀ k, k < z ∨ q ≠ 5 → gR g' (a q) k = gR g (a q) k) ∧ i' (a q) = i (a q)) : zCz z g' i' a := by
  obtain ⟨⟨a1, a2, a3, a4, a5, a6, a7, a8, a9, a10, a11, a12, a13, a14, a15, a16⟩, a17, a18⟩ := h
  refine ⟨⟨by rw [(m 0 (by omega)).1]; exact a1, by rw [(m 0 (by omega)).2.2.1 _ (Or.inr (by decide))]; exact a2, by rw [(m 0 (by omega)).2.2.1 _ (Or.inr (by decide))]; exact a3, by rw [(m 0 (by omega)).2.2.1 _ (Or.inr (by decide))]; exact a4, by rw [(m 0 (by omega)).2.2.1 _ (Or.inr (by decide))]; exact a5, by rw [(m 0 (by omega)).2.2.1 _ (Or.inr (by decide))]; exact a6, by rw [(m 1 (by omega)).1]; exact a7, by rw [(m 1 (by omega)).2.1]; exact a8, by rw [(m 2 (by omega)).1]; exact a9, by rw [(m 2 (by omega)).2.1]; exact a10, by rw [(m 3 (by omega)).1]; exact a11, by rw [(m 3 (by omega)).2.1]; exact a12, by rw [(m 4 (by omega)).1]; exact a13, by rw [(m 4 (by omega)).2.1]; exact a14, by rw [(m 5 (by omega)).1]; exact a15, by rw [(m 5 (by omega)).2.1]; exact a16⟩, fun k hk => ?_, a18⟩
  obtain ⟨b1, ⟨b2, b3, b4, b5, b6, b7, b8, b9⟩, b10⟩ := a17 k hk
  exact ⟨by rw [(m 5 (by omega)).2.2.1 _ (Or.inl hk)]; exact b1, ⟨by rw [(m _ (by omega)).1]; exact b2, by rw [(m _ (by omega)).2.2.1 _ (Or.inr (by omega))]; exact b3, by rw [(m _ (by omega)).2.2.1 _ (Or.inr (by omega))]; exact b4, by rw [(m _ (by omega)).1]; exact b5, by rw [(m _ (by omega)).2.1]; exact b6, by rw [(m _ (by omega)).1]; exact b7, by rw [(m _ (by omega)).2.1]; exact b8, b9⟩, by rw [(m _ (by omega)).2.2.2]; exact b10⟩
theorem zCz.done {g : Sh} {i : Ni} {a : Nat → Nat} (h : zCz 8 g i a) : zC g a ∧ zNo i a := by
  obtain ⟨⟨a1, a2, a3, a4, a5, a6, a7, a8, a9, a10, a11, a12, a13, a14, a15, a16⟩, a17, a18⟩ := h
  exact ⟨⟨a1, a2, a3, a4, a5, a6, a7, a8, a9, a10, a11, a12, a13, a14, a15, a16, fun k hk => ⟨(a17 k hk).1, (a17 k hk).2.1⟩, a18⟩, fun z hz => (a17 z hz).2.2⟩
/-- one tube more -/
def aMore (a : Nat → Nat) (z w d h : Nat) : Nat → Nat := fun q => if q = 6 + 3 * z then w else if q = 7 + 3 * z then d else if q = 8 + 3 * z then h else a q
theorem aMore_lo {a : Nat → Nat} {z w d h q : Nat} (hq : q < 6 + 3 * z) : aMore a z w d h q = a q := by
  rw [aMore, if_neg (by omega), if_neg (by omega), if_neg (by omega)]
theorem zCz.step {z w d h : Nat} {g g2 : Sh} {i i2 : Ni} {j j2 : Nj} {a : Nat → Nat} (hz : zCz z g i a) (hz8 : z < 8) (w0 : gT g w = 0) (d0 : gT g d = 0) (h0 : gT g h = 0) (wd : w ≠ d) (wh : w ≠ h) (hT : zT3 g2 w d h) (hn : i2 w 0 = nI z) (hF : zNf w g i j g2 i2 j2) :
    zCz (z + 1) (wR g2 (a 5) z w) i2 (aMore a z w d h) := by
  have ne : ∀ q, q < 6 + 3 * z → a q ≠ w ∧ a q ≠ d ∧ a q ≠ h := fun q hq => ⟨fun e => hz.kd hq (by rw [e]; exact w0), fun e => hz.kd hq (by rw [e]; exact d0), fun e => hz.kd hq (by rw [e]; exact h0)⟩
  have fr : ∀ q, q < 6 + 3 * z → gT g2 (a q) = gT g (a q) ∧ gL g2 (a q) = gL g (a q) ∧ (∀ k, gR g2 (a q) k = gR g (a q) k) ∧ i2 (a q) = i (a q) := fun q hq => by
    obtain ⟨f1, f2, f3, f4⟩ := hF (a q) (hz.kd hq)
    exact ⟨f1, f2, (f4 (ne q hq).1).1, (f4 (ne q hq).1).2⟩
  have h2 : zCz z (wR g2 (a 5) z w) i2 a := hz.to fun q hq => by
    obtain ⟨f1, f2, f3, f4⟩ := fr q hq
    refine ⟨f1, f2, fun k hk => ?_, f4⟩
    rw [gR_wR]
    by_cases e : a q = a 5
    · have : q = 5 := hz.2.2 q 5 hq (by omega) e
      rw [if_pos e, if_neg (by omega), this]; exact (fr 5 (by omega)).2.2.1 k
    · rw [if_neg e]; exact f3 k
  obtain ⟨c1, c2, c3⟩ := h2
  obtain ⟨b2, b3, b4, b5, b6, b7, b8, b9⟩ := hT
  have e6 : aMore a z w d h (6 + 3 * z) = w := if_pos rfl
  have e7 : aMore a z w d h (7 + 3 * z) = d := by rw [aMore, if_neg (by omega), if_pos rfl]
  have e8 : aMore a z w d h (8 + 3 * z) = h := by rw [aMore, if_neg (by omega), if_neg (by omega), if_pos rfl]
  have w5 : w ≠ a 5 := fun e => (ne 5 (by omega)).1 e.symm
  refine ⟨?_, fun k hk => ?_, fun p q hp hq he => ?_⟩
  · rw [aMore_lo (show 0 < 6 + 3 * z by omega), aMore_lo (show 1 < 6 + 3 * z by omega), aMore_lo (show 2 < 6 + 3 * z by omega), aMore_lo (show 3 < 6 + 3 * z by omega), aMore_lo (show 4 < 6 + 3 * z by omega), aMore_lo (show 5 < 6 + 3 * z by omega)]
    exact c1
  · rw [aMore_lo (show 5 < 6 + 3 * z by omega)]
    by_cases hk2 : k < z
    · rw [aMore_lo (show 6 + 3 * k < 6 + 3 * z by omega), aMore_lo (show 7 + 3 * k < 6 + 3 * z by omega), aMore_lo (show 8 + 3 * k < 6 + 3 * z by omega)]
      exact c2 k hk2
    · obtain rfl : k = z := by omega
      rw [e6, e7, e8]
      exact ⟨by rw [gR_wR, if_pos rfl, if_pos rfl], ⟨b2, by rw [gR_wR, if_neg w5]; exact b3, by rw [gR_wR, if_neg w5]; exact b4, b5, b6, b7, b8, b9⟩, hn⟩
  · have cs : ∀ p, p < 6 + 3 * (z + 1) → p < 6 + 3 * z ∨ p = 6 + 3 * z ∨ p = 7 + 3 * z ∨ p = 8 + 3 * z := fun p hp => by omega
    rcases cs p hp with h1 | rfl | rfl | rfl <;> rcases cs q hq with h2 | rfl | rfl | rfl <;> first | rfl | skip
    · rw [aMore_lo h1, aMore_lo h2] at he; exact c3 p q h1 h2 he
    · rw [aMore_lo h1, e6] at he; exact absurd he (ne p h1).1
    · rw [aMore_lo h1, e7] at he; exact absurd he (ne p h1).2.1
    · rw [aMore_lo h1, e8] at he; exact absurd he (ne p h1).2.2
    · rw [aMore_lo h2, e6] at he; exact absurd he.symm (ne q h2).1
    · rw [e6, e7] at he; exact absurd he wd
    · rw [e6, e8] at he; exact absurd he wh
    · rw [aMore_lo h2, e7] at he; exact absurd he.symm (ne q h2).2.1
    · rw [e6, e7] at he; exact absurd he.symm wd
    · rw [e7, e8] at he; exact absurd he b9
    · rw [aMore_lo h2, e8] at he; exact absurd he.symm (ne q h2).2.2
    · rw [e6, e8] at he; exact absurd he.symm wh
    · rw [e7, e8] at he; exact absurd he.symm b9
theorem zNf.fr {u w : Nat} {g g1 : Sh} {i i1 : Ni} {j j1 : Nj} (h : zNf u g i j g1 i1 j1) (hw : gT g1 w = 0) : gT g w = 0 := by
  by_cases e : gT g w = 0
  · exact e
  · exact absurd hw (by rw [(h w e).1]; exact e)
theorem zNf.wr {u v k x : Nat} {g g1 : Sh} {i i1 : Ni} {j j1 : Nj} (h : zNf u g i j g1 i1 j1) (hv : gT g v = 0) : zNf u g i j (wR g1 v k x) i1 j1 := fun q hq => by
  obtain ⟨a1, a2, a3, a4⟩ := h q hq
  have : q ≠ v := fun e => hq (by rw [e]; exact hv)
  exact ⟨a1, a2, a3, fun hr => ⟨fun n => by rw [gR_wR, if_neg this]; exact (a4 hr).1 n, (a4 hr).2⟩⟩
/-- the first m arrays of a gallery -/
def zA5 (m : Nat) (g : Sh) (u : Nat) (s : Nat → Nat) : Prop := gT g u = 1 ∧ (∀ k, k < m → gR g u k = s k ∧ gT g (s k) = (if k = 4 then 15 else 11) ∧ gL g (s k) = (if k < 2 then 5 else if k < 4 then 4 else 8)) ∧ ∀ p q, p < m → q < m → s p = s q → p = q
theorem zA5.step {m d t n u : Nat} {g : Sh} {s : Nat → Nat} (h : zA5 m g u s) (hd : gT g d = 0) (ht : t = if m = 4 then 15 else 11) (hn : n = if m < 2 then 5 else if m < 4 then 4 else 8) : gT (wN g d t n) u = 1 ∧ gT (wR (wN g d t n) u m d) u = 1 ∧ zA5 (m + 1) (wR (wN g d t n) u m d) u (fun k => if k = m then d else s k) := by
  obtain ⟨h1, h2, h3⟩ := h
  have ud : u ≠ d := fun e => by rw [e, hd] at h1; exact absurd h1 (by decide)
  have e1 : gT (wN g d t n) u = 1 := by rw [gT_wN, if_neg ud]; exact h1
  have sd : ∀ k, k < m → s k ≠ d := fun k hk e => by
    have := (h2 k hk).2.1
    rw [e, hd] at this
    split at this <;> exact absurd this (by decide)
  refine ⟨e1, e1, e1, fun k hk => ?_, fun p q hp hq he => ?_⟩
  · by_cases hkm : k = m
    · subst hkm
      show _ = (if k = k then d else s k) ∧ gT _ (if k = k then d else s k) = _ ∧ gL _ (if k = k then d else s k) = _
      rw [if_pos rfl]
      exact ⟨by rw [gR_wR, if_pos rfl, if_pos rfl], by rw [gT_wR, gT_wN, if_pos rfl]; exact ht, by rw [gL_wR, gL_wN, if_pos rfl]; exact hn⟩
    · obtain ⟨b1, b2, b3⟩ := h2 k (by omega)
      have := sd k (by omega)
      show _ = (if k = m then d else s k) ∧ gT _ (if k = m then d else s k) = _ ∧ gL _ (if k = m then d else s k) = _
      rw [if_neg hkm]
      exact ⟨by rw [gR_wR, if_pos rfl, if_neg hkm, gR_wN, if_neg ud]; exact b1, by rw [gT_wR, gT_wN, if_neg this]; exact b2, by rw [gL_wR, gL_wN, if_neg this]; exact b3⟩
  · by_cases e1 : p = m <;> by_cases e2 : q = m
    · omega
    · simp only [e1, e2, if_true, if_false] at he; exact absurd he.symm (sd q (by omega))
    · simp only [e1, e2, if_true, if_false] at he; exact absurd he (sd p (by omega))
    · simp only [e1, e2, if_false] at he; exact h3 p q (by omega) (by omega) he
theorem zA5.cz {g : Sh} {i : Ni} {u : Nat} {s : Nat → Nat} (h : zA5 5 g u s) : zCz 0 g i (fun q => if q = 0 then u else s (q - 1)) := by
  obtain ⟨h1, h2, h3⟩ := h
  have us : ∀ k, k < 5 → s k ≠ u := fun k hk e => by
    have := (h2 k hk).2.1
    rw [e, h1] at this
    split at this <;> exact absurd this (by decide)
  refine ⟨⟨h1, (h2 0 (by decide)).1, (h2 1 (by decide)).1, (h2 2 (by decide)).1, (h2 3 (by decide)).1, (h2 4 (by decide)).1, (h2 0 (by decide)).2.1, (h2 0 (by decide)).2.2, (h2 1 (by decide)).2.1, (h2 1 (by decide)).2.2, (h2 2 (by decide)).2.1, (h2 2 (by decide)).2.2, (h2 3 (by decide)).2.1, (h2 3 (by decide)).2.2, (h2 4 (by decide)).2.1, (h2 4 (by decide)).2.2⟩, fun k hk => absurd hk (Nat.not_lt_zero k), fun p q hp hq he => ?_⟩
  by_cases e1 : p = 0 <;> by_cases e2 : q = 0
  · omega
  · simp only [e1, e2, if_true, if_false] at he; exact absurd he.symm (us _ (by omega))
  · simp only [e1, e2, if_true, if_false] at he; exact absurd he (us _ (by omega))
  · simp only [e1, e2, if_false] at he; have := h3 _ _ (by omega) (by omega) he; omega
set_option maxHeartbeats 4000000 in
set_option maxRecDepth 20000 in
theorem c_X0_init {E : Ev} {g : Sh} {i : Ni} {j : Nj} {K : Kp} {u : Nat} (hu0 : u ≠ 0) (hT : gT g u = 1) (hK : ∀ (a : Nat → Nat) (g' : Sh) (i' : Ni) (j' : Nj), a 0 = u → zC g' a → zNo i' a → (∀ q, 0 < q → q < 30 → gT g (a q) = 0) → zNf u g i j g' i' j' → K (.inl none) g' i' j') : zConI E mX0_init [.ref u] g i j K := by
  refine zconI_of (by decide +kernel) rfl rfl (lo := [.ref u, zJ]) rfl (fun X => ?_)
  have K43 : ∀ q z : Nat, q + z = 8 → ∀ (g1 : Sh) (i1 : Ni) (j1 : Nj) (a : Nat → Nat), a 0 = u → zCz z g1 i1 a → (∀ p, 0 < p → p < 6 + 3 * z → gT g (a p) = 0) → zNf u g i j g1 i1 j1 → zR E mX0_init (zZI E mX0_init K) X 43 [.ref u, .int (nI z)] [] g1 i1 j1 (5 + 3 * z) (26 + 29 * z) := by
    intro q
    induction q with
    | zero =>
      intro z hz g1 i1 j1 a a0 hC hf hF
      obtain rfl : z = 8 := by omega
      have hT1 : gT g1 u = 1 := by rw [← a0]; exact hC.1.1
      obtain ⟨D1, D2⟩ := hC.done
      refine r_iload_n qX0_init_43 rfl ?_
      refine r_bipush (v := nI 8) qX0_init_44 (by decide) ?_
      refine r_icmp_ge (t := 69) qX0_init_46 (by decide) (fun hc46 => ?_) (fun hc46 => absurd hc46 (by decide))
      refine r_aload_n qX0_init_69 rfl ?_
      refine r_iconst (v := nI 1) qX0_init_70 (by decide) ?_
      refine r_puti qX0_init_71 fX0_33 (Or.inl rfl) rfl rfl rfl (by assumption) ?_
      refine r_aload_n qX0_init_74 rfl ?_
      refine r_iconst (v := (-1)) qX0_init_75 (by decide) ?_
      refine r_puti qX0_init_76 fX0_37 (Or.inl rfl) rfl rfl rfl (by assumption) ?_
      refine r_vretI qX0_init_79 rfl rfl rfl ?_
      exact hK a _ _ _ a0 D1 (fun z hz => by rw [wA_n (fun e => absurd (hC.2.2 (6 + 3 * z) 0 (by omega) (by omega) (e.trans a0.symm)) (by omega)), wA_n (fun e => absurd (hC.2.2 (6 + 3 * z) 0 (by omega) (by omega) (e.trans a0.symm)) (by omega))]; exact D2 z hz) (fun q h0 h30 => hf q h0 h30) (hF.trans (zNf.pi.trans zNf.pi))
    | succ q ih =>
      intro z hz g1 i1 j1 a a0 hC hf hF
      have hT1 : gT g1 u = 1 := by rw [← a0]; exact hC.1.1
      have h5 : gR g1 u 4 = a 5 := by rw [← a0]; exact hC.1.2.2.2.2.2.1
      have h15 : gT g1 (a 5) = 15 := hC.1.2.2.2.2.2.2.2.2.2.2.2.2.2.2.1
      have h8 : gL g1 (a 5) = 8 := hC.1.2.2.2.2.2.2.2.2.2.2.2.2.2.2.2
      have hcu1 : Nat.ble (5 + 3 * z + 1) 29 = true := Nat.ble_eq.mpr (by omega)
      have hsu1 : Nat.ble (26 + 29 * z + 17) 258 = true := Nat.ble_eq.mpr (by omega)
      have hcu2 : Nat.ble (5 + 3 * z + 1 + 2) 29 = true := Nat.ble_eq.mpr (by omega)
      have hsu2 : Nat.ble (26 + 29 * z + 17 + 12) 258 = true := Nat.ble_eq.mpr (by omega)
      refine r_iload_n qX0_init_43 rfl ?_
      refine r_bipush (v := nI 8) qX0_init_44 (by decide) ?_
      refine r_icmp_ge (t := 69) qX0_init_46 (by decide) (fun hc46 => absurd hc46 (fun h => absurd h (nI_ge (by omega) (by omega)))) (fun hc46 => ?_)
      refine r_aload_n qX0_init_49 rfl ?_
      refine r_getr qX0_init_50 fX0_26 rfl (by assumption) h5 ?_
      refine r_iload_n qX0_init_53 rfl ?_
      refine r_new qX0_init_54 nX0_24 hcu1 hsu1 (fun w w0 wf => ?_)
      refine r_dup qX0_init_57 rfl ?_
      refine r_iload_n qX0_init_58 rfl ?_
      refine r_ci1 (cu2 := 5 + 3 * z + 1 + 2) (su2 := 26 + 29 * z + 17 + 12) qX0_init_59 kX0_30 rfl (by decide +kernel) w0 rfl rfl rfl hcu2 hsu2 ?_
      refine c_X2_init w0 (by rw [gT_wN, if_pos rfl]) (fun d h g3 i3 j3 T3 n3 d0 h0 F3 => ?_)
      show zR E _ _ X 62 _ _ _ _ _ _ _
      have wd : w ≠ d := fun e => by rw [← e, gT_wN, if_pos rfl] at d0; exact absurd d0 (by decide)
      have wh : w ≠ h := fun e => by rw [← e, gT_wN, if_pos rfl] at h0; exact absurd h0 (by decide)
      have d1 : gT g1 d = 0 := by rw [gT_wN, if_neg (Ne.symm wd)] at d0; exact d0
      have h1 : gT g1 h = 0 := by rw [gT_wN, if_neg (Ne.symm wh)] at h0; exact h0
      have F4 : zNf w g1 i1 j1 g3 i3 j3 := (zNf.new wf).trans F3
      have F5 : zNf u g1 i1 j1 g3 i3 j3 := zNf.of wf F4
      have S := hC.step (by omega) wf d1 h1 wd wh T3 n3 F4
      have h15' : gT g3 (a 5) = 15 := F4.ty h15 (by decide)
      have h8' : gL g3 (a 5) = 8 := ((F4 (a 5) (by rw [h15]; decide)).2.1).trans h8
      refine r_aast (t := 4) (c := 2) qX0_init_62 h15' T3.1 (by decide) (by rw [h8']; exact vp_in_nI (by omega) (by decide)) ?_
      rw [nI_clamp (by omega)]
      refine r_ii_2_1 qX0_init_63 rfl rfl (nI_inc z) ?_
      refine r_goto (t := 43) qX0_init_66 (by decide) ?_
      rw [show 5 + 3 * z + 1 + 2 = 5 + 3 * (z + 1) by omega, show 26 + 29 * z + 17 + 12 = 26 + 29 * (z + 1) by omega]
      refine ih (z + 1) (by omega) _ _ _ (aMore a z w d h) (by rw [aMore_lo (by omega)]; exact a0) S (fun p p0 hp => ?_) ((hF.trans F5).wr (hf 5 (by decide) (by omega)))
      by_cases hp2 : p < 6 + 3 * z
      · rw [aMore_lo hp2]; exact hf p p0 hp2
      · rcases (show p = 6 + 3 * z ∨ p = 7 + 3 * z ∨ p = 8 + 3 * z by omega) with e | e | e
        · rw [aMore, if_pos e]; exact hF.fr wf
        · rw [aMore, if_neg (by omega), if_pos e]; exact hF.fr d1
        · rw [aMore, if_neg (by omega), if_neg (by omega), if_pos e]; exact hF.fr h1
  have A0 : zA5 0 g u (fun _ => 0) := ⟨hT, fun k hk => absurd hk (Nat.not_lt_zero k), fun p q hp => absurd hp (Nat.not_lt_zero p)⟩
  refine r_aload_n qX0_init_0 rfl ?_
  refine r_objinit qX0_init_1 kX0_3 (by assumption) rfl rfl ?_
  refine r_aload_n qX0_init_4 rfl ?_
  refine r_iconst (v := nI 5) qX0_init_5 (by decide) ?_
  refine r_newa (N := 5) qX0_init_6 rfl (by decide) na_0 (by decide) (by decide) rfl rfl rfl (fun s0 s00 s0f => ?_)
  obtain ⟨B1, C1, A1⟩ := A0.step s0f (t := 11) (n := 5) rfl rfl
  refine r_putr qX0_init_8 fX0_11 (Or.inr ⟨rfl, rfl, rfl⟩) rfl (by assumption) ?_
  refine r_aload_n qX0_init_11 rfl ?_
  refine r_iconst (v := nI 5) qX0_init_12 (by decide) ?_
  refine r_newa (N := 5) qX0_init_13 rfl (by decide) na_0 (by decide) (by decide) rfl rfl rfl (fun s1 s10 s1f => ?_)
  obtain ⟨B2, C2, A2⟩ := A1.step s1f (t := 11) (n := 5) rfl rfl
  refine r_putr qX0_init_15 fX0_15 (Or.inr ⟨rfl, rfl, rfl⟩) rfl (by assumption) ?_
  refine r_aload_n qX0_init_18 rfl ?_
  refine r_iconst (v := nI 4) qX0_init_19 (by decide) ?_
  refine r_newa (N := 4) qX0_init_20 rfl (by decide) na_0 (by decide) (by decide) rfl rfl rfl (fun s2 s20 s2f => ?_)
  obtain ⟨B3, C3, A3⟩ := A2.step s2f (t := 11) (n := 4) rfl rfl
  refine r_putr qX0_init_22 fX0_18 (Or.inr ⟨rfl, rfl, rfl⟩) rfl (by assumption) ?_
  refine r_aload_n qX0_init_25 rfl ?_
  refine r_iconst (v := nI 4) qX0_init_26 (by decide) ?_
  refine r_newa (N := 4) qX0_init_27 rfl (by decide) na_0 (by decide) (by decide) rfl rfl rfl (fun s3 s30 s3f => ?_)
  obtain ⟨B4, C4, A4⟩ := A3.step s3f (t := 11) (n := 4) rfl rfl
  refine r_putr qX0_init_29 fX0_21 (Or.inr ⟨rfl, rfl, rfl⟩) rfl (by assumption) ?_
  refine r_aload_n qX0_init_32 rfl ?_
  refine r_bipush (v := nI 8) qX0_init_33 (by decide) ?_
  refine r_anew (N := 8) qX0_init_35 (Or.inl rfl) aX0_24 (by decide) (by decide) rfl rfl rfl (fun s4 s40 s4f => ?_)
  obtain ⟨B5, C5, A5⟩ := A4.step s4f (t := 15) (n := 8) rfl rfl
  refine r_putr qX0_init_38 fX0_26 (Or.inr ⟨rfl, rfl, rfl⟩) rfl (by assumption) ?_
  refine r_iconst (v := nI 0) qX0_init_41 (by decide) ?_
  refine r_is_2_1 qX0_init_42 rfl rfl ?_
  have F1 := (zNf.new (u := u) (i := i) (j := j) (t := 11) (n := 5) (f := fun _ => 0) (f2 := fun _ => 0) s0f).trans (zNf.pr (k := 0) (v := s0))
  have F2 := (F1.trans (zNf.new (t := 11) (n := 5) (f := fun _ => 0) (f2 := fun _ => 0) s1f)).trans (zNf.pr (k := 1) (v := s1))
  have F3 := (F2.trans (zNf.new (t := 11) (n := 4) (f := fun _ => 0) (f2 := fun _ => 0) s2f)).trans (zNf.pr (k := 2) (v := s2))
  have F4 := (F3.trans (zNf.new (t := 11) (n := 4) (f := fun _ => 0) (f2 := fun _ => 0) s3f)).trans (zNf.pr (k := 3) (v := s3))
  have F5 := (F4.trans (zNf.new (t := 15) (n := 8) (f := fun _ => 0) (f2 := fun _ => 0) s4f)).trans (zNf.pr (k := 4) (v := s4))
  refine K43 8 0 rfl _ _ _ _ rfl A5.cz (fun p p0 hp => ?_) F5
  rcases (show p = 1 ∨ p = 2 ∨ p = 3 ∨ p = 4 ∨ p = 5 by omega) with rfl | rfl | rfl | rfl | rfl
  · exact s0f
  · exact F1.fr s1f
  · exact F2.fr s2f
  · exact F3.fr s3f
  · exact F4.fr s4f


