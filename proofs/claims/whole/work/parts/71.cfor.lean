/-! ===== THE CLASS: FORECASTS ===== -/
def zY (g : Sh) (c rd tx ur sl sf sb : Nat) (A : Nat → Nat → Nat) : Prop :=
  gT g c = 4 ∧ gR g c 0 = rd ∧ gR g c 1 = A 0 0 ∧ gR g c 2 = A 1 0 ∧ gR g c 3 = ur ∧ gR g c 4 = sl ∧ gR g c 5 = sf ∧ gR g c 6 = sb ∧
  (gT g rd = 2 ∧ gR g rd 0 = tx ∧ gR g rd 1 = A 2 0) ∧ (gT g tx = 12 ∧ gL g tx = 600) ∧ (gT g ur = 16 ∧ gL g ur = 6 ∧ ∀ q, q < 6 → gR g ur q = A (3 + q) 0) ∧ (gT g sl = 16 ∧ gL g sl = 2 ∧ ∀ q, q < 2 → gR g sl q = A (9 + q) 0) ∧ (gT g sf = 13 ∧ gL g sf = 2) ∧ gT g sb = 6 ∧
  (∀ n, n < 11 → zC g (A n)) ∧ ∀ n m p q, n < 11 → m < 11 → n ≠ m → p < 30 → q < 30 → A n p ≠ A m q
def zNo (i : Ni) (a : Nat → Nat) : Prop := ∀ z, z < 8 → i (a (6 + 3 * z)) 0 = nI z
section
variable {g : Sh} {c rd tx ur sl sf sb : Nat} {A : Nat → Nat → Nat}
theorem zY.cc (h : zY g c rd tx ur sl sf sb A) {n : Nat} (hn : n < 11) : zC g (A n) := by
  obtain ⟨-, -, -, -, -, -, -, -, -, -, -, -, -, -, h15, -⟩ := h
  exact h15 n hn
theorem zY.ne (h : zY g c rd tx ur sl sf sb A) {n m p q : Nat} (hn : n < 11) (hm : m < 11) (hnm : n ≠ m) (hp : p < 30) (hq : q < 30) : A n p ≠ A m q := by
  obtain ⟨-, -, -, -, -, -, -, -, -, -, -, -, -, -, -, h16⟩ := h
  exact h16 n m p q hn hm hnm hp hq
theorem zY.x (h : zY g c rd tx ur sl sf sb A) : zX3 g c (A 0) := ⟨h.1, h.2.2.1, h.cc (by decide)⟩
end
theorem zOu.h {i i' : Ni} {a b : Nat → Nat} {N : Nat → Int32} (h : zH i b N) (o : zOu a i' i) (hab : ∀ p q, p < 30 → q < 30 → b p ≠ a q) : zH i' b N := h.ou (fun c hc => o _ (fun c' hc' => hab c c' hc hc'))
set_option maxHeartbeats 4000000 in
set_option maxRecDepth 20000 in
theorem c_X3_heightAfter {E : Ev} {g : Sh} {i : Ni} {j : Nj} {K : Kp} {c rd tx ur sl sf sb : Nat} {A : Nat → Nat → Nat} {N : Nat → Int32} {t m : Int32} (hY : zY g c rd tx ur sl sf sb A) (hH : zH i (A 0) N) (hN1 : zNo i (A 1)) (hK : ∀ i' : Ni, zOu (A 1) i' i → zNo i' (A 1) → K (oc3 (tv (N 5) t) (0 ≤ m.toInt ∧ m.toInt ≤ 300) True 2 1 0 (.int (sHigh (sWalk N (zn m)) (zn t)))) g i' j) : zCon E mX3_heightAfter [.ref c, .int t, .int m] g i j K := by
  refine zcon_of (by decide +kernel) rfl rfl (lo := [.ref c, .int t, .int m]) rfl (fun X => ?_)
  obtain ⟨x1, x2, hC⟩ := id hY.x
  have hX := hY.x
  have y2 : gR g c 2 = A 1 0 := hY.2.2.2.1
  have hC1 := hY.cc (show 1 < 11 by decide)
  have hO := hH.1
  obtain ⟨a1, a2, a3, a4, a5, a6, a7, a8, a9, a10, a11, a12, a13, a14, a15, a16, -⟩ := id hC
  obtain ⟨e1, e2, e3, e4, e5, e6, e7, e8, e9, e10, e11, e12, e13, e14, e15, e16, -⟩ := id hC1
  obtain ⟨hT, hT8⟩ := hO.T8
  have d10 : ∀ p q, p < 30 → q < 30 → A 1 p ≠ A 0 q := fun p q hp hq => hY.ne (by decide) (by decide) (by decide) hp hq
  refine r_aload_n qX3_heightAfter_0 rfl ?_
  refine r_iload_n qX3_heightAfter_1 rfl ?_
  refine r_cv1 (cu2 := 1) (su2 := 6) qX3_heightAfter_2 kX3_141 rfl (by decide +kernel) (c := 3) (by assumption) (by decide) rfl rfl rfl rfl rfl rfl ?_
  refine c_X3_checkedTube hX hH (fun hv => t_out rfl rfl rfl (by have hK := hK i zOu.refl hN1; rw [oc3_a hv] at hK; exact hK)) (fun k ek hk => ?_)
  subst ek
  have hv := tv_mk hk (by have := hO.k8 hk; omega)
  have h8 := hO.k8 hk
  have zk : zn (nI k) = k := zn_nI (by omega)
  obtain ⟨tb1, hT3⟩ := hC1.tb h8
  have u1 := hT3.1
  obtain ⟨hm, hm6⟩ := hO.many hk
  show zR E _ _ X 5 _ _ _ _ _ _ _
  refine r_pop qX3_heightAfter_5 rfl ?_
  refine r_iload_n qX3_heightAfter_6 rfl ?_
  refine r_iconst (v := nI 0) qX3_heightAfter_7 (by decide) ?_
  refine r_sipush (v := nI 300) qX3_heightAfter_8 (by decide) ?_
  refine r_cs3 (cu2 := 2) (su2 := 12) qX3_heightAfter_11 kX3_164 rfl (by decide +kernel) rfl rfl rfl rfl rfl ?_
  refine c_X3_checkRange (lo := 0) (hi := 300) (by decide) (by decide) (fun hv2 => t_out rfl rfl rfl (by have hK := hK i zOu.refl hN1; rw [oc3_b hv hv2] at hK; exact hK)) (fun hv2 => ?_)
  obtain ⟨em, hm3⟩ := nn_nat (b := 300) (show 0 ≤ m.toInt ∧ m.toInt ≤ (300 : Nat) from hv2)
  generalize zn m = l at *
  subst em
  show zR E _ _ X 14 _ _ _ _ _ _ _
  refine r_aload_n qX3_heightAfter_14 rfl ?_
  refine r_getr qX3_heightAfter_15 fX3_43 rfl (by assumption) (by first | assumption | rfl) ?_
  refine r_aload_n qX3_heightAfter_18 rfl ?_
  refine r_getr qX3_heightAfter_19 fX3_40 rfl (by assumption) (by first | assumption | rfl) ?_
  refine r_cv1 (cu2 := 2) (su2 := 12) qX3_heightAfter_22 kX3_28 rfl (by decide +kernel) (c := 0) (by assumption) (by decide) rfl rfl rfl rfl rfl rfl ?_
  refine c_X0_copyFrom hC1 hC d10 hH hN1 (fun i1 H1 o1 => ?_)
  show zR E _ _ X 25 _ _ _ _ _ _ _
  refine r_aload_n qX3_heightAfter_25 rfl ?_
  refine r_getr qX3_heightAfter_26 fX3_43 rfl (by assumption) (by first | assumption | rfl) ?_
  refine r_iload_n qX3_heightAfter_29 rfl ?_
  refine r_cv1 (cu2 := 2) (su2 := 12) qX3_heightAfter_30 kX3_247 rfl (by decide +kernel) (c := 0) (by assumption) (by decide) rfl rfl rfl rfl rfl rfl ?_
  refine c_X0_passMinutes hC1 H1 (show l < 1000 by omega) (fun i2 H2 o2 b2 => ?_)
  show zR E _ _ X 33 _ _ _ _ _ _ _
  have hk2 : k < zn (sWalk N l 5) := by rw [(sWalk_ok hO l).2]; exact hk
  have hU2 := H2.tu hk2
  obtain ⟨f0, f3, f4, f6, f7, f8, f9, f10, f11, f12, f13, fP⟩ := id hU2
  refine r_pop qX3_heightAfter_33 rfl ?_
  refine r_aload_n qX3_heightAfter_34 rfl ?_
  refine r_getr qX3_heightAfter_35 fX3_43 rfl (by assumption) (by first | assumption | rfl) ?_
  refine r_getr qX3_heightAfter_38 fX3_120 rfl (by assumption) (by first | assumption | rfl) ?_
  refine r_iload_n qX3_heightAfter_41 rfl ?_
  refine r_aaldN qX3_heightAfter_42 (by first | exact Or.inl (by assumption) | exact Or.inr (by assumption)) (by assumption) (by omega) rfl (by first | assumption | rfl) ?_
  refine r_cv0 (cu2 := 2) (su2 := 12) qX3_heightAfter_43 kX3_160 rfl (by decide +kernel) (c := 2) (by assumption) (by decide) rfl rfl rfl rfl rfl rfl ?_
  refine c_X2_level hT3 hU2 H2.1 hk2 ?_
  show zR E _ _ X 46 _ _ _ _ _ _ _
  refine r_iret qX3_heightAfter_46 rfl rfl rfl rfl ?_
  have hK := hK i2 (o2.trans o1) H2.no
  rw [oc3_v hv hv2 trivial, zk] at hK
  exact hK
set_option maxHeartbeats 4000000 in
set_option maxRecDepth 20000 in
theorem c_X3_temperatureAfter {E : Ev} {g : Sh} {i : Ni} {j : Nj} {K : Kp} {c rd tx ur sl sf sb : Nat} {A : Nat → Nat → Nat} {N : Nat → Int32} {t m : Int32} (hY : zY g c rd tx ur sl sf sb A) (hH : zH i (A 0) N) (hN1 : zNo i (A 1)) (hK : ∀ i' : Ni, zOu (A 1) i' i → zNo i' (A 1) → K (oc3 (tv (N 5) t) (0 ≤ m.toInt ∧ m.toInt ≤ 300) True 2 1 0 (.int (sWalk N (zn m) (42 + 21 * zn t + 5)))) g i' j) : zCon E mX3_temperatureAfter [.ref c, .int t, .int m] g i j K := by
  refine zcon_of (by decide +kernel) rfl rfl (lo := [.ref c, .int t, .int m]) rfl (fun X => ?_)
  obtain ⟨x1, x2, hC⟩ := id hY.x
  have hX := hY.x
  have y2 : gR g c 2 = A 1 0 := hY.2.2.2.1
  have hC1 := hY.cc (show 1 < 11 by decide)
  have hO := hH.1
  obtain ⟨a1, a2, a3, a4, a5, a6, a7, a8, a9, a10, a11, a12, a13, a14, a15, a16, -⟩ := id hC
  obtain ⟨e1, e2, e3, e4, e5, e6, e7, e8, e9, e10, e11, e12, e13, e14, e15, e16, -⟩ := id hC1
  obtain ⟨hT, hT8⟩ := hO.T8
  have d10 : ∀ p q, p < 30 → q < 30 → A 1 p ≠ A 0 q := fun p q hp hq => hY.ne (by decide) (by decide) (by decide) hp hq
  refine r_aload_n qX3_temperatureAfter_0 rfl ?_
  refine r_iload_n qX3_temperatureAfter_1 rfl ?_
  refine r_cv1 (cu2 := 1) (su2 := 6) qX3_temperatureAfter_2 kX3_141 rfl (by decide +kernel) (c := 3) (by assumption) (by decide) rfl rfl rfl rfl rfl rfl ?_
  refine c_X3_checkedTube hX hH (fun hv => t_out rfl rfl rfl (by have hK := hK i zOu.refl hN1; rw [oc3_a hv] at hK; exact hK)) (fun k ek hk => ?_)
  subst ek
  have hv := tv_mk hk (by have := hO.k8 hk; omega)
  have h8 := hO.k8 hk
  have zk : zn (nI k) = k := zn_nI (by omega)
  obtain ⟨tb1, hT3⟩ := hC1.tb h8
  have u1 := hT3.1
  obtain ⟨hm, hm6⟩ := hO.many hk
  show zR E _ _ X 5 _ _ _ _ _ _ _
  refine r_pop qX3_temperatureAfter_5 rfl ?_
  refine r_iload_n qX3_temperatureAfter_6 rfl ?_
  refine r_iconst (v := nI 0) qX3_temperatureAfter_7 (by decide) ?_
  refine r_sipush (v := nI 300) qX3_temperatureAfter_8 (by decide) ?_
  refine r_cs3 (cu2 := 2) (su2 := 12) qX3_temperatureAfter_11 kX3_164 rfl (by decide +kernel) rfl rfl rfl rfl rfl ?_
  refine c_X3_checkRange (lo := 0) (hi := 300) (by decide) (by decide) (fun hv2 => t_out rfl rfl rfl (by have hK := hK i zOu.refl hN1; rw [oc3_b hv hv2] at hK; exact hK)) (fun hv2 => ?_)
  obtain ⟨em, hm3⟩ := nn_nat (b := 300) (show 0 ≤ m.toInt ∧ m.toInt ≤ (300 : Nat) from hv2)
  generalize zn m = l at *
  subst em
  show zR E _ _ X 14 _ _ _ _ _ _ _
  refine r_aload_n qX3_temperatureAfter_14 rfl ?_
  refine r_getr qX3_temperatureAfter_15 fX3_43 rfl (by assumption) (by first | assumption | rfl) ?_
  refine r_aload_n qX3_temperatureAfter_18 rfl ?_
  refine r_getr qX3_temperatureAfter_19 fX3_40 rfl (by assumption) (by first | assumption | rfl) ?_
  refine r_cv1 (cu2 := 2) (su2 := 12) qX3_temperatureAfter_22 kX3_28 rfl (by decide +kernel) (c := 0) (by assumption) (by decide) rfl rfl rfl rfl rfl rfl ?_
  refine c_X0_copyFrom hC1 hC d10 hH hN1 (fun i1 H1 o1 => ?_)
  show zR E _ _ X 25 _ _ _ _ _ _ _
  refine r_aload_n qX3_temperatureAfter_25 rfl ?_
  refine r_getr qX3_temperatureAfter_26 fX3_43 rfl (by assumption) (by first | assumption | rfl) ?_
  refine r_iload_n qX3_temperatureAfter_29 rfl ?_
  refine r_cv1 (cu2 := 2) (su2 := 12) qX3_temperatureAfter_30 kX3_247 rfl (by decide +kernel) (c := 0) (by assumption) (by decide) rfl rfl rfl rfl rfl rfl ?_
  refine c_X0_passMinutes hC1 H1 (show l < 1000 by omega) (fun i2 H2 o2 b2 => ?_)
  show zR E _ _ X 33 _ _ _ _ _ _ _
  have hk2 : k < zn (sWalk N l 5) := by rw [(sWalk_ok hO l).2]; exact hk
  have hU2 := H2.tu hk2
  obtain ⟨f0, f3, f4, f6, f7, f8, f9, f10, f11, f12, f13, fP⟩ := id hU2
  refine r_pop qX3_temperatureAfter_33 rfl ?_
  refine r_aload_n qX3_temperatureAfter_34 rfl ?_
  refine r_getr qX3_temperatureAfter_35 fX3_43 rfl (by assumption) (by first | assumption | rfl) ?_
  refine r_getr qX3_temperatureAfter_38 fX3_120 rfl (by assumption) (by first | assumption | rfl) ?_
  refine r_iload_n qX3_temperatureAfter_41 rfl ?_
  refine r_aaldN qX3_temperatureAfter_42 (by first | exact Or.inl (by assumption) | exact Or.inr (by assumption)) (by assumption) (by omega) rfl (by first | assumption | rfl) ?_
  refine r_geti qX3_temperatureAfter_43 fX3_145 rfl (by assumption) ?_
  rw [f11]
  refine r_iret qX3_temperatureAfter_46 rfl rfl rfl rfl ?_
  have hK := hK i2 (o2.trans o1) H2.no
  rw [oc3_v hv hv2 trivial, zk] at hK
  exact hK
set_option maxHeartbeats 4000000 in
set_option maxRecDepth 20000 in
theorem c_X3_lossAfter {E : Ev} {g : Sh} {i : Ni} {j : Nj} {K : Kp} {c rd tx ur sl sf sb : Nat} {A : Nat → Nat → Nat} {N : Nat → Int32} {m : Int32} (hY : zY g c rd tx ur sl sf sb A) (hH : zH i (A 0) N) (hN1 : zNo i (A 1)) (hK : ∀ i' : Ni, zOu (A 1) i' i → zNo i' (A 1) → K (oc3 (0 ≤ m.toInt ∧ m.toInt ≤ 300) (True) True 1 0 0 (.int (sLost (sWalk N (zn m)) (zn (N 3)) - sLost N (zn (N 3))))) g i' j) : zCon E mX3_lossAfter [.ref c, .int m] g i j K := by
  refine zcon_of (by decide +kernel) rfl rfl (lo := [.ref c, .int m]) rfl (fun X => ?_)
  obtain ⟨x1, x2, hC⟩ := id hY.x
  have hX := hY.x
  have y2 : gR g c 2 = A 1 0 := hY.2.2.2.1
  have hC1 := hY.cc (show 1 < 11 by decide)
  have hO := hH.1
  obtain ⟨a1, a2, a3, a4, a5, a6, a7, a8, a9, a10, a11, a12, a13, a14, a15, a16, -⟩ := id hC
  obtain ⟨e1, e2, e3, e4, e5, e6, e7, e8, e9, e10, e11, e12, e13, e14, e15, e16, -⟩ := id hC1
  obtain ⟨hT, hT8⟩ := hO.T8
  have d10 : ∀ p q, p < 30 → q < 30 → A 1 p ≠ A 0 q := fun p q hp hq => hY.ne (by decide) (by decide) (by decide) hp hq
  refine r_iload_n qX3_lossAfter_0 rfl ?_
  refine r_iconst (v := nI 0) qX3_lossAfter_1 (by decide) ?_
  refine r_sipush (v := nI 300) qX3_lossAfter_2 (by decide) ?_
  refine r_cs3 (cu2 := 1) (su2 := 6) qX3_lossAfter_5 kX3_164 rfl (by decide +kernel) rfl rfl rfl rfl rfl ?_
  refine c_X3_checkRange (lo := 0) (hi := 300) (by decide) (by decide) (fun hv2 => t_out rfl rfl rfl (by have hK := hK i zOu.refl hN1; rw [oc3_a hv2] at hK; exact hK)) (fun hv2 => ?_)
  obtain ⟨em, hm3⟩ := nn_nat (b := 300) (show 0 ≤ m.toInt ∧ m.toInt ≤ (300 : Nat) from hv2)
  generalize zn m = l at *
  subst em
  show zR E _ _ X 8 _ _ _ _ _ _ _
  refine r_aload_n qX3_lossAfter_8 rfl ?_
  refine r_getr qX3_lossAfter_9 fX3_43 rfl (by assumption) (by first | assumption | rfl) ?_
  refine r_aload_n qX3_lossAfter_12 rfl ?_
  refine r_getr qX3_lossAfter_13 fX3_40 rfl (by assumption) (by first | assumption | rfl) ?_
  refine r_cv1 (cu2 := 1) (su2 := 6) qX3_lossAfter_16 kX3_28 rfl (by decide +kernel) (c := 0) (by assumption) (by decide) rfl rfl rfl rfl rfl rfl ?_
  refine c_X0_copyFrom hC1 hC d10 hH hN1 (fun i1 H1 o1 => ?_)
  show zR E _ _ X 19 _ _ _ _ _ _ _
  refine r_aload_n qX3_lossAfter_19 rfl ?_
  refine r_getr qX3_lossAfter_20 fX3_43 rfl (by assumption) (by first | assumption | rfl) ?_
  refine r_iload_n qX3_lossAfter_23 rfl ?_
  refine r_cv1 (cu2 := 1) (su2 := 6) qX3_lossAfter_24 kX3_247 rfl (by decide +kernel) (c := 0) (by assumption) (by decide) rfl rfl rfl rfl rfl rfl ?_
  refine c_X0_passMinutes hC1 H1 (show l < 1000 by omega) (fun i2 H2 o2 b2 => ?_)
  show zR E _ _ X 27 _ _ _ _ _ _ _
  refine r_iret qX3_lossAfter_27 rfl rfl rfl rfl ?_
  have hK := hK i2 (o2.trans o1) H2.no
  rw [oc3_v hv2 trivial trivial] at hK
  exact hK
set_option maxHeartbeats 4000000 in
set_option maxRecDepth 20000 in
theorem c_X3_minutesUntilSettled {E : Ev} {g : Sh} {i : Ni} {j : Nj} {K : Kp} {c rd tx ur sl sf sb : Nat} {A : Nat → Nat → Nat} {N : Nat → Int32} {t : Int32} (hY : zY g c rd tx ur sl sf sb A) (hH : zH i (A 0) N) (hN1 : zNo i (A 1)) (hK : ∀ i' : Ni, zOu (A 1) i' i → zNo i' (A 1) → K (oc3 (tv (N 5) t) (True) True 2 0 0 (.int (sUntil (fStill N (zn t)) 0 301))) g i' j) : zCon E mX3_minutesUntilSettled [.ref c, .int t] g i j K := by
  refine zcon_of (by decide +kernel) rfl rfl (lo := [.ref c, .int t, zJ]) rfl (fun X => ?_)
  obtain ⟨x1, x2, hC⟩ := id hY.x
  have hX := hY.x
  have y2 : gR g c 2 = A 1 0 := hY.2.2.2.1
  have hC1 := hY.cc (show 1 < 11 by decide)
  have hO := hH.1
  obtain ⟨a1, a2, a3, a4, a5, a6, a7, a8, a9, a10, a11, a12, a13, a14, a15, a16, -⟩ := id hC
  obtain ⟨e1, e2, e3, e4, e5, e6, e7, e8, e9, e10, e11, e12, e13, e14, e15, e16, -⟩ := id hC1
  obtain ⟨hT, hT8⟩ := hO.T8
  have d10 : ∀ p q, p < 30 → q < 30 → A 1 p ≠ A 0 q := fun p q hp hq => hY.ne (by decide) (by decide) (by decide) hp hq
  have KL : ∀ k : Nat, k < zn (N 5) → (∀ (i' : Ni), zOu (A 1) i' i → zNo i' (A 1) → K (.inl (some (.int (sUntil (fStill N k) 0 301)))) g i' j) → ∀ q p : Nat, p + q = 301 → (∀ v, v = sUntil (fStill N k) p q → v = sUntil (fStill N k) 0 301) → ∀ i1 : Ni, zH i1 (A 1) (sWalk N p) → zOu (A 1) i1 i → zR E mX3_minutesUntilSettled (zZ E mX3_minutesUntilSettled K) X 19 [.ref c, .int (nI k), .int (nI p)] [] g i1 j 1 6 := by
    intro k hk hK q
    have h8 := hO.k8 hk
    obtain ⟨tb1, hT3⟩ := hC1.tb h8
    have u1 := hT3.1
    induction q with
    | zero =>
      intro p hp hu i1 H1 o1
      obtain rfl : p = 301 := by omega
      have e := hu _ rfl
      rw [sUntil] at e
      refine r_iload_n qX3_minutesUntilSettled_19 rfl ?_
      refine r_sipush (v := nI 300) qX3_minutesUntilSettled_20 (by decide) ?_
      refine r_icmp_gt (t := 62) qX3_minutesUntilSettled_23 (by decide) (fun hc23 => ?_) (fun hc23 => absurd hc23 (fun h => h (nI_lt (by decide) (by decide))))
      refine r_iconst (v := (-1)) qX3_minutesUntilSettled_62 (by decide) ?_
      refine r_iret qX3_minutesUntilSettled_63 rfl rfl rfl rfl ?_
      rw [e]; exact hK i1 o1 H1.no
    | succ q ih =>
      intro p hp hu i1 H1 o1
      have hk1 : k < zn (sWalk N p 5) := by rw [(sWalk_ok hO p).2]; exact hk
      have hk2 : k < zn (sWalk N (p + 1) 5) := by rw [(sWalk_ok hO (p + 1)).2]; exact hk
      have hU1 := H1.tu hk1
      refine r_iload_n qX3_minutesUntilSettled_19 rfl ?_
      refine r_sipush (v := nI 300) qX3_minutesUntilSettled_20 (by decide) ?_
      refine r_icmp_gt (t := 62) qX3_minutesUntilSettled_23 (by decide) (fun hc23 => absurd hc23 (fun h => absurd h (Int32.not_lt.mpr (nI_le (by omega) (by omega))))) (fun hc23 => ?_)
      refine r_aload_n qX3_minutesUntilSettled_26 rfl ?_
      refine r_getr qX3_minutesUntilSettled_27 fX3_43 rfl (by assumption) (by first | assumption | rfl) ?_
      refine r_aload_n qX3_minutesUntilSettled_30 rfl ?_
      refine r_getr qX3_minutesUntilSettled_31 fX3_43 rfl (by assumption) (by first | assumption | rfl) ?_
      refine r_getr qX3_minutesUntilSettled_34 fX3_120 rfl (by assumption) (by first | assumption | rfl) ?_
      refine r_iload_n qX3_minutesUntilSettled_37 rfl ?_
      refine r_aaldN qX3_minutesUntilSettled_38 (by first | exact Or.inl (by assumption) | exact Or.inr (by assumption)) (by assumption) (by omega) rfl (by first | assumption | rfl) ?_
      refine r_cv1 (cu2 := 1) (su2 := 6) qX3_minutesUntilSettled_39 kX3_152 rfl (by decide +kernel) (c := 0) (by assumption) (by decide) rfl rfl rfl rfl rfl rfl ?_
      refine c_X0_atRest hC1 H1 hk1 ?_
      show zR E _ _ X 42 _ _ _ _ _ _ _
      refine r_if_eq (t := 47) qX3_minutesUntilSettled_42 (by decide) (fun hc42 => ?_) (fun hc42 => ?_)
      · refine r_aload_n qX3_minutesUntilSettled_47 rfl ?_
        refine r_getr qX3_minutesUntilSettled_48 fX3_43 rfl (by assumption) (by first | assumption | rfl) ?_
        refine r_iconst (v := nI 1) qX3_minutesUntilSettled_51 (by decide) ?_
        refine r_cv1 (cu2 := 1) (su2 := 6) qX3_minutesUntilSettled_52 kX3_247 rfl (by decide +kernel) (c := 0) (by assumption) (by decide) rfl rfl rfl rfl rfl rfl ?_
        refine c_X0_passMinutes hC1 H1 (show 1 < 1000 by decide) (fun i2 H2 o2 b2 => ?_)
        change zH i2 (A 1) (sWalk N (p + 1)) at H2
        show zR E _ _ X 55 _ _ _ _ _ _ _
        refine r_pop qX3_minutesUntilSettled_55 rfl ?_
        refine r_ii_3_2 qX3_minutesUntilSettled_56 rfl rfl (nI_inc p) ?_
        refine r_goto (t := 19) qX3_minutesUntilSettled_59 (by decide) ?_
        exact ih (p + 1) (by omega) (fun v hv => hu v (hv.trans (sUntil_n (fun h => zb_0.mp hc42 (of_decide_eq_true h))).symm)) i2 H2 (o2.trans o1)
      · refine r_iload_n qX3_minutesUntilSettled_45 rfl ?_
        refine r_iret qX3_minutesUntilSettled_46 rfl rfl rfl rfl ?_
        have e := hu (nI p) (sUntil_y (decide_eq_true (zb_ne.mp hc42))).symm; rw [e]; exact hK i1 o1 H1.no
  refine r_aload_n qX3_minutesUntilSettled_0 rfl ?_
  refine r_iload_n qX3_minutesUntilSettled_1 rfl ?_
  refine r_cv1 (cu2 := 1) (su2 := 6) qX3_minutesUntilSettled_2 kX3_141 rfl (by decide +kernel) (c := 3) (by assumption) (by decide) rfl rfl rfl rfl rfl rfl ?_
  refine c_X3_checkedTube hX hH (fun hv => t_out rfl rfl rfl (by have hK := hK i zOu.refl hN1; rw [oc3_a hv] at hK; exact hK)) (fun k ek hk => ?_)
  subst ek
  have hv := tv_mk hk (by have := hO.k8 hk; omega)
  have h8 := hO.k8 hk
  have zk : zn (nI k) = k := zn_nI (by omega)
  obtain ⟨tb1, hT3⟩ := hC1.tb h8
  have u1 := hT3.1
  obtain ⟨hm, hm6⟩ := hO.many hk
  show zR E _ _ X 5 _ _ _ _ _ _ _
  refine r_pop qX3_minutesUntilSettled_5 rfl ?_
  refine r_aload_n qX3_minutesUntilSettled_6 rfl ?_
  refine r_getr qX3_minutesUntilSettled_7 fX3_43 rfl (by assumption) (by first | assumption | rfl) ?_
  refine r_aload_n qX3_minutesUntilSettled_10 rfl ?_
  refine r_getr qX3_minutesUntilSettled_11 fX3_40 rfl (by assumption) (by first | assumption | rfl) ?_
  refine r_cv1 (cu2 := 1) (su2 := 6) qX3_minutesUntilSettled_14 kX3_28 rfl (by decide +kernel) (c := 0) (by assumption) (by decide) rfl rfl rfl rfl rfl rfl ?_
  refine c_X0_copyFrom hC1 hC d10 hH hN1 (fun i1 H1 o1 => ?_)
  show zR E _ _ X 17 _ _ _ _ _ _ _
  refine r_iconst (v := nI 0) qX3_minutesUntilSettled_17 (by decide) ?_
  refine r_is_3_2 qX3_minutesUntilSettled_18 rfl rfl ?_
  exact KL k hk (fun i' q1 q2 => by have hK := hK i' q1 q2; rw [oc3_v hv trivial trivial, zk] at hK; exact hK) 301 0 (by omega) (fun v hv => hv) i1 H1 o1
set_option maxHeartbeats 4000000 in
set_option maxRecDepth 20000 in
theorem c_X3_minutesUntilHeight {E : Ev} {g : Sh} {i : Ni} {j : Nj} {K : Kp} {c rd tx ur sl sf sb : Nat} {A : Nat → Nat → Nat} {N : Nat → Int32} {t h : Int32} (hY : zY g c rd tx ur sl sf sb A) (hH : zH i (A 0) N) (hN1 : zNo i (A 1)) (hK : ∀ i' : Ni, zOu (A 1) i' i → zNo i' (A 1) → K (oc3 (tv (N 5) t) (0 ≤ h.toInt ∧ h.toInt ≤ 999) True 2 1 0 (.int (sUntil (fHigh N (zn t) h) 0 301))) g i' j) : zCon E mX3_minutesUntilHeight [.ref c, .int t, .int h] g i j K := by
  refine zcon_of (by decide +kernel) rfl rfl (lo := [.ref c, .int t, .int h, zJ]) rfl (fun X => ?_)
  obtain ⟨x1, x2, hC⟩ := id hY.x
  have hX := hY.x
  have y2 : gR g c 2 = A 1 0 := hY.2.2.2.1
  have hC1 := hY.cc (show 1 < 11 by decide)
  have hO := hH.1
  obtain ⟨a1, a2, a3, a4, a5, a6, a7, a8, a9, a10, a11, a12, a13, a14, a15, a16, -⟩ := id hC
  obtain ⟨e1, e2, e3, e4, e5, e6, e7, e8, e9, e10, e11, e12, e13, e14, e15, e16, -⟩ := id hC1
  obtain ⟨hT, hT8⟩ := hO.T8
  have d10 : ∀ p q, p < 30 → q < 30 → A 1 p ≠ A 0 q := fun p q hp hq => hY.ne (by decide) (by decide) (by decide) hp hq
  have KL : ∀ k : Nat, k < zn (N 5) → (∀ (i' : Ni), zOu (A 1) i' i → zNo i' (A 1) → K (.inl (some (.int (sUntil (fHigh N k h) 0 301)))) g i' j) → ∀ q p : Nat, p + q = 301 → (∀ v, v = sUntil (fHigh N k h) p q → v = sUntil (fHigh N k h) 0 301) → ∀ i1 : Ni, zH i1 (A 1) (sWalk N p) → zOu (A 1) i1 i → zR E mX3_minutesUntilHeight (zZ E mX3_minutesUntilHeight K) X 27 [.ref c, .int (nI k), .int h, .int (nI p)] [] g i1 j 2 12 := by
    intro k hk hK q
    have h8 := hO.k8 hk
    obtain ⟨tb1, hT3⟩ := hC1.tb h8
    have u1 := hT3.1
    induction q with
    | zero =>
      intro p hp hu i1 H1 o1
      obtain rfl : p = 301 := by omega
      have e := hu _ rfl
      rw [sUntil] at e
      refine r_iload_n qX3_minutesUntilHeight_27 rfl ?_
      refine r_sipush (v := nI 300) qX3_minutesUntilHeight_28 (by decide) ?_
      refine r_icmp_gt (t := 67) qX3_minutesUntilHeight_31 (by decide) (fun hc31 => ?_) (fun hc31 => absurd hc31 (fun h => h (nI_lt (by decide) (by decide))))
      refine r_iconst (v := (-1)) qX3_minutesUntilHeight_67 (by decide) ?_
      refine r_iret qX3_minutesUntilHeight_68 rfl rfl rfl rfl ?_
      rw [e]; exact hK i1 o1 H1.no
    | succ q ih =>
      intro p hp hu i1 H1 o1
      have hk1 : k < zn (sWalk N p 5) := by rw [(sWalk_ok hO p).2]; exact hk
      have hk2 : k < zn (sWalk N (p + 1) 5) := by rw [(sWalk_ok hO (p + 1)).2]; exact hk
      have hU1 := H1.tu hk1
      refine r_iload_n qX3_minutesUntilHeight_27 rfl ?_
      refine r_sipush (v := nI 300) qX3_minutesUntilHeight_28 (by decide) ?_
      refine r_icmp_gt (t := 67) qX3_minutesUntilHeight_31 (by decide) (fun hc31 => absurd hc31 (fun h => absurd h (Int32.not_lt.mpr (nI_le (by omega) (by omega))))) (fun hc31 => ?_)
      refine r_aload_n qX3_minutesUntilHeight_34 rfl ?_
      refine r_getr qX3_minutesUntilHeight_35 fX3_43 rfl (by assumption) (by first | assumption | rfl) ?_
      refine r_getr qX3_minutesUntilHeight_38 fX3_120 rfl (by assumption) (by first | assumption | rfl) ?_
      refine r_iload_n qX3_minutesUntilHeight_41 rfl ?_
      refine r_aaldN qX3_minutesUntilHeight_42 (by first | exact Or.inl (by assumption) | exact Or.inr (by assumption)) (by assumption) (by omega) rfl (by first | assumption | rfl) ?_
      refine r_cv0 (cu2 := 2) (su2 := 12) qX3_minutesUntilHeight_43 kX3_160 rfl (by decide +kernel) (c := 2) (by assumption) (by decide) rfl rfl rfl rfl rfl rfl ?_
      refine c_X2_level hT3 hU1 H1.1 hk1 ?_
      show zR E _ _ X 46 _ _ _ _ _ _ _
      refine r_iload_n qX3_minutesUntilHeight_46 rfl ?_
      refine r_icmp_lt (t := 52) qX3_minutesUntilHeight_47 (by decide) (fun hc47 => ?_) (fun hc47 => ?_)
      · refine r_aload_n qX3_minutesUntilHeight_52 rfl ?_
        refine r_getr qX3_minutesUntilHeight_53 fX3_43 rfl (by assumption) (by first | assumption | rfl) ?_
        refine r_iconst (v := nI 1) qX3_minutesUntilHeight_56 (by decide) ?_
        refine r_cv1 (cu2 := 2) (su2 := 12) qX3_minutesUntilHeight_57 kX3_247 rfl (by decide +kernel) (c := 0) (by assumption) (by decide) rfl rfl rfl rfl rfl rfl ?_
        refine c_X0_passMinutes hC1 H1 (show 1 < 1000 by decide) (fun i2 H2 o2 b2 => ?_)
        change zH i2 (A 1) (sWalk N (p + 1)) at H2
        show zR E _ _ X 60 _ _ _ _ _ _ _
        refine r_pop qX3_minutesUntilHeight_60 rfl ?_
        refine r_ii_4_3 qX3_minutesUntilHeight_61 rfl rfl (nI_inc p) ?_
        refine r_goto (t := 27) qX3_minutesUntilHeight_64 (by decide) ?_
        exact ih (p + 1) (by omega) (fun v hv => hu v (hv.trans (sUntil_n (fun h => Int32.not_lt.mpr (of_decide_eq_true h) hc47)).symm)) i2 H2 (o2.trans o1)
      · refine r_iload_n qX3_minutesUntilHeight_50 rfl ?_
        refine r_iret qX3_minutesUntilHeight_51 rfl rfl rfl rfl ?_
        have e := hu (nI p) (sUntil_y (decide_eq_true (Int32.not_lt.mp hc47))).symm; rw [e]; exact hK i1 o1 H1.no
  refine r_aload_n qX3_minutesUntilHeight_0 rfl ?_
  refine r_iload_n qX3_minutesUntilHeight_1 rfl ?_
  refine r_cv1 (cu2 := 1) (su2 := 6) qX3_minutesUntilHeight_2 kX3_141 rfl (by decide +kernel) (c := 3) (by assumption) (by decide) rfl rfl rfl rfl rfl rfl ?_
  refine c_X3_checkedTube hX hH (fun hv => t_out rfl rfl rfl (by have hK := hK i zOu.refl hN1; rw [oc3_a hv] at hK; exact hK)) (fun k ek hk => ?_)
  subst ek
  have hv := tv_mk hk (by have := hO.k8 hk; omega)
  have h8 := hO.k8 hk
  have zk : zn (nI k) = k := zn_nI (by omega)
  obtain ⟨tb1, hT3⟩ := hC1.tb h8
  have u1 := hT3.1
  obtain ⟨hm, hm6⟩ := hO.many hk
  show zR E _ _ X 5 _ _ _ _ _ _ _
  refine r_pop qX3_minutesUntilHeight_5 rfl ?_
  refine r_iload_n qX3_minutesUntilHeight_6 rfl ?_
  refine r_iconst (v := nI 0) qX3_minutesUntilHeight_7 (by decide) ?_
  refine r_sipush (v := nI 999) qX3_minutesUntilHeight_8 (by decide) ?_
  refine r_cs3 (cu2 := 2) (su2 := 12) qX3_minutesUntilHeight_11 kX3_164 rfl (by decide +kernel) rfl rfl rfl rfl rfl ?_
  refine c_X3_checkRange (lo := 0) (hi := 999) (by decide) (by decide) (fun hv2 => t_out rfl rfl rfl (by have hK := hK i zOu.refl hN1; rw [oc3_b hv hv2] at hK; exact hK)) (fun hv2 => ?_)
  show zR E _ _ X 14 _ _ _ _ _ _ _
  refine r_aload_n qX3_minutesUntilHeight_14 rfl ?_
  refine r_getr qX3_minutesUntilHeight_15 fX3_43 rfl (by assumption) (by first | assumption | rfl) ?_
  refine r_aload_n qX3_minutesUntilHeight_18 rfl ?_
  refine r_getr qX3_minutesUntilHeight_19 fX3_40 rfl (by assumption) (by first | assumption | rfl) ?_
  refine r_cv1 (cu2 := 2) (su2 := 12) qX3_minutesUntilHeight_22 kX3_28 rfl (by decide +kernel) (c := 0) (by assumption) (by decide) rfl rfl rfl rfl rfl rfl ?_
  refine c_X0_copyFrom hC1 hC d10 hH hN1 (fun i1 H1 o1 => ?_)
  show zR E _ _ X 25 _ _ _ _ _ _ _
  refine r_iconst (v := nI 0) qX3_minutesUntilHeight_25 (by decide) ?_
  refine r_is_4_3 qX3_minutesUntilHeight_26 rfl rfl ?_
  exact KL k hk (fun i' q1 q2 => by have hK := hK i' q1 q2; rw [oc3_v hv hv2 trivial, zk] at hK; exact hK) 301 0 (by omega) (fun v hv => hv) i1 H1 o1
set_option maxHeartbeats 4000000 in
set_option maxRecDepth 20000 in
theorem c_X3_minutesUntilSpill {E : Ev} {g : Sh} {i : Ni} {j : Nj} {K : Kp} {c rd tx ur sl sf sb : Nat} {A : Nat → Nat → Nat} {N : Nat → Int32} {t : Int32} (hY : zY g c rd tx ur sl sf sb A) (hH : zH i (A 0) N) (hN1 : zNo i (A 1)) (hK : ∀ i' : Ni, zOu (A 1) i' i → zNo i' (A 1) → K (oc3 (tv (N 5) t) (True) True 2 0 0 (.int (sUntil (fSpill N (zn t)) 1 300))) g i' j) : zCon E mX3_minutesUntilSpill [.ref c, .int t] g i j K := by
  refine zcon_of (by decide +kernel) rfl rfl (lo := [.ref c, .int t, zJ]) rfl (fun X => ?_)
  obtain ⟨x1, x2, hC⟩ := id hY.x
  have hX := hY.x
  have y2 : gR g c 2 = A 1 0 := hY.2.2.2.1
  have hC1 := hY.cc (show 1 < 11 by decide)
  have hO := hH.1
  obtain ⟨a1, a2, a3, a4, a5, a6, a7, a8, a9, a10, a11, a12, a13, a14, a15, a16, -⟩ := id hC
  obtain ⟨e1, e2, e3, e4, e5, e6, e7, e8, e9, e10, e11, e12, e13, e14, e15, e16, -⟩ := id hC1
  obtain ⟨hT, hT8⟩ := hO.T8
  have d10 : ∀ p q, p < 30 → q < 30 → A 1 p ≠ A 0 q := fun p q hp hq => hY.ne (by decide) (by decide) (by decide) hp hq
  have KL : ∀ k : Nat, k < zn (N 5) → (∀ (i' : Ni), zOu (A 1) i' i → zNo i' (A 1) → K (.inl (some (.int (sUntil (fSpill N k) 1 300)))) g i' j) → ∀ q p : Nat, p + q = 300 → (∀ v, v = sUntil (fSpill N k) (p + 1) q → v = sUntil (fSpill N k) 1 300) → ∀ i1 : Ni, zH i1 (A 1) (sWalk N p) → zOu (A 1) i1 i → zR E mX3_minutesUntilSpill (zZ E mX3_minutesUntilSpill K) X 19 [.ref c, .int (nI k), .int (nI (p + 1))] [] g i1 j 1 6 := by
    intro k hk hK q
    have h8 := hO.k8 hk
    obtain ⟨tb1, hT3⟩ := hC1.tb h8
    have u1 := hT3.1
    induction q with
    | zero =>
      intro p hp hu i1 H1 o1
      obtain rfl : p = 300 := by omega
      have e := hu _ rfl
      rw [sUntil] at e
      refine r_iload_n qX3_minutesUntilSpill_19 rfl ?_
      refine r_sipush (v := nI 300) qX3_minutesUntilSpill_20 (by decide) ?_
      refine r_icmp_gt (t := 58) qX3_minutesUntilSpill_23 (by decide) (fun hc23 => ?_) (fun hc23 => absurd hc23 (fun h => h (nI_lt (by decide) (by decide))))
      refine r_iconst (v := (-1)) qX3_minutesUntilSpill_58 (by decide) ?_
      refine r_iret qX3_minutesUntilSpill_59 rfl rfl rfl rfl ?_
      rw [e]; exact hK i1 o1 H1.no
    | succ q ih =>
      intro p hp hu i1 H1 o1
      have hk1 : k < zn (sWalk N p 5) := by rw [(sWalk_ok hO p).2]; exact hk
      have hk2 : k < zn (sWalk N (p + 1) 5) := by rw [(sWalk_ok hO (p + 1)).2]; exact hk
      have hU1 := H1.tu hk1
      refine r_iload_n qX3_minutesUntilSpill_19 rfl ?_
      refine r_sipush (v := nI 300) qX3_minutesUntilSpill_20 (by decide) ?_
      refine r_icmp_gt (t := 58) qX3_minutesUntilSpill_23 (by decide) (fun hc23 => absurd hc23 (fun h => absurd h (Int32.not_lt.mpr (nI_le (by omega) (by omega))))) (fun hc23 => ?_)
      refine r_aload_n qX3_minutesUntilSpill_26 rfl ?_
      refine r_getr qX3_minutesUntilSpill_27 fX3_43 rfl (by assumption) (by first | assumption | rfl) ?_
      refine r_iconst (v := nI 1) qX3_minutesUntilSpill_30 (by decide) ?_
      refine r_cv1 (cu2 := 1) (su2 := 6) qX3_minutesUntilSpill_31 kX3_247 rfl (by decide +kernel) (c := 0) (by assumption) (by decide) rfl rfl rfl rfl rfl rfl ?_
      refine c_X0_passMinutes hC1 H1 (show 1 < 1000 by decide) (fun i2 H2 o2 b2 => ?_)
      change zH i2 (A 1) (sWalk N (p + 1)) at H2
      have hb := b2 (by decide) k (by rw [(sWalk_ok hO p).2]; exact hk)
      change _ ↔ (sWalk N (p + 1) 9 >>> (nI k &&& 31)) &&& nI 1 = nI 1 at hb
      show zR E _ _ X 34 _ _ _ _ _ _ _
      refine r_pop qX3_minutesUntilSpill_34 rfl ?_
      refine r_aload_n qX3_minutesUntilSpill_35 rfl ?_
      refine r_getr qX3_minutesUntilSpill_36 fX3_43 rfl (by assumption) (by first | assumption | rfl) ?_
      refine r_getr qX3_minutesUntilSpill_39 fX3_120 rfl (by assumption) (by first | assumption | rfl) ?_
      refine r_iload_n qX3_minutesUntilSpill_42 rfl ?_
      refine r_aaldN qX3_minutesUntilSpill_43 (by first | exact Or.inl (by assumption) | exact Or.inr (by assumption)) (by assumption) (by omega) rfl (by first | assumption | rfl) ?_
      refine r_geti qX3_minutesUntilSpill_44 fX3_250 rfl (by assumption) ?_
      refine r_if_le (t := 52) qX3_minutesUntilSpill_47 (by decide) (fun hc47 => ?_) (fun hc47 => ?_)
      · refine r_ii_3_2 qX3_minutesUntilSpill_52 rfl rfl (nI_inc (p + 1)) ?_
        refine r_goto (t := 19) qX3_minutesUntilSpill_55 (by decide) ?_
        exact ih (p + 1) (by omega) (fun v hv => hu v (hv.trans (sUntil_n (fun h => Int32.not_lt.mpr hc47 (hb.mpr (of_decide_eq_true h)))).symm)) i2 H2 (o2.trans o1)
      · refine r_iload_n qX3_minutesUntilSpill_50 rfl ?_
        refine r_iret qX3_minutesUntilSpill_51 rfl rfl rfl rfl ?_
        have e := hu (nI (p + 1)) (sUntil_y (decide_eq_true (hb.mp (Int32.not_le.mp hc47)))).symm; rw [e]; exact hK i2 (o2.trans o1) H2.no
  refine r_aload_n qX3_minutesUntilSpill_0 rfl ?_
  refine r_iload_n qX3_minutesUntilSpill_1 rfl ?_
  refine r_cv1 (cu2 := 1) (su2 := 6) qX3_minutesUntilSpill_2 kX3_141 rfl (by decide +kernel) (c := 3) (by assumption) (by decide) rfl rfl rfl rfl rfl rfl ?_
  refine c_X3_checkedTube hX hH (fun hv => t_out rfl rfl rfl (by have hK := hK i zOu.refl hN1; rw [oc3_a hv] at hK; exact hK)) (fun k ek hk => ?_)
  subst ek
  have hv := tv_mk hk (by have := hO.k8 hk; omega)
  have h8 := hO.k8 hk
  have zk : zn (nI k) = k := zn_nI (by omega)
  obtain ⟨tb1, hT3⟩ := hC1.tb h8
  have u1 := hT3.1
  obtain ⟨hm, hm6⟩ := hO.many hk
  show zR E _ _ X 5 _ _ _ _ _ _ _
  refine r_pop qX3_minutesUntilSpill_5 rfl ?_
  refine r_aload_n qX3_minutesUntilSpill_6 rfl ?_
  refine r_getr qX3_minutesUntilSpill_7 fX3_43 rfl (by assumption) (by first | assumption | rfl) ?_
  refine r_aload_n qX3_minutesUntilSpill_10 rfl ?_
  refine r_getr qX3_minutesUntilSpill_11 fX3_40 rfl (by assumption) (by first | assumption | rfl) ?_
  refine r_cv1 (cu2 := 1) (su2 := 6) qX3_minutesUntilSpill_14 kX3_28 rfl (by decide +kernel) (c := 0) (by assumption) (by decide) rfl rfl rfl rfl rfl rfl ?_
  refine c_X0_copyFrom hC1 hC d10 hH hN1 (fun i1 H1 o1 => ?_)
  show zR E _ _ X 17 _ _ _ _ _ _ _
  refine r_iconst (v := nI 1) qX3_minutesUntilSpill_17 (by decide) ?_
  refine r_is_3_2 qX3_minutesUntilSpill_18 rfl rfl ?_
  exact KL k hk (fun i' q1 q2 => by have hK := hK i' q1 q2; rw [oc3_v hv trivial trivial, zk] at hK; exact hK) 300 0 (by omega) (fun v hv => hv) i1 H1 o1

