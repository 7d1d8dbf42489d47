/-! ===== THE CLASS: CHANGES ===== -/
theorem zC.kd {g : Sh} {a : Nat → Nat} (h : zC g a) {q : Nat} (hq : q < 30) : gT g (a q) = 1 ∨ gT g (a q) = 11 ∨ gT g (a q) = 15 ∨ gT g (a q) = 3 := by
  obtain ⟨a1, a2, a3, a4, a5, a6, a7, a8, a9, a10, a11, a12, a13, a14, a15, a16, a17, -⟩ := h
  rcases Nat.lt_or_ge q 6 with h6 | h6
  · rcases (show q = 0 ∨ q = 1 ∨ q = 2 ∨ q = 3 ∨ q = 4 ∨ q = 5 by omega) with rfl | rfl | rfl | rfl | rfl | rfl
    · exact Or.inl a1
    · exact Or.inr (Or.inl a7)
    · exact Or.inr (Or.inl a9)
    · exact Or.inr (Or.inl a11)
    · exact Or.inr (Or.inl a13)
    · exact Or.inr (Or.inr (Or.inl a15))
  · obtain ⟨k, hk, h⟩ : ∃ k, k < 8 ∧ (q = 6 + 3 * k ∨ q = 7 + 3 * k ∨ q = 8 + 3 * k) := ⟨(q - 6) / 3, by omega, by omega⟩
    obtain ⟨-, t1, -, -, t4, -, t6, -⟩ := a17 k hk
    rcases h with rfl | rfl | rfl
    · exact Or.inr (Or.inr (Or.inr t1))
    · exact Or.inr (Or.inl t4)
    · exact Or.inr (Or.inl t6)
theorem zY.cn {g : Sh} {c rd tx ur sl sf sb : Nat} {A : Nat → Nat → Nat} (h : zY g c rd tx ur sl sf sb A) {n q : Nat} (hn : n < 11) (hq : q < 30) : A n q ≠ c := fun e => by
  have z := (h.cc hn).kd hq
  rw [e, h.1] at z
  omega
theorem zH.nn {i : Ni} {a : Nat → Nat} {N : Nat → Int32} (h : zH i a N) : zNo i a := h.no
/-- what stands behind the row's being remembered -/
def zRm (c : Nat) (A : Nat → Nat → Nat) (u w : Nat) (i' i : Ni) (N : Nat → Int32) : Prop := zH i' (A (3 + u)) N ∧ i' c 7 = nI (if u = 5 then 0 else u + 1) ∧ i' c 8 = nI (if w = 6 then 6 else w + 1) ∧ (∀ f, f ≠ 7 → f ≠ 8 → i' c f = i c f) ∧ ∀ r, r ≠ c → (∀ q, q < 30 → r ≠ A (3 + u) q) → i' r = i r
def zAc (c : Nat) (A : Nat → Nat → Nat) (u w : Nat) (i' i : Ni) (N N' : Nat → Int32) : Prop := zH i' (A 0) N' ∧ zH i' (A (3 + u)) N ∧ i' c 7 = nI (if u = 5 then 0 else u + 1) ∧ i' c 8 = nI (if w = 6 then 6 else w + 1) ∧ (∀ f, f ≠ 7 → f ≠ 8 → i' c f = i c f) ∧ ∀ r, r ≠ c → (∀ q, q < 30 → r ≠ A 0 q) → (∀ q, q < 30 → r ≠ A (3 + u) q) → i' r = i r
theorem zRm.cur {g : Sh} {c rd tx ur sl sf sb : Nat} {A : Nat → Nat → Nat} {u w : Nat} {i i' : Ni} {N : Nat → Int32} (hY : zY g c rd tx ur sl sf sb A) (hu : u < 6) (hH : zH i (A 0) N) (h : zRm c A u w i' i N) : zH i' (A 0) N :=
  hH.ou (fun q hq => h.2.2.2.2 _ (hY.cn (by decide) hq) (fun q' hq' => hY.ne (by decide) (by omega) (by omega) hq hq'))
theorem zRm.ac {g : Sh} {c rd tx ur sl sf sb : Nat} {A : Nat → Nat → Nat} {u w : Nat} {i i1 i' : Ni} {N N' : Nat → Int32} (hY : zY g c rd tx ur sl sf sb A) (hu : u < 6) (h : zRm c A u w i1 i N) (h2 : zH i' (A 0) N') (o : zOu (A 0) i' i1) : zAc c A u w i' i N N' := by
  obtain ⟨r1, r2, r3, r4, r5⟩ := h
  have ec : i' c = i1 c := o c (fun q hq => Ne.symm (hY.cn (by decide) hq))
  exact ⟨h2, r1.ou (fun q hq => o _ (fun q' hq' => hY.ne (by omega) (by decide) (by omega) hq hq')), by rw [ec]; exact r2, by rw [ec]; exact r3, fun f a b => by rw [ec]; exact r4 f a b, fun r x1 x2 x3 => (o r x2).trans (r5 r x1 x3)⟩
set_option maxHeartbeats 4000000 in
set_option maxRecDepth 20000 in
theorem c_X3_rememberCurrent {E : Ev} {g : Sh} {i : Ni} {j : Nj} {K : Kp} {c rd tx ur sl sf sb u w : Nat} {A : Nat → Nat → Nat} {N : Nat → Int32} (hY : zY g c rd tx ur sl sf sb A) (hH : zH i (A 0) N) (hu : i c 7 = nI u) (hu6 : u < 6) (hw : i c 8 = nI w) (hw6 : w ≤ 6) (hN : zNo i (A (3 + u))) (hK : ∀ i' : Ni, zRm c A u w i' i N → K (.inl none) g i' j) : zCon E mX3_rememberCurrent [.ref c] g i j K := by
  refine zcon_of (by decide +kernel) rfl rfl (lo := [.ref c]) rfl (fun X => ?_)
  obtain ⟨x1, x2, hC⟩ := id hY.x
  have hX := hY.x
  have hO := hH.1
  obtain ⟨a1, a2, a3, a4, a5, a6, a7, a8, a9, a10, a11, a12, a13, a14, a15, a16, -⟩ := id hC
  obtain ⟨c5, c6, c7, c8, c9, c10, c11, c12⟩ := hH.cnt
  obtain ⟨hT, hT8⟩ := hO.T8
  obtain ⟨hBt, hB4⟩ := hO.B4
  have y3 : gR g c 3 = ur := hY.2.2.2.2.1
  obtain ⟨y11, y12, y13⟩ := hY.2.2.2.2.2.2.2.2.2.2.1
  have y14 := y13 u hu6
  have hCu := hY.cc (show 3 + u < 11 by omega)
  have b1 := hCu.1
  have cA : ∀ q, q < 30 → c ≠ A (3 + u) q := fun q hq => Ne.symm (hY.cn (by omega) hq)
  have K38 : ∀ i1 : Ni, zH i1 (A (3 + u)) N → i1 c 7 = nI (if u = 5 then 0 else u + 1) → i1 c 8 = nI w → (∀ f, f ≠ 7 → f ≠ 8 → i1 c f = i c f) → (∀ r, r ≠ c → (∀ q, q < 30 → r ≠ A (3 + u) q) → i1 r = i r) → zR E mX3_rememberCurrent (zZ E mX3_rememberCurrent K) X 38 [.ref c] [] g i1 j 0 0 := by
    intro i1 H1 e7 e8 ef eo
    have HH : ∀ F, zH (wA i1 c F) (A (3 + u)) N := fun F => H1.ou (fun q hq => wA_n (Ne.symm (cA q hq)))
    refine r_aload_n qX3_rememberCurrent_38 rfl ?_
    refine r_geti qX3_rememberCurrent_39 fX3_71 rfl (by assumption) ?_
    rw [e8]
    refine r_bipush (v := nI 6) qX3_rememberCurrent_42 (by decide) ?_
    refine r_icmp_ge (t := 57) qX3_rememberCurrent_44 (by decide) (fun hc44 => ?_) (fun hc44 => ?_)
    · refine r_vret qX3_rememberCurrent_57 rfl rfl rfl ?_
      first | exact hK i1 ⟨H1, e7, by rw [e8, if_pos (Nat.le_antisymm hw6 (Nat.le_of_not_lt fun h => nI_ge h (by decide) hc44)), show w = 6 from Nat.le_antisymm hw6 (Nat.le_of_not_lt fun h => nI_ge h (by decide) hc44)], ef, eo⟩ | exact hK _ ⟨HH _, by rw [wA_s, pk_un (by decide)]; exact e7, by rw [wA_s, pk_us, if_neg (fun h => hc44 (by rw [h]; decide))], fun f x1 x2 => by rw [wA_s, pk_un x2]; exact ef f x1 x2, fun r x1 x2 => by rw [wA_n x1]; exact eo r x1 x2⟩
    · refine r_aload_n qX3_rememberCurrent_47 rfl ?_
      refine r_dup qX3_rememberCurrent_48 rfl ?_
      refine r_geti qX3_rememberCurrent_49 fX3_71 rfl (by assumption) ?_
      rw [e8]
      refine r_iconst (v := nI 1) qX3_rememberCurrent_52 (by decide) ?_
      first | with_reducible refine r_iaddN qX3_rememberCurrent_53 ?_ | refine r_iadd qX3_rememberCurrent_53 ?_
      refine r_puti qX3_rememberCurrent_54 fX3_71 (Or.inl rfl) rfl rfl rfl (by assumption) ?_
      refine r_vret qX3_rememberCurrent_57 rfl rfl rfl ?_
      first | exact hK i1 ⟨H1, e7, by rw [e8, if_pos (Nat.le_antisymm hw6 (Nat.le_of_not_lt fun h => nI_ge h (by decide) hc44)), show w = 6 from Nat.le_antisymm hw6 (Nat.le_of_not_lt fun h => nI_ge h (by decide) hc44)], ef, eo⟩ | exact hK _ ⟨HH _, by rw [wA_s, pk_un (by decide)]; exact e7, by rw [wA_s, pk_us, if_neg (fun h => hc44 (by rw [h]; decide))], fun f x1 x2 => by rw [wA_s, pk_un x2]; exact ef f x1 x2, fun r x1 x2 => by rw [wA_n x1]; exact eo r x1 x2⟩
  refine r_aload_n qX3_rememberCurrent_0 rfl ?_
  refine r_getr qX3_rememberCurrent_1 fX3_50 rfl (by assumption) (by first | assumption | rfl) ?_
  refine r_aload_n qX3_rememberCurrent_4 rfl ?_
  refine r_geti qX3_rememberCurrent_5 fX3_68 rfl (by assumption) ?_
  rw [hu]
  refine r_aaldN qX3_rememberCurrent_8 (by first | exact Or.inl (by assumption) | exact Or.inr (by assumption)) (by assumption) (by omega) rfl (by first | assumption | rfl) ?_
  refine r_aload_n qX3_rememberCurrent_9 rfl ?_
  refine r_getr qX3_rememberCurrent_10 fX3_40 rfl (by assumption) (by first | assumption | rfl) ?_
  refine r_cv1 (cu2 := 0) (su2 := 0) qX3_rememberCurrent_13 kX3_28 rfl (by decide +kernel) (c := 0) (by assumption) (by decide) rfl rfl rfl rfl rfl rfl ?_
  refine c_X0_copyFrom hCu hC (fun p q hp hq => hY.ne (by omega) (by decide) (by omega) hp hq) hH hN (fun i1 H1 o1 => ?_)
  show zR E _ _ X 16 _ _ _ _ _ _ _
  refine r_aload_n qX3_rememberCurrent_16 rfl ?_
  refine r_aload_n qX3_rememberCurrent_17 rfl ?_
  refine r_geti qX3_rememberCurrent_18 fX3_68 rfl (by assumption) ?_
  rw [o1 c cA, hu]
  refine r_iconst (v := nI 5) qX3_rememberCurrent_21 (by decide) ?_
  refine r_icmp_ne (t := 29) qX3_rememberCurrent_22 (by decide) (fun hc22 => ?_) (fun hc22 => ?_)
  · refine r_aload_n qX3_rememberCurrent_29 rfl ?_
    refine r_geti qX3_rememberCurrent_30 fX3_68 rfl (by assumption) ?_
    rw [o1 c cA, hu]
    refine r_iconst (v := nI 1) qX3_rememberCurrent_33 (by decide) ?_
    first | with_reducible refine r_iaddN qX3_rememberCurrent_34 ?_ | refine r_iadd qX3_rememberCurrent_34 ?_
    refine r_puti qX3_rememberCurrent_35 fX3_68 (Or.inl rfl) rfl rfl rfl (by assumption) ?_
    first | exact K38 _ (H1.ou (fun q hq => wA_n (Ne.symm (cA q hq)))) (by rw [wA_s, pk_us, if_pos ((nI_eq (by omega) (by decide)).mp hc22)]) (by rw [wA_s, pk_un (by decide), o1 c cA]; exact hw) (fun f x1 x2 => by rw [wA_s, pk_un x1, o1 c cA]) (fun r x1 x2 => by rw [wA_n x1]; exact o1 r x2) | exact K38 _ (H1.ou (fun q hq => wA_n (Ne.symm (cA q hq)))) (by rw [wA_s, pk_us, if_neg (fun h => hc22 (congrArg nI h))]) (by rw [wA_s, pk_un (by decide), o1 c cA]; exact hw) (fun f x1 x2 => by rw [wA_s, pk_un x1, o1 c cA]) (fun r x1 x2 => by rw [wA_n x1]; exact o1 r x2)
  · refine r_iconst (v := nI 0) qX3_rememberCurrent_25 (by decide) ?_
    refine r_goto (t := 35) qX3_rememberCurrent_26 (by decide) ?_
    refine r_puti qX3_rememberCurrent_35 fX3_68 (Or.inl rfl) rfl rfl rfl (by assumption) ?_
    first | exact K38 _ (H1.ou (fun q hq => wA_n (Ne.symm (cA q hq)))) (by rw [wA_s, pk_us, if_pos ((nI_eq (by omega) (by decide)).mp hc22)]) (by rw [wA_s, pk_un (by decide), o1 c cA]; exact hw) (fun f x1 x2 => by rw [wA_s, pk_un x1, o1 c cA]) (fun r x1 x2 => by rw [wA_n x1]; exact o1 r x2) | exact K38 _ (H1.ou (fun q hq => wA_n (Ne.symm (cA q hq)))) (by rw [wA_s, pk_us, if_neg (fun h => hc22 (congrArg nI h))]) (by rw [wA_s, pk_un (by decide), o1 c cA]; exact hw) (fun f x1 x2 => by rw [wA_s, pk_un x1, o1 c cA]) (fun r x1 x2 => by rw [wA_n x1]; exact o1 r x2)
set_option maxHeartbeats 4000000 in
set_option maxRecDepth 20000 in
theorem c_X3_dip {E : Ev} {g : Sh} {i : Ni} {j : Nj} {K : Kp} {c rd tx ur sl sf sb u w : Nat} {A : Nat → Nat → Nat} {N : Nat → Int32} {t v : Int32} (hY : zY g c rd tx ur sl sf sb A) (hH : zH i (A 0) N) (hu : i c 7 = nI u) (hu6 : u < 6) (hw : i c 8 = nI w) (hw6 : w ≤ 6) (hN : zNo i (A (3 + u))) (hK0 : ¬ ((dA N t v) ∧ (dB N t v)) → K (oc3 (dA N t v) (dB N t v) (True) 2 0 0 (.int 0)) g i j) (hK1 : (dA N t v) → (dB N t v) → ∀ i' : Ni, zAc c A u w i' i N (upd N (42 + 21 * zn t + 7) v) → K (.inl (some (.int (sAround (upd N (42 + 21 * zn t + 7) v) (zn t))))) g i' j) : zCon E mX3_dip [.ref c, .int t, .int v] g i j K := by
  refine zcon_of (by decide +kernel) rfl rfl (lo := [.ref c, .int t, .int v, zJ]) rfl (fun X => ?_)
  obtain ⟨x1, x2, hC⟩ := id hY.x
  have hX := hY.x
  have hO := hH.1
  obtain ⟨a1, a2, a3, a4, a5, a6, a7, a8, a9, a10, a11, a12, a13, a14, a15, a16, -⟩ := id hC
  obtain ⟨c5, c6, c7, c8, c9, c10, c11, c12⟩ := hH.cnt
  obtain ⟨hT, hT8⟩ := hO.T8
  obtain ⟨hBt, hB4⟩ := hO.B4
  refine r_aload_n qX3_dip_0 rfl ?_
  refine r_iload_n qX3_dip_1 rfl ?_
  refine r_cv1 (cu2 := 1) (su2 := 6) qX3_dip_2 kX3_141 rfl (by decide +kernel) (c := 3) (by assumption) (by decide) rfl rfl rfl rfl rfl rfl ?_
  refine c_X3_checkedTube hX hH (fun hv => t_out rfl rfl rfl (by have z := hK0 (fun h => hv h.1.1); rw [oc3_a (fun h => hv h.1)] at z; exact z)) (fun k ek hk => ?_)
  subst ek
  have hv := tv_mk hk (by have := hO.k8 hk; omega)
  have h8 := hO.k8 hk
  have zk : zn (nI k) = k := zn_nI (by omega)
  obtain ⟨tb1, hT3⟩ := hC.tb h8
  have u1 := hT3.1
  have hU := hH.tu hk
  obtain ⟨f0, f3, f4, f6, f7, f8, f9, f10, f11, f12, f13, fP⟩ := id hU
  obtain ⟨hm, hm6⟩ := hO.many hk
  show zR E _ _ X 5 _ _ _ _ _ _ _
  refine r_as_4_3 qX3_dip_5 rfl rfl ?_
  refine r_aload_n qX3_dip_6 rfl ?_
  refine r_iload_n qX3_dip_7 rfl ?_
  refine r_cv1 (cu2 := 2) (su2 := 12) qX3_dip_8 kX3_113 rfl (by decide +kernel) (c := 3) (by assumption) (by decide) rfl rfl rfl rfl rfl rfl ?_
  refine c_X3_checkBath hX hH (fun hv2 => t_out rfl rfl rfl (by have z := hK0 (fun h => hv2 h.1.2); rw [oc3_a (fun h => hv2 h.2)] at z; exact z)) (fun b eb hb => ?_)
  subst eb
  have hv2 := tv_mk hb (by omega)
  have hA : dA N (nI k) (nI b) := ⟨hv, hv2⟩
  show zR E _ _ X 11 _ _ _ _ _ _ _
  refine r_aload_n qX3_dip_11 rfl ?_
  refine r_getr qX3_dip_12 fX3_40 rfl (by assumption) (by first | assumption | rfl) ?_
  refine r_aload_n qX3_dip_15 rfl ?_
  refine r_iload_n qX3_dip_16 rfl ?_
  refine r_cv2 (cu2 := 2) (su2 := 12) qX3_dip_17 kX3_209 rfl (by decide +kernel) (c := 0) (by assumption) (by decide) rfl rfl rfl rfl rfl rfl ?_
  refine c_X0_whyNotDip hC hH hk ?_
  show zR E _ _ X 20 _ _ _ _ _ _ _
  refine r_if_eq (t := 33) qX3_dip_20 (by decide) (fun hc20 => ?_) (fun hc20 => ?_)
  · refine r_aload_n qX3_dip_33 rfl ?_
    refine r_cv0 (cu2 := 2) (su2 := 12) qX3_dip_34 kX3_101 rfl (by decide +kernel) (c := 3) (by assumption) (by decide) rfl rfl rfl rfl rfl rfl ?_
    refine c_X3_rememberCurrent hY hH hu hu6 hw hw6 hN (fun i1 R1 => ?_)
    have H1 := R1.cur hY hu6 hH
    obtain ⟨b5, b6, b7, b8, b9, b10, b11, b12⟩ := H1.cnt
    obtain ⟨g0, g3, g4, g6, g7, g8, g9, g10, g11, g12, g13, gP⟩ := H1.tu hk
    have H2 := H1.bath hC hk (Or.inr ⟨b, rfl, hb⟩)
    show zR E _ _ X 37 _ _ _ _ _ _ _
    refine r_aload_n qX3_dip_37 rfl ?_
    refine r_iload_n qX3_dip_38 rfl ?_
    refine r_puti qX3_dip_39 fX3_124 (Or.inl rfl) rfl rfl rfl (by assumption) ?_
    refine r_aload_n qX3_dip_42 rfl ?_
    refine r_getr qX3_dip_43 fX3_40 rfl (by assumption) (by first | assumption | rfl) ?_
    refine r_aload_n qX3_dip_46 rfl ?_
    refine r_cv1 (cu2 := 2) (su2 := 12) qX3_dip_47 kX3_148 rfl (by decide +kernel) (c := 0) (by assumption) (by decide) rfl rfl rfl rfl rfl rfl ?_
    refine c_X0_tenthsAround hC H2 (by rw [pk_un (by omega)]; exact hk) ?_
    show zR E _ _ X 50 _ _ _ _ _ _ _
    refine r_iret qX3_dip_50 rfl rfl rfl rfl ?_
    have z := hK1 hA ⟨hA, by rw [zk]; exact hc20⟩ _ (by rw [zk]; exact R1.ac hY hu6 H2 (zOu.w (by omega))); rw [zk] at z; exact z
  · refine r_throw qX3_dip_23 qX3_dip_26 qX3_dip_27 qX3_dip_29 qX3_dip_32 tX3_80_253 rfl rfl rfl rfl rfl ?_
    have z := hK0 (fun h => hc20 (by have h2 := h.2.2; rw [zk] at h2; exact h2)); rw [oc3_b hA (fun h => hc20 (by have h2 := h.2; rw [zk] at h2; exact h2))] at z; exact z
set_option maxHeartbeats 4000000 in
set_option maxRecDepth 20000 in
theorem c_X3_lift {E : Ev} {g : Sh} {i : Ni} {j : Nj} {K : Kp} {c rd tx ur sl sf sb u w : Nat} {A : Nat → Nat → Nat} {N : Nat → Int32} {t : Int32} (hY : zY g c rd tx ur sl sf sb A) (hH : zH i (A 0) N) (hu : i c 7 = nI u) (hu6 : u < 6) (hw : i c 8 = nI w) (hw6 : w ≤ 6) (hN : zNo i (A (3 + u))) (hK0 : ¬ ((tv (N 5) t) ∧ (lB N t)) → K (oc3 (tv (N 5) t) (lB N t) (True) 2 0 0 (.int 0)) g i j) (hK1 : (tv (N 5) t) → (lB N t) → ∀ i' : Ni, zAc c A u w i' i N (upd N (42 + 21 * zn t + 7) (-1)) → K (.inl (some (.int (N (42 + 21 * zn t + 7))))) g i' j) : zCon E mX3_lift [.ref c, .int t] g i j K := by
  refine zcon_of (by decide +kernel) rfl rfl (lo := [.ref c, .int t, zJ, zJ]) rfl (fun X => ?_)
  obtain ⟨x1, x2, hC⟩ := id hY.x
  have hX := hY.x
  have hO := hH.1
  obtain ⟨a1, a2, a3, a4, a5, a6, a7, a8, a9, a10, a11, a12, a13, a14, a15, a16, -⟩ := id hC
  obtain ⟨c5, c6, c7, c8, c9, c10, c11, c12⟩ := hH.cnt
  obtain ⟨hT, hT8⟩ := hO.T8
  obtain ⟨hBt, hB4⟩ := hO.B4
  refine r_aload_n qX3_lift_0 rfl ?_
  refine r_iload_n qX3_lift_1 rfl ?_
  refine r_cv1 (cu2 := 1) (su2 := 6) qX3_lift_2 kX3_141 rfl (by decide +kernel) (c := 3) (by assumption) (by decide) rfl rfl rfl rfl rfl rfl ?_
  refine c_X3_checkedTube hX hH (fun hv => t_out rfl rfl rfl (by have z := hK0 (fun h => hv h.1); rw [oc3_a hv] at z; exact z)) (fun k ek hk => ?_)
  subst ek
  have hv := tv_mk hk (by have := hO.k8 hk; omega)
  have h8 := hO.k8 hk
  have zk : zn (nI k) = k := zn_nI (by omega)
  obtain ⟨tb1, hT3⟩ := hC.tb h8
  have u1 := hT3.1
  have hU := hH.tu hk
  obtain ⟨f0, f3, f4, f6, f7, f8, f9, f10, f11, f12, f13, fP⟩ := id hU
  obtain ⟨hm, hm6⟩ := hO.many hk
  show zR E _ _ X 5 _ _ _ _ _ _ _
  refine r_as_4_2 qX3_lift_5 rfl rfl ?_
  refine r_aload_n qX3_lift_6 rfl ?_
  refine r_geti qX3_lift_7 fX3_124 rfl (by assumption) ?_
  rw [f12]
  refine r_is_4_3 qX3_lift_10 rfl rfl ?_
  refine r_iload_n qX3_lift_11 rfl ?_
  refine r_iconst (v := (-1)) qX3_lift_12 (by decide) ?_
  refine r_icmp_ne (t := 26) qX3_lift_13 (by decide) (fun hc13 => ?_) (fun hc13 => ?_)
  · refine r_aload_n qX3_lift_26 rfl ?_
    refine r_cv0 (cu2 := 1) (su2 := 6) qX3_lift_27 kX3_101 rfl (by decide +kernel) (c := 3) (by assumption) (by decide) rfl rfl rfl rfl rfl rfl ?_
    refine c_X3_rememberCurrent hY hH hu hu6 hw hw6 hN (fun i1 R1 => ?_)
    have H1 := R1.cur hY hu6 hH
    obtain ⟨b5, b6, b7, b8, b9, b10, b11, b12⟩ := H1.cnt
    obtain ⟨g0, g3, g4, g6, g7, g8, g9, g10, g11, g12, g13, gP⟩ := H1.tu hk
    have H2 := H1.bath hC hk (Or.inl rfl)
    show zR E _ _ X 30 _ _ _ _ _ _ _
    refine r_aload_n qX3_lift_30 rfl ?_
    refine r_iconst (v := (-1)) qX3_lift_31 (by decide) ?_
    refine r_puti qX3_lift_32 fX3_124 (Or.inl rfl) rfl rfl rfl (by assumption) ?_
    refine r_iload_n qX3_lift_35 rfl ?_
    refine r_iret qX3_lift_36 rfl rfl rfl rfl ?_
    have z := hK1 hv ⟨hv, by rw [zk]; exact hc13⟩ _ (by rw [zk]; exact R1.ac hY hu6 H2 (zOu.w (by omega))); rw [zk] at z; exact z
  · refine r_throw qX3_lift_16 qX3_lift_19 qX3_lift_20 qX3_lift_22 qX3_lift_25 tX3_80_255 rfl rfl rfl rfl rfl ?_
    have z := hK0 (fun h => by have h2 := h.2.2; rw [zk] at h2; exact h2 hc13); rw [oc3_b hv (fun h => by have h2 := h.2; rw [zk] at h2; exact h2 hc13)] at z; exact z
set_option maxHeartbeats 4000000 in
set_option maxRecDepth 20000 in
theorem c_X3_mark {E : Ev} {g : Sh} {i : Ni} {j : Nj} {K : Kp} {c rd tx ur sl sf sb u w : Nat} {A : Nat → Nat → Nat} {N : Nat → Int32} {t : Int32} (hY : zY g c rd tx ur sl sf sb A) (hH : zH i (A 0) N) (hu : i c 7 = nI u) (hu6 : u < 6) (hw : i c 8 = nI w) (hw6 : w ≤ 6) (hN : zNo i (A (3 + u))) (hK0 : ¬ ((tv (N 5) t) ∧ (kB N t)) → K (oc3 (tv (N 5) t) (kB N t) (True) 2 0 0 (.int 0)) g i j) (hK1 : (tv (N 5) t) → (kB N t) → ∀ i' : Ni, zAc c A u w i' i N (sPut N (zn t)) → K (.inl (some (.int (nI (sMany N (zn t) + 1))))) g i' j) : zCon E mX3_mark [.ref c, .int t] g i j K := by
  refine zcon_of (by decide +kernel) rfl rfl (lo := [.ref c, .int t, zJ]) rfl (fun X => ?_)
  obtain ⟨x1, x2, hC⟩ := id hY.x
  have hX := hY.x
  have hO := hH.1
  obtain ⟨a1, a2, a3, a4, a5, a6, a7, a8, a9, a10, a11, a12, a13, a14, a15, a16, -⟩ := id hC
  obtain ⟨c5, c6, c7, c8, c9, c10, c11, c12⟩ := hH.cnt
  obtain ⟨hT, hT8⟩ := hO.T8
  obtain ⟨hBt, hB4⟩ := hO.B4
  refine r_aload_n qX3_mark_0 rfl ?_
  refine r_iload_n qX3_mark_1 rfl ?_
  refine r_cv1 (cu2 := 1) (su2 := 6) qX3_mark_2 kX3_141 rfl (by decide +kernel) (c := 3) (by assumption) (by decide) rfl rfl rfl rfl rfl rfl ?_
  refine c_X3_checkedTube hX hH (fun hv => t_out rfl rfl rfl (by have z := hK0 (fun h => hv h.1); rw [oc3_a hv] at z; exact z)) (fun k ek hk => ?_)
  subst ek
  have hv := tv_mk hk (by have := hO.k8 hk; omega)
  have h8 := hO.k8 hk
  have zk : zn (nI k) = k := zn_nI (by omega)
  obtain ⟨tb1, hT3⟩ := hC.tb h8
  have u1 := hT3.1
  have hU := hH.tu hk
  obtain ⟨f0, f3, f4, f6, f7, f8, f9, f10, f11, f12, f13, fP⟩ := id hU
  obtain ⟨hm, hm6⟩ := hO.many hk
  show zR E _ _ X 5 _ _ _ _ _ _ _
  refine r_as_3_2 qX3_mark_5 rfl rfl ?_
  refine r_aload_n qX3_mark_6 rfl ?_
  refine r_getr qX3_mark_7 fX3_40 rfl (by assumption) (by first | assumption | rfl) ?_
  refine r_aload_n qX3_mark_10 rfl ?_
  refine r_cv1 (cu2 := 1) (su2 := 6) qX3_mark_11 kX3_213 rfl (by decide +kernel) (c := 0) (by assumption) (by decide) rfl rfl rfl rfl rfl rfl ?_
  refine c_X0_whyNotMark hC hH hk ?_
  show zR E _ _ X 14 _ _ _ _ _ _ _
  refine r_if_eq (t := 28) qX3_mark_14 (by decide) (fun hc14 => ?_) (fun hc14 => ?_)
  · refine r_aload_n qX3_mark_28 rfl ?_
    refine r_cv0 (cu2 := 1) (su2 := 6) qX3_mark_29 kX3_101 rfl (by decide +kernel) (c := 3) (by assumption) (by decide) rfl rfl rfl rfl rfl rfl ?_
    refine c_X3_rememberCurrent hY hH hu hu6 hw hw6 hN (fun i1 R1 => ?_)
    have H1 := R1.cur hY hu6 hH
    obtain ⟨b5, b6, b7, b8, b9, b10, b11, b12⟩ := H1.cnt
    obtain ⟨g0, g3, g4, g6, g7, g8, g9, g10, g11, g12, g13, gP⟩ := H1.tu hk
    show zR E _ _ X 32 _ _ _ _ _ _ _
    refine r_aload_n qX3_mark_32 rfl ?_
    refine r_getr qX3_mark_33 fX3_40 rfl (by assumption) (by first | assumption | rfl) ?_
    refine r_aload_n qX3_mark_36 rfl ?_
    refine r_cv1 (cu2 := 1) (su2 := 6) qX3_mark_37 kX3_259 rfl (by decide +kernel) (c := 0) (by assumption) (by decide) rfl rfl rfl rfl rfl rfl ?_
    refine c_X0_markPoint hC H1 hk hc14 (fun i2 H2 o2 e3 => ?_)
    show zR E _ _ X 40 _ _ _ _ _ _ _
    refine r_aload_n qX3_mark_40 rfl ?_
    refine r_geti qX3_mark_41 fX3_179 rfl (by assumption) ?_
    rw [e3]
    refine r_iret qX3_mark_44 rfl rfl rfl rfl ?_
    have z := hK1 hv ⟨hv, by rw [zk]; exact hc14⟩ _ (by rw [zk]; exact R1.ac hY hu6 H2 o2); rw [zk] at z; exact z
  · refine r_throww qX3_mark_17 qX3_mark_20 qX3_mark_21 qX3_mark_24 qX3_mark_27 tX3_80_257 rfl rfl rfl rfl rfl ?_
    have z := hK0 (fun h => hc14 (by have h2 := h.2.2; rw [zk] at h2; exact h2)); rw [oc3_b hv (fun h => hc14 (by have h2 := h.2; rw [zk] at h2; exact h2))] at z; exact z
set_option maxHeartbeats 4000000 in
set_option maxRecDepth 20000 in
theorem c_X3_erasePoint {E : Ev} {g : Sh} {i : Ni} {j : Nj} {K : Kp} {c rd tx ur sl sf sb u w : Nat} {A : Nat → Nat → Nat} {N : Nat → Int32} {t q : Int32} (hY : zY g c rd tx ur sl sf sb A) (hH : zH i (A 0) N) (hu : i c 7 = nI u) (hu6 : u < 6) (hw : i c 8 = nI w) (hw6 : w ≤ 6) (hN : zNo i (A (3 + u))) (hK0 : ¬ ((tv (N 5) t) ∧ (pv N t q)) → K (oc3 (tv (N 5) t) (pv N t q) (True) 2 3 0 (.int 0)) g i j) (hK1 : (tv (N 5) t) → (pv N t q) → ∀ i' : Ni, zAc c A u w i' i N (sErase N (zn t) (zn q)) → K (.inl (some (.int (sHgt N (zn t) (zn q))))) g i' j) : zCon E mX3_erasePoint [.ref c, .int t, .int q] g i j K := by
  refine zcon_of (by decide +kernel) rfl rfl (lo := [.ref c, .int t, .int q, zJ, zJ]) rfl (fun X => ?_)
  obtain ⟨x1, x2, hC⟩ := id hY.x
  have hX := hY.x
  have hO := hH.1
  obtain ⟨a1, a2, a3, a4, a5, a6, a7, a8, a9, a10, a11, a12, a13, a14, a15, a16, -⟩ := id hC
  obtain ⟨c5, c6, c7, c8, c9, c10, c11, c12⟩ := hH.cnt
  obtain ⟨hT, hT8⟩ := hO.T8
  obtain ⟨hBt, hB4⟩ := hO.B4
  refine r_aload_n qX3_erasePoint_0 rfl ?_
  refine r_iload_n qX3_erasePoint_1 rfl ?_
  refine r_cv1 (cu2 := 1) (su2 := 6) qX3_erasePoint_2 kX3_141 rfl (by decide +kernel) (c := 3) (by assumption) (by decide) rfl rfl rfl rfl rfl rfl ?_
  refine c_X3_checkedTube hX hH (fun hv => t_out rfl rfl rfl (by have z := hK0 (fun h => hv h.1); rw [oc3_a hv] at z; exact z)) (fun k ek hk => ?_)
  subst ek
  have hv := tv_mk hk (by have := hO.k8 hk; omega)
  have h8 := hO.k8 hk
  have zk : zn (nI k) = k := zn_nI (by omega)
  obtain ⟨tb1, hT3⟩ := hC.tb h8
  have u1 := hT3.1
  have hU := hH.tu hk
  obtain ⟨f0, f3, f4, f6, f7, f8, f9, f10, f11, f12, f13, fP⟩ := id hU
  obtain ⟨hm, hm6⟩ := hO.many hk
  show zR E _ _ X 5 _ _ _ _ _ _ _
  refine r_as_5_3 qX3_erasePoint_5 rfl rfl ?_
  refine r_aload_n qX3_erasePoint_6 rfl ?_
  refine r_iload_n qX3_erasePoint_7 rfl ?_
  refine r_cs2 (cu2 := 2) (su2 := 12) qX3_erasePoint_8 kX3_182 rfl (by decide +kernel) rfl rfl rfl rfl rfl ?_
  refine c_X3_checkPoint hT3 hU hO hk (fun hq => t_out rfl rfl rfl (by have z := hK0 (fun h => hq (by have h2 := h.2.2; rw [zk] at h2; exact h2)); rw [oc3_b hv (fun h => hq (by have h2 := h.2; rw [zk] at h2; exact h2))] at z; exact z)) (fun p ep hp => ?_)
  subst ep
  have zp : zn (nI p) = p := zn_nI (by omega)
  have hpv : pv N (nI k) (nI p) := ⟨hv, by rw [zk]; exact tv_mk hp (by omega)⟩
  show zR E _ _ X 11 _ _ _ _ _ _ _
  refine r_aload_n qX3_erasePoint_11 rfl ?_
  refine r_cv0 (cu2 := 2) (su2 := 12) qX3_erasePoint_12 kX3_101 rfl (by decide +kernel) (c := 3) (by assumption) (by decide) rfl rfl rfl rfl rfl rfl ?_
  refine c_X3_rememberCurrent hY hH hu hu6 hw hw6 hN (fun i1 R1 => ?_)
  have H1 := R1.cur hY hu6 hH
  obtain ⟨b5, b6, b7, b8, b9, b10, b11, b12⟩ := H1.cnt
  obtain ⟨g0, g3, g4, g6, g7, g8, g9, g10, g11, g12, g13, gP⟩ := H1.tu hk
  obtain ⟨-, w2, w3, w4, w5, w6, w7, w8⟩ := id hT3
  show zR E _ _ X 15 _ _ _ _ _ _ _
  refine r_aload_n qX3_erasePoint_15 rfl ?_
  refine r_getr qX3_erasePoint_16 fX3_189 rfl (by assumption) (by first | assumption | rfl) ?_
  refine r_iload_n qX3_erasePoint_19 rfl ?_
  refine r_ialdN qX3_erasePoint_20 (by assumption) (by assumption) (by omega) rfl ?_
  rw [(gP p hp).2]
  refine r_is_5_4 qX3_erasePoint_21 rfl rfl ?_
  refine r_aload_n qX3_erasePoint_23 rfl ?_
  refine r_iload_n qX3_erasePoint_24 rfl ?_
  refine r_cv1 (cu2 := 2) (su2 := 12) qX3_erasePoint_25 kX3_262 rfl (by decide +kernel) (c := 2) (by assumption) (by decide) rfl rfl rfl rfl rfl rfl ?_
  refine c_X2_removePoint hT3 (g3.trans hm) hm6 hp (fun i2 r1 r2 r3 r4 => ?_)
  show zR E _ _ X 28 _ _ _ _ _ _ _
  refine r_iload qX3_erasePoint_28 rfl ?_
  refine r_iret qX3_erasePoint_30 rfl rfl rfl rfl ?_
  have z := hK1 hv hpv i2 (by rw [zk, zp]; exact R1.ac hY hu6 (H1.erase hC hk hp r1 r2 r3 r4) (fun r hr => r4 r (hr _ (by omega)) (hr _ (by omega)) (hr _ (by omega)))); rw [zk, zp] at z; exact z
set_option maxHeartbeats 4000000 in
set_option maxRecDepth 20000 in
theorem c_X3_layThumb {E : Ev} {g : Sh} {i : Ni} {j : Nj} {K : Kp} {c rd tx ur sl sf sb u w : Nat} {A : Nat → Nat → Nat} {N : Nat → Int32} {t m : Int32} (hY : zY g c rd tx ur sl sf sb A) (hH : zH i (A 0) N) (hu : i c 7 = nI u) (hu6 : u < 6) (hw : i c 8 = nI w) (hw6 : w ≤ 6) (hN : zNo i (A (3 + u))) (hK0 : ¬ ((tv (N 5) t) ∧ (1 ≤ m.toInt ∧ m.toInt ≤ 60)) → K (oc3 (tv (N 5) t) (1 ≤ m.toInt ∧ m.toInt ≤ 60) (True) 2 1 0 (.int 0)) g i j) (hK1 : (tv (N 5) t) → (1 ≤ m.toInt ∧ m.toInt ≤ 60) → ∀ i' : Ni, zAc c A u w i' i N (upd (upd N 6 t) 7 m) → K (.inl (some (.int (N 6)))) g i' j) : zCon E mX3_layThumb [.ref c, .int t, .int m] g i j K := by
  refine zcon_of (by decide +kernel) rfl rfl (lo := [.ref c, .int t, .int m, zJ]) rfl (fun X => ?_)
  obtain ⟨x1, x2, hC⟩ := id hY.x
  have hX := hY.x
  have hO := hH.1
  obtain ⟨a1, a2, a3, a4, a5, a6, a7, a8, a9, a10, a11, a12, a13, a14, a15, a16, -⟩ := id hC
  obtain ⟨c5, c6, c7, c8, c9, c10, c11, c12⟩ := hH.cnt
  obtain ⟨hT, hT8⟩ := hO.T8
  obtain ⟨hBt, hB4⟩ := hO.B4
  refine r_aload_n qX3_layThumb_0 rfl ?_
  refine r_iload_n qX3_layThumb_1 rfl ?_
  refine r_cv1 (cu2 := 1) (su2 := 6) qX3_layThumb_2 kX3_141 rfl (by decide +kernel) (c := 3) (by assumption) (by decide) rfl rfl rfl rfl rfl rfl ?_
  refine c_X3_checkedTube hX hH (fun hv => t_out rfl rfl rfl (by have z := hK0 (fun h => hv h.1); rw [oc3_a hv] at z; exact z)) (fun k ek hk => ?_)
  subst ek
  have hv := tv_mk hk (by have := hO.k8 hk; omega)
  have h8 := hO.k8 hk
  have zk : zn (nI k) = k := zn_nI (by omega)
  obtain ⟨tb1, hT3⟩ := hC.tb h8
  have u1 := hT3.1
  have hU := hH.tu hk
  obtain ⟨f0, f3, f4, f6, f7, f8, f9, f10, f11, f12, f13, fP⟩ := id hU
  obtain ⟨hm, hm6⟩ := hO.many hk
  show zR E _ _ X 5 _ _ _ _ _ _ _
  refine r_pop qX3_layThumb_5 rfl ?_
  refine r_iload_n qX3_layThumb_6 rfl ?_
  refine r_iconst (v := nI 1) qX3_layThumb_7 (by decide) ?_
  refine r_bipush (v := nI 60) qX3_layThumb_8 (by decide) ?_
  refine r_cs3 (cu2 := 2) (su2 := 12) qX3_layThumb_10 kX3_164 rfl (by decide +kernel) rfl rfl rfl rfl rfl ?_
  refine c_X3_checkRange (lo := 1) (hi := 60) (by decide) (by decide) (fun hv2 => t_out rfl rfl rfl (by have z := hK0 (fun h => hv2 h.2); rw [oc3_b hv hv2] at z; exact z)) (fun hv2 => ?_)
  show zR E _ _ X 13 _ _ _ _ _ _ _
  refine r_aload_n qX3_layThumb_13 rfl ?_
  refine r_cv0 (cu2 := 2) (su2 := 12) qX3_layThumb_14 kX3_101 rfl (by decide +kernel) (c := 3) (by assumption) (by decide) rfl rfl rfl rfl rfl rfl ?_
  refine c_X3_rememberCurrent hY hH hu hu6 hw hw6 hN (fun i1 R1 => ?_)
  have H1 := R1.cur hY hu6 hH
  obtain ⟨b5, b6, b7, b8, b9, b10, b11, b12⟩ := H1.cnt
  obtain ⟨g0, g3, g4, g6, g7, g8, g9, g10, g11, g12, g13, gP⟩ := H1.tu hk
  have H2 := H1.thumb hC hk hv2
  show zR E _ _ X 17 _ _ _ _ _ _ _
  refine r_aload_n qX3_layThumb_17 rfl ?_
  refine r_getr qX3_layThumb_18 fX3_40 rfl (by assumption) (by first | assumption | rfl) ?_
  refine r_geti qX3_layThumb_21 fX3_173 rfl (by assumption) ?_
  rw [b11]
  refine r_is_4_3 qX3_layThumb_24 rfl rfl ?_
  refine r_aload_n qX3_layThumb_25 rfl ?_
  refine r_getr qX3_layThumb_26 fX3_40 rfl (by assumption) (by first | assumption | rfl) ?_
  refine r_iload_n qX3_layThumb_29 rfl ?_
  refine r_puti qX3_layThumb_30 fX3_173 (Or.inl rfl) rfl rfl rfl (by assumption) ?_
  refine r_aload_n qX3_layThumb_33 rfl ?_
  refine r_getr qX3_layThumb_34 fX3_40 rfl (by assumption) (by first | assumption | rfl) ?_
  refine r_iload_n qX3_layThumb_37 rfl ?_
  refine r_puti qX3_layThumb_38 fX3_176 (Or.inl rfl) rfl rfl rfl (by assumption) ?_
  simp only [wA_s, wA_wA]
  refine r_iload_n qX3_layThumb_41 rfl ?_
  refine r_iret qX3_layThumb_42 rfl rfl rfl rfl ?_
  exact hK1 hv hv2 _ (R1.ac hY hu6 H2 (zOu.w (by omega)))
set_option maxHeartbeats 4000000 in
set_option maxRecDepth 20000 in
theorem c_X3_topUp {E : Ev} {g : Sh} {i : Ni} {j : Nj} {K : Kp} {c rd tx ur sl sf sb u w : Nat} {A : Nat → Nat → Nat} {N : Nat → Int32} {t a : Int32} (hY : zY g c rd tx ur sl sf sb A) (hH : zH i (A 0) N) (hu : i c 7 = nI u) (hu6 : u < 6) (hw : i c 8 = nI w) (hw6 : w ≤ 6) (hN : zNo i (A (3 + u))) (hK0 : ¬ ((tv (N 5) t) ∧ (1 ≤ a.toInt ∧ a.toInt ≤ 999) ∧ (fB N t a)) → K (oc3 (tv (N 5) t) (1 ≤ a.toInt ∧ a.toInt ≤ 999) (fB N t a) 2 1 0 (.int 0)) g i j) (hK1 : (tv (N 5) t) → (1 ≤ a.toInt ∧ a.toInt ≤ 999) → (fB N t a) → ∀ i' : Ni, zAc c A u w i' i N (aPour N (zn t) a) → K (.inl (some (.int (N (42 + 21 * zn t + 4) + a)))) g i' j) : zCon E mX3_topUp [.ref c, .int t, .int a] g i j K := by
  refine zcon_of (by decide +kernel) rfl rfl (lo := [.ref c, .int t, .int a, zJ]) rfl (fun X => ?_)
  obtain ⟨x1, x2, hC⟩ := id hY.x
  have hX := hY.x
  have hO := hH.1
  obtain ⟨a1, a2, a3, a4, a5, a6, a7, a8, a9, a10, a11, a12, a13, a14, a15, a16, -⟩ := id hC
  obtain ⟨c5, c6, c7, c8, c9, c10, c11, c12⟩ := hH.cnt
  obtain ⟨hT, hT8⟩ := hO.T8
  obtain ⟨hBt, hB4⟩ := hO.B4
  refine r_aload_n qX3_topUp_0 rfl ?_
  refine r_iload_n qX3_topUp_1 rfl ?_
  refine r_cv1 (cu2 := 1) (su2 := 6) qX3_topUp_2 kX3_141 rfl (by decide +kernel) (c := 3) (by assumption) (by decide) rfl rfl rfl rfl rfl rfl ?_
  refine c_X3_checkedTube hX hH (fun hv => t_out rfl rfl rfl (by have z := hK0 (fun h => hv h.1); rw [oc3_a hv] at z; exact z)) (fun k ek hk => ?_)
  subst ek
  have hv := tv_mk hk (by have := hO.k8 hk; omega)
  have h8 := hO.k8 hk
  have zk : zn (nI k) = k := zn_nI (by omega)
  obtain ⟨tb1, hT3⟩ := hC.tb h8
  have u1 := hT3.1
  have hU := hH.tu hk
  obtain ⟨f0, f3, f4, f6, f7, f8, f9, f10, f11, f12, f13, fP⟩ := id hU
  obtain ⟨hm, hm6⟩ := hO.many hk
  show zR E _ _ X 5 _ _ _ _ _ _ _
  refine r_as_4_3 qX3_topUp_5 rfl rfl ?_
  refine r_iload_n qX3_topUp_6 rfl ?_
  refine r_iconst (v := nI 1) qX3_topUp_7 (by decide) ?_
  refine r_sipush (v := nI 999) qX3_topUp_8 (by decide) ?_
  refine r_cs3 (cu2 := 2) (su2 := 12) qX3_topUp_11 kX3_164 rfl (by decide +kernel) rfl rfl rfl rfl rfl ?_
  refine c_X3_checkRange (lo := 1) (hi := 999) (by decide) (by decide) (fun hv2 => t_out rfl rfl rfl (by have z := hK0 (fun h => hv2 h.2.1); rw [oc3_b hv hv2] at z; exact z)) (fun hv2 => ?_)
  show zR E _ _ X 14 _ _ _ _ _ _ _
  refine r_aload_n qX3_topUp_14 rfl ?_
  refine r_geti qX3_topUp_15 fX3_135 rfl (by assumption) ?_
  rw [f10]
  refine r_iload_n qX3_topUp_18 rfl ?_
  first | with_reducible refine r_iaddN qX3_topUp_19 ?_ | refine r_iadd qX3_topUp_19 ?_
  refine r_sipush (v := nI 999) qX3_topUp_20 (by decide) ?_
  refine r_icmp_le (t := 37) qX3_topUp_23 (by decide) (fun hc23 => ?_) (fun hc23 => ?_)
  · refine r_aload_n qX3_topUp_37 rfl ?_
    refine r_cv0 (cu2 := 2) (su2 := 12) qX3_topUp_38 kX3_101 rfl (by decide +kernel) (c := 3) (by assumption) (by decide) rfl rfl rfl rfl rfl rfl ?_
    refine c_X3_rememberCurrent hY hH hu hu6 hw hw6 hN (fun i1 R1 => ?_)
    have H1 := R1.cur hY hu6 hH
    obtain ⟨b5, b6, b7, b8, b9, b10, b11, b12⟩ := H1.cnt
    obtain ⟨g0, g3, g4, g6, g7, g8, g9, g10, g11, g12, g13, gP⟩ := H1.tu hk
    have hz : zIn (N (42 + 21 * k + 4) + a) 0 999 := by
      have hf : zIn (N (42 + 21 * k + 4)) 0 999 := by
        obtain ⟨-, -, -, -, z4, -⟩ := hO.tu hk
        exact z4
      have hs := add_in hf (show zIn a 1 999 from hv2) (by decide) (by decide) (by decide) (by decide)
      have hc := hc23
      rw [Int32.le_iff_toInt_le, nI_toInt (by omega)] at hc
      obtain ⟨z1, z2⟩ := hf
      exact ⟨by omega, by omega⟩
    have H2 := H1.pour hC hk hz
    show zR E _ _ X 41 _ _ _ _ _ _ _
    refine r_aload_n qX3_topUp_41 rfl ?_
    refine r_iload_n qX3_topUp_42 rfl ?_
    refine r_cv1 (cu2 := 2) (su2 := 12) qX3_topUp_43 kX3_267 rfl (by decide +kernel) (c := 2) (by assumption) (by decide) rfl rfl rfl rfl rfl rfl ?_
    refine c_X2_addSpirit u1 ?_
    show zR E _ _ X 46 _ _ _ _ _ _ _
    refine r_aload_n qX3_topUp_46 rfl ?_
    refine r_geti qX3_topUp_47 fX3_135 rfl (by assumption) ?_
    rw [wA_s, pk_un (by decide), pk_us]
    refine r_iret qX3_topUp_50 rfl rfl rfl rfl ?_
    have z := hK1 hv hv2 ⟨hv, hv2, by rw [zk]; exact Int32.not_lt.mpr hc23⟩ _ (by rw [zk]; exact R1.ac hY hu6 H2 (zOu.w (by omega))); rw [zk, ← g10] at z; exact z
  · refine r_throww qX3_topUp_26 qX3_topUp_29 qX3_topUp_30 qX3_topUp_33 qX3_topUp_36 tX3_80_265 rfl rfl rfl rfl rfl ?_
    have z := hK0 (fun h => hc23 (by have h2 := h.2.2.2.2; rw [zk] at h2; exact Int32.not_lt.mp h2)); rw [oc3_c hv hv2 (fun h => hc23 (by have h2 := h.2.2; rw [zk] at h2; exact Int32.not_lt.mp h2))] at z; exact z
set_option maxHeartbeats 4000000 in
set_option maxRecDepth 20000 in
theorem c_X3_setRoom {E : Ev} {g : Sh} {i : Ni} {j : Nj} {K : Kp} {c rd tx ur sl sf sb u w : Nat} {A : Nat → Nat → Nat} {N : Nat → Int32} {v : Int32} (hY : zY g c rd tx ur sl sf sb A) (hH : zH i (A 0) N) (hu : i c 7 = nI u) (hu6 : u < 6) (hw : i c 8 = nI w) (hw6 : w ≤ 6) (hN : zNo i (A (3 + u))) (hK0 : ¬ ((-20 ≤ v.toInt ∧ v.toInt ≤ 150)) → K (oc3 (-20 ≤ v.toInt ∧ v.toInt ≤ 150) (True) (True) 1 0 0 (.int 0)) g i j) (hK1 : (-20 ≤ v.toInt ∧ v.toInt ≤ 150) → ∀ i' : Ni, zAc c A u w i' i N (upd N 0 v) → K (.inl (some (.int (N 0)))) g i' j) : zCon E mX3_setRoom [.ref c, .int v] g i j K := by
  refine zcon_of (by decide +kernel) rfl rfl (lo := [.ref c, .int v, zJ]) rfl (fun X => ?_)
  obtain ⟨x1, x2, hC⟩ := id hY.x
  have hX := hY.x
  have hO := hH.1
  obtain ⟨a1, a2, a3, a4, a5, a6, a7, a8, a9, a10, a11, a12, a13, a14, a15, a16, -⟩ := id hC
  obtain ⟨c5, c6, c7, c8, c9, c10, c11, c12⟩ := hH.cnt
  obtain ⟨hT, hT8⟩ := hO.T8
  obtain ⟨hBt, hB4⟩ := hO.B4
  refine r_iload_n qX3_setRoom_0 rfl ?_
  refine r_bipush (v := (-20)) qX3_setRoom_1 (by decide) ?_
  refine r_sipush (v := nI 150) qX3_setRoom_3 (by decide) ?_
  refine r_cs3 (cu2 := 1) (su2 := 6) qX3_setRoom_6 kX3_164 rfl (by decide +kernel) rfl rfl rfl rfl rfl ?_
  refine c_X3_checkRange (lo := -20) (hi := 150) (by decide) (by decide) (fun hv2 => t_out rfl rfl rfl (by have z := hK0 (hv2); rw [oc3_a hv2] at z; exact z)) (fun hv2 => ?_)
  show zR E _ _ X 9 _ _ _ _ _ _ _
  refine r_aload_n qX3_setRoom_9 rfl ?_
  refine r_cv0 (cu2 := 1) (su2 := 6) qX3_setRoom_10 kX3_101 rfl (by decide +kernel) (c := 3) (by assumption) (by decide) rfl rfl rfl rfl rfl rfl ?_
  refine c_X3_rememberCurrent hY hH hu hu6 hw hw6 hN (fun i1 R1 => ?_)
  have H1 := R1.cur hY hu6 hH
  obtain ⟨b5, b6, b7, b8, b9, b10, b11, b12⟩ := H1.cnt
  have H2 := H1.room hC hv2
  show zR E _ _ X 13 _ _ _ _ _ _ _
  refine r_aload_n qX3_setRoom_13 rfl ?_
  refine r_getr qX3_setRoom_14 fX3_40 rfl (by assumption) (by first | assumption | rfl) ?_
  refine r_geti qX3_setRoom_17 fX3_110 rfl (by assumption) ?_
  rw [b9]
  refine r_is_3_2 qX3_setRoom_20 rfl rfl ?_
  refine r_aload_n qX3_setRoom_21 rfl ?_
  refine r_getr qX3_setRoom_22 fX3_40 rfl (by assumption) (by first | assumption | rfl) ?_
  refine r_iload_n qX3_setRoom_25 rfl ?_
  refine r_puti qX3_setRoom_26 fX3_110 (Or.inl rfl) rfl rfl rfl (by assumption) ?_
  refine r_iload_n qX3_setRoom_29 rfl ?_
  refine r_iret qX3_setRoom_30 rfl rfl rfl rfl ?_
  exact hK1 hv2 _ (R1.ac hY hu6 H2 (zOu.w (by omega)))
set_option maxHeartbeats 4000000 in
set_option maxRecDepth 20000 in
theorem c_X3_setLeaky {E : Ev} {g : Sh} {i : Ni} {j : Nj} {K : Kp} {c rd tx ur sl sf sb u w : Nat} {A : Nat → Nat → Nat} {N : Nat → Int32} {t : Int32} {P : Prop} {dP : Decidable P} (hY : zY g c rd tx ur sl sf sb A) (hH : zH i (A 0) N) (hu : i c 7 = nI u) (hu6 : u < 6) (hw : i c 8 = nI w) (hw6 : w ≤ 6) (hN : zNo i (A (3 + u))) (hK0 : ¬ ((tv (N 5) t)) → K (oc3 (tv (N 5) t) (True) (True) 2 0 0 (.int 0)) g i j) (hK1 : (tv (N 5) t) → ∀ i' : Ni, zAc c A u w i' i N (upd N (42 + 21 * zn t + 6) (zb P)) → K (.inl (some (.int (zb (N (42 + 21 * zn t + 6) = nI 1))))) g i' j) : zCon E mX3_setLeaky [.ref c, .int t, .int (zb P)] g i j K := by
  refine zcon_of (by decide +kernel) rfl rfl (lo := [.ref c, .int t, .int (zb P), zJ, zJ]) rfl (fun X => ?_)
  obtain ⟨x1, x2, hC⟩ := id hY.x
  have hX := hY.x
  have hO := hH.1
  obtain ⟨a1, a2, a3, a4, a5, a6, a7, a8, a9, a10, a11, a12, a13, a14, a15, a16, -⟩ := id hC
  obtain ⟨c5, c6, c7, c8, c9, c10, c11, c12⟩ := hH.cnt
  obtain ⟨hT, hT8⟩ := hO.T8
  obtain ⟨hBt, hB4⟩ := hO.B4
  refine r_aload_n qX3_setLeaky_0 rfl ?_
  refine r_iload_n qX3_setLeaky_1 rfl ?_
  refine r_cv1 (cu2 := 1) (su2 := 6) qX3_setLeaky_2 kX3_141 rfl (by decide +kernel) (c := 3) (by assumption) (by decide) rfl rfl rfl rfl rfl rfl ?_
  refine c_X3_checkedTube hX hH (fun hv => t_out rfl rfl rfl (by have z := hK0 (hv); rw [oc3_a hv] at z; exact z)) (fun k ek hk => ?_)
  subst ek
  have hv := tv_mk hk (by have := hO.k8 hk; omega)
  have h8 := hO.k8 hk
  have zk : zn (nI k) = k := zn_nI (by omega)
  obtain ⟨tb1, hT3⟩ := hC.tb h8
  have u1 := hT3.1
  have hU := hH.tu hk
  obtain ⟨f0, f3, f4, f6, f7, f8, f9, f10, f11, f12, f13, fP⟩ := id hU
  obtain ⟨hm, hm6⟩ := hO.many hk
  show zR E _ _ X 5 _ _ _ _ _ _ _
  refine r_as_5_3 qX3_setLeaky_5 rfl rfl ?_
  refine r_aload_n qX3_setLeaky_6 rfl ?_
  refine r_cv0 (cu2 := 1) (su2 := 6) qX3_setLeaky_7 kX3_101 rfl (by decide +kernel) (c := 3) (by assumption) (by decide) rfl rfl rfl rfl rfl rfl ?_
  refine c_X3_rememberCurrent hY hH hu hu6 hw hw6 hN (fun i1 R1 => ?_)
  have H1 := R1.cur hY hu6 hH
  obtain ⟨b5, b6, b7, b8, b9, b10, b11, b12⟩ := H1.cnt
  obtain ⟨g0, g3, g4, g6, g7, g8, g9, g10, g11, g12, g13, gP⟩ := H1.tu hk
  have eP : zb P = nI 0 ∨ zb P = nI 1 := by
    by_cases h : P
    · exact Or.inr (zb_t h)
    · exact Or.inl (zb_f h)
  have H2 := H1.leaky hC hk eP
  show zR E _ _ X 10 _ _ _ _ _ _ _
  refine r_aload_n qX3_setLeaky_10 rfl ?_
  refine r_geti qX3_setLeaky_11 fX3_156 rfl (by assumption) ?_
  rw [g13]
  have e6 : N (42 + 21 * k + 6) = zb (N (42 + 21 * k + 6) = nI 1) := by
    obtain ⟨-, -, -, -, -, -, b6, -⟩ := hO.tu hk
    rcases b6 with e | e
    · rw [zb_f (by rw [e]; decide), e]
    · rw [zb_t e, e]
  rw [e6]
  refine r_is_5_4 qX3_setLeaky_14 rfl rfl ?_
  refine r_aload_n qX3_setLeaky_16 rfl ?_
  refine r_iload_n qX3_setLeaky_17 rfl ?_
  refine r_puti qX3_setLeaky_18 fX3_156 (Or.inl rfl) rfl (zb_nar _) (by rcases eP with e | e <;> rw [e] <;> decide) (by assumption) ?_
  refine r_iload qX3_setLeaky_21 rfl ?_
  refine r_iret qX3_setLeaky_23 rfl (zb_nar _) rfl rfl ?_
  have z := hK1 hv _ (by rw [zk]; exact R1.ac hY hu6 H2 (zOu.w (by omega))); rw [zk] at z; exact z
set_option maxHeartbeats 4000000 in
set_option maxRecDepth 20000 in
theorem c_X3_pass {E : Ev} {g : Sh} {i : Ni} {j : Nj} {K : Kp} {c rd tx ur sl sf sb u w : Nat} {A : Nat → Nat → Nat} {N : Nat → Int32} {m : Int32} (hY : zY g c rd tx ur sl sf sb A) (hH : zH i (A 0) N) (hu : i c 7 = nI u) (hu6 : u < 6) (hw : i c 8 = nI w) (hw6 : w ≤ 6) (hN : zNo i (A (3 + u))) (hK0 : ¬ ((1 ≤ m.toInt ∧ m.toInt ≤ 300)) → K (oc3 (1 ≤ m.toInt ∧ m.toInt ≤ 300) (True) (True) 1 0 0 (.int 0)) g i j) (hK1 : (1 ≤ m.toInt ∧ m.toInt ≤ 300) → ∀ i' : Ni, zAc c A u w i' i N (sWalk N (zn m)) → K (.inl (some (.int (sLost (sWalk N (zn m)) (zn (N 3)) - sLost N (zn (N 3)))))) g i' j) : zCon E mX3_pass [.ref c, .int m] g i j K := by
  refine zcon_of (by decide +kernel) rfl rfl (lo := [.ref c, .int m]) rfl (fun X => ?_)
  obtain ⟨x1, x2, hC⟩ := id hY.x
  have hX := hY.x
  have hO := hH.1
  obtain ⟨a1, a2, a3, a4, a5, a6, a7, a8, a9, a10, a11, a12, a13, a14, a15, a16, -⟩ := id hC
  obtain ⟨c5, c6, c7, c8, c9, c10, c11, c12⟩ := hH.cnt
  obtain ⟨hT, hT8⟩ := hO.T8
  obtain ⟨hBt, hB4⟩ := hO.B4
  refine r_iload_n qX3_pass_0 rfl ?_
  refine r_iconst (v := nI 1) qX3_pass_1 (by decide) ?_
  refine r_sipush (v := nI 300) qX3_pass_2 (by decide) ?_
  refine r_cs3 (cu2 := 1) (su2 := 6) qX3_pass_5 kX3_164 rfl (by decide +kernel) rfl rfl rfl rfl rfl ?_
  refine c_X3_checkRange (lo := 1) (hi := 300) (by decide) (by decide) (fun hv2 => t_out rfl rfl rfl (by have z := hK0 (hv2); rw [oc3_a hv2] at z; exact z)) (fun hv2 => ?_)
  have hv3 := hv2
  obtain ⟨em, hm3⟩ := nn_nat (b := 300) (show 0 ≤ m.toInt ∧ m.toInt ≤ (300 : Nat) from ⟨by omega, hv2.2⟩)
  replace hK1 := hK1 hv3
  clear hv2 hv3 hK0
  generalize zn m = l at *
  subst em
  show zR E _ _ X 8 _ _ _ _ _ _ _
  refine r_aload_n qX3_pass_8 rfl ?_
  refine r_cv0 (cu2 := 1) (su2 := 6) qX3_pass_9 kX3_101 rfl (by decide +kernel) (c := 3) (by assumption) (by decide) rfl rfl rfl rfl rfl rfl ?_
  refine c_X3_rememberCurrent hY hH hu hu6 hw hw6 hN (fun i1 R1 => ?_)
  have H1 := R1.cur hY hu6 hH
  obtain ⟨b5, b6, b7, b8, b9, b10, b11, b12⟩ := H1.cnt
  show zR E _ _ X 12 _ _ _ _ _ _ _
  refine r_aload_n qX3_pass_12 rfl ?_
  refine r_getr qX3_pass_13 fX3_40 rfl (by assumption) (by first | assumption | rfl) ?_
  refine r_iload_n qX3_pass_16 rfl ?_
  refine r_cv1 (cu2 := 1) (su2 := 6) qX3_pass_17 kX3_247 rfl (by decide +kernel) (c := 0) (by assumption) (by decide) rfl rfl rfl rfl rfl rfl ?_
  refine c_X0_passMinutes hC H1 (show l < 1000 by omega) (fun i2 H2 o2 b2 => ?_)
  show zR E _ _ X 20 _ _ _ _ _ _ _
  refine r_iret qX3_pass_20 rfl rfl rfl rfl ?_
  exact hK1 _ (R1.ac hY hu6 H2 o2)


