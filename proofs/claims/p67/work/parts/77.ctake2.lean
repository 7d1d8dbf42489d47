/-! ===== THE CLASS'S PARSER: DEGREES, TUBES, THE END ===== -/
set_option maxHeartbeats 4000000 in
set_option maxRecDepth 20000 in
theorem y_deg {E : Ev} {g : Sh} {i : Ni} {j : Nj} {K : Kp} {rd tx L t : Nat} {B : Nat → Int32} {a : Nat → Nat} {N : Nat → Int32} {i0 : Ni} (hS : yS g rd tx a) (hG : yG rd tx L B a N i0 t i) (hKy : ∀ t' v, tDeg B L t = .ok (t', v) → ∀ i', yG rd tx L B a N i0 t' i' → K (.inl (some (.int v))) g i' j) (hKn : ∀ c w, tDeg B L t = .error (c, w) → ∀ (u : Int32) i', yE rd tx L B a N i0 c w i' → K (.inl (some (.int u))) g i' j) : zCon E mX1_takeDegrees [.ref rd] g i j K := by
  refine zcon_of (by decide +kernel) rfl rfl (lo := [.ref rd]) rfl (fun X => ?_)
  have r1 := hS.1.1
  obtain ⟨hc, ⟨h0, h04⟩, hH, hF⟩ := id hG
  obtain ⟨p1, p2, p3, p4, p5, p6, p7, p8⟩ := id hc
  have hk5 := cKind_lt B L t
  have hk : isNeg B L t ↔ cKind B L t = 3 := cKind_s p3 (Or.inl ⟨rfl, rfl⟩)
  by_cases hn : isNeg B L t
  · skip
    have hk3 := hk.mp hn
    refine r_aload_n qX1_takeDegrees_0 rfl ?_
    refine r_geti qX1_takeDegrees_1 fX1_57 rfl (by assumption) ?_
    rw [p8, hk3]
    refine r_iconst (v := nI 3) qX1_takeDegrees_4 (by decide) ?_
    refine r_icmp_ne (t := 21) qX1_takeDegrees_5 (by decide) (fun hc5 => absurd hc5 (fun h => h rfl)) (fun hc5 => ?_)
    refine r_aload_n qX1_takeDegrees_8 rfl ?_
    refine r_cv0 (cu2 := 0) (su2 := 0) qX1_takeDegrees_9 kX1_51 rfl (by decide +kernel) (c := 1) (by assumption) (by decide) rfl rfl rfl rfl rfl rfl ?_
    refine y_nextG hS hG (fun i1 G1 => ?_)
    show zR E _ _ X 12 _ _ _ _ _ _ _
    refine r_aload_n qX1_takeDegrees_12 rfl ?_
    refine r_iconst (v := nI 0) qX1_takeDegrees_13 (by decide) ?_
    refine r_bipush (v := nI 20) qX1_takeDegrees_14 (by decide) ?_
    refine r_cv2 (cu2 := 0) (su2 := 0) qX1_takeDegrees_16 kX1_79 rfl (by decide +kernel) (c := 1) (by assumption) (by decide) rfl rfl rfl rfl rfl rfl ?_
    refine y_num hS (by decide) G1 (fun t' v hh i2 G2 => ?_) (fun c w hh i2 e2 => ?_)
    · show zR E _ _ X 19 _ _ _ _ _ _ _
      refine r_ineg qX1_takeDegrees_19 ?_
      refine r_iret qX1_takeDegrees_20 rfl rfl rfl rfl ?_
      exact hKy t' (-v) (by rw [tDeg, if_pos hn, hh]; rfl) i2 G2
    · show zR E _ _ X 19 _ _ _ _ _ _ _
      refine r_ineg qX1_takeDegrees_19 ?_
      refine r_iret qX1_takeDegrees_20 rfl rfl rfl rfl ?_
      exact hKn c w (by rw [tDeg, if_pos hn, hh]; rfl) _ i2 e2
  · skip
    have hk3 : ¬ cKind B L t = 3 := fun h => hn (hk.mpr h)
    refine r_aload_n qX1_takeDegrees_0 rfl ?_
    refine r_geti qX1_takeDegrees_1 fX1_57 rfl (by assumption) ?_
    rw [p8]
    refine r_iconst (v := nI 3) qX1_takeDegrees_4 (by decide) ?_
    refine r_icmp_ne (t := 21) qX1_takeDegrees_5 (by decide) (fun hc5 => ?_) (fun hc5 => absurd hc5 (fun h => hk3 ((nI_eq (by omega) (by omega)).mp h)))
    refine r_aload_n qX1_takeDegrees_21 rfl ?_
    refine r_iconst (v := nI 0) qX1_takeDegrees_22 (by decide) ?_
    refine r_sipush (v := nI 150) qX1_takeDegrees_23 (by decide) ?_
    refine r_cv2 (cu2 := 0) (su2 := 0) qX1_takeDegrees_26 kX1_79 rfl (by decide +kernel) (c := 1) (by assumption) (by decide) rfl rfl rfl rfl rfl rfl ?_
    refine y_num hS (by decide) hG (fun t' v hh i2 G2 => ?_) (fun c w hh i2 e2 => ?_)
    · show zR E _ _ X 29 _ _ _ _ _ _ _
      refine r_iret qX1_takeDegrees_29 rfl rfl rfl rfl ?_
      exact hKy t' v (by rw [tDeg, if_neg hn, hh]) i2 G2
    · show zR E _ _ X 29 _ _ _ _ _ _ _
      refine r_iret qX1_takeDegrees_29 rfl rfl rfl rfl ?_
      exact hKn c w (by rw [tDeg, if_neg hn, hh]) _ i2 e2
set_option maxHeartbeats 4000000 in
set_option maxRecDepth 20000 in
theorem yE_deg {E : Ev} {g : Sh} {i : Ni} {j : Nj} {K : Kp} {rd tx L : Nat} {B : Nat → Int32} {a : Nat → Nat} {N : Nat → Int32} {i0 : Ni} {c : Int32} {w : Nat} (hS : yS g rd tx a) (e : yE rd tx L B a N i0 c w i) (hK : ∀ (u : Int32) i', yE rd tx L B a N i0 c w i' → K (.inl (some (.int u))) g i' j) : zCon E mX1_takeDegrees [.ref rd] g i j K := by
  refine zcon_of (by decide +kernel) rfl rfl (lo := [.ref rd]) rfl (fun X => ?_)
  have r1 := hS.1.1
  refine r_aload_n qX1_takeDegrees_0 rfl ?_
  refine r_geti qX1_takeDegrees_1 fX1_57 rfl (by assumption) ?_
  refine r_iconst (v := nI 3) qX1_takeDegrees_4 (by decide) ?_
  refine r_icmp_ne (t := 21) qX1_takeDegrees_5 (by decide) (fun hc5 => ?_) (fun hc5 => ?_)
  · refine r_aload_n qX1_takeDegrees_21 rfl ?_
    refine r_iconst (v := nI 0) qX1_takeDegrees_22 (by decide) ?_
    refine r_sipush (v := nI 150) qX1_takeDegrees_23 (by decide) ?_
    refine r_cv2 (cu2 := 0) (su2 := 0) qX1_takeDegrees_26 kX1_79 rfl (by decide +kernel) (c := 1) (by assumption) (by decide) rfl rfl rfl rfl rfl rfl ?_
    refine yE_num hS e (fun i2 e2 => ?_)
    show zR E _ _ X 29 _ _ _ _ _ _ _
    refine r_iret qX1_takeDegrees_29 rfl rfl rfl rfl ?_
    exact hK _ i2 e2
  · refine r_aload_n qX1_takeDegrees_8 rfl ?_
    refine r_cv0 (cu2 := 0) (su2 := 0) qX1_takeDegrees_9 kX1_51 rfl (by decide +kernel) (c := 1) (by assumption) (by decide) rfl rfl rfl rfl rfl rfl ?_
    refine y_nextE hS e (fun i1 e1 => ?_)
    show zR E _ _ X 12 _ _ _ _ _ _ _
    refine r_aload_n qX1_takeDegrees_12 rfl ?_
    refine r_iconst (v := nI 0) qX1_takeDegrees_13 (by decide) ?_
    refine r_bipush (v := nI 20) qX1_takeDegrees_14 (by decide) ?_
    refine r_cv2 (cu2 := 0) (su2 := 0) qX1_takeDegrees_16 kX1_79 rfl (by decide +kernel) (c := 1) (by assumption) (by decide) rfl rfl rfl rfl rfl rfl ?_
    refine yE_num hS e1 (fun i2 e2 => ?_)
    show zR E _ _ X 19 _ _ _ _ _ _ _
    refine r_ineg qX1_takeDegrees_19 ?_
    refine r_iret qX1_takeDegrees_20 rfl rfl rfl rfl ?_
    exact hK _ i2 e2
set_option maxHeartbeats 4000000 in
set_option maxRecDepth 20000 in
theorem y_tube {E : Ev} {g : Sh} {i : Ni} {j : Nj} {K : Kp} {rd tx L t : Nat} {B : Nat → Int32} {a : Nat → Nat} {N : Nat → Int32} {i0 : Ni} (hS : yS g rd tx a) (hG : yG rd tx L B a N i0 t i) (hKy : ∀ t' k, tNum B L (nI 0) (N 5 - nI 1) t = .ok (t', nI k) → k < zn (N 5) → ∀ i', yG rd tx L B a N i0 t' i' → K (.inl (some (.ref (a (6 + 3 * k))))) g i' j) (hKn : ∀ c w, tNum B L (nI 0) (N 5 - nI 1) t = .error (c, w) → ∀ i', yE rd tx L B a N i0 c w i' → K (.inl (some (.ref 0))) g i' j) : zCon E mX1_takeTube [.ref rd] g i j K := by
  refine zcon_of (by decide +kernel) rfl rfl (lo := [.ref rd, zJ]) rfl (fun X => ?_)
  obtain ⟨hR, r5, hC, g0⟩ := id hS
  have r1 := hR.1
  obtain ⟨hc, ⟨h0, h04⟩, hH, hF⟩ := id hG
  have hO := hH.1
  obtain ⟨hT, hT8⟩ := hO.T8
  have c7 := hH.cnt.2.2.1
  obtain ⟨a1, a2, a3, a4, a5, a6, a7, a8, a9, a10, a11, a12, a13, a14, a15, a16, -⟩ := id hC
  have h9 : (N 5 - nI 1).toInt ≤ 999 := by
    rw [hT, Int32.toInt_sub, nI_toInt (by omega), nI_toInt (by omega), Int.bmod_eq_of_le] <;> omega
  have Kb : ∀ (c : Int32) (w : Nat) (i2 : Ni), tNum B L (nI 0) (N 5 - nI 1) t = .error (c, w) → yE rd tx L B a N i0 c w i2 → zR E mX1_takeTube (zZ E mX1_takeTube K) X 14 [.ref rd, zJ] [.int (-1)] g i2 j 0 0 := by
    intro c w i2 he e2
    refine r_is_2_1 qX1_takeTube_14 rfl rfl ?_
    refine r_iload_n qX1_takeTube_15 rfl ?_
    refine r_if_lt (t := 30) qX1_takeTube_16 (by decide) (fun hc16 => ?_) (fun hc16 => absurd hc16 (by decide))
    refine r_null qX1_takeTube_30 ?_
    refine r_aret qX1_takeTube_31 rfl rfl rfl rfl ?_
    exact hKn c w he i2 e2
  refine r_aload_n qX1_takeTube_0 rfl ?_
  refine r_iconst (v := nI 0) qX1_takeTube_1 (by decide) ?_
  refine r_aload_n qX1_takeTube_2 rfl ?_
  refine r_getr qX1_takeTube_3 fX1_18 rfl (by assumption) (by first | assumption | rfl) ?_
  refine r_geti qX1_takeTube_6 fX1_118 rfl (by assumption) ?_
  rw [c7]
  refine r_iconst (v := nI 1) qX1_takeTube_9 (by decide) ?_
  refine r_isub qX1_takeTube_10 ?_
  refine r_cv2 (cu2 := 0) (su2 := 0) qX1_takeTube_11 kX1_79 rfl (by decide +kernel) (c := 1) (by assumption) (by decide) rfl rfl rfl rfl rfl rfl ?_
  refine y_num hS h9 hG (fun t' v hh i2 G2 => ?_) (fun c w hh i2 e2 => Kb c w i2 hh e2)
  show zR E _ _ X 14 _ _ _ _ _ _ _
  obtain ⟨k, ek, hk⟩ := tTube_nat hO hh
  subst ek
  have c7' := G2.2.2.1.cnt.2.2.1.trans hT
  obtain ⟨tb1, -⟩ := hC.tb (show k < 8 by omega)
  refine r_is_2_1 qX1_takeTube_14 rfl rfl ?_
  refine r_iload_n qX1_takeTube_15 rfl ?_
  refine r_if_lt (t := 30) qX1_takeTube_16 (by decide) (fun hc16 => absurd hc16 (not_neg (by omega))) (fun hc16 => ?_)
  refine r_iload_n qX1_takeTube_19 rfl ?_
  refine r_aload_n qX1_takeTube_20 rfl ?_
  refine r_getr qX1_takeTube_21 fX1_18 rfl (by assumption) (by first | assumption | rfl) ?_
  refine r_geti qX1_takeTube_24 fX1_118 rfl (by assumption) ?_
  rw [c7']
  refine r_icmp_lt (t := 32) qX1_takeTube_27 (by decide) (fun hc27 => ?_) (fun hc27 => absurd hc27 (fun h => h (nI_lt hk (by omega))))
  refine r_aload_n qX1_takeTube_32 rfl ?_
  refine r_getr qX1_takeTube_33 fX1_18 rfl (by assumption) (by first | assumption | rfl) ?_
  refine r_getr qX1_takeTube_36 fX1_248 rfl (by assumption) (by first | assumption | rfl) ?_
  refine r_iload_n qX1_takeTube_39 rfl ?_
  refine r_aaldN qX1_takeTube_40 (by first | exact Or.inl (by assumption) | exact Or.inr (by assumption)) (by assumption) (by omega) rfl (by first | assumption | rfl) ?_
  refine r_aret qX1_takeTube_41 rfl rfl rfl rfl ?_
  exact hKy t' k hh hk i2 G2
set_option maxHeartbeats 4000000 in
set_option maxRecDepth 20000 in
theorem yE_tube {E : Ev} {g : Sh} {i : Ni} {j : Nj} {K : Kp} {rd tx L : Nat} {B : Nat → Int32} {a : Nat → Nat} {N : Nat → Int32} {i0 : Ni} {c : Int32} {w : Nat} (hS : yS g rd tx a) (e : yE rd tx L B a N i0 c w i) (hK : ∀ i', yE rd tx L B a N i0 c w i' → K (.inl (some (.ref 0))) g i' j) : zCon E mX1_takeTube [.ref rd] g i j K := by
  refine zcon_of (by decide +kernel) rfl rfl (lo := [.ref rd, zJ]) rfl (fun X => ?_)
  obtain ⟨hR, r5, hC, g0⟩ := id hS
  have r1 := hR.1
  have a1 := hC.1
  refine r_aload_n qX1_takeTube_0 rfl ?_
  refine r_iconst (v := nI 0) qX1_takeTube_1 (by decide) ?_
  refine r_aload_n qX1_takeTube_2 rfl ?_
  refine r_getr qX1_takeTube_3 fX1_18 rfl (by assumption) (by first | assumption | rfl) ?_
  refine r_geti qX1_takeTube_6 fX1_118 rfl (by assumption) ?_
  refine r_iconst (v := nI 1) qX1_takeTube_9 (by decide) ?_
  refine r_isub qX1_takeTube_10 ?_
  refine r_cv2 (cu2 := 0) (su2 := 0) qX1_takeTube_11 kX1_79 rfl (by decide +kernel) (c := 1) (by assumption) (by decide) rfl rfl rfl rfl rfl rfl ?_
  refine yE_num hS e (fun i2 e2 => ?_)
  show zR E _ _ X 14 _ _ _ _ _ _ _
  refine r_is_2_1 qX1_takeTube_14 rfl rfl ?_
  refine r_iload_n qX1_takeTube_15 rfl ?_
  refine r_if_lt (t := 30) qX1_takeTube_16 (by decide) (fun hc16 => ?_) (fun hc16 => absurd hc16 (by decide))
  refine r_null qX1_takeTube_30 ?_
  refine r_aret qX1_takeTube_31 rfl rfl rfl rfl ?_
  exact hK i2 e2
set_option maxHeartbeats 4000000 in
set_option maxRecDepth 20000 in
theorem y_end {E : Ev} {g : Sh} {i : Ni} {j : Nj} {K : Kp} {rd tx L t : Nat} {B : Nat → Int32} {a : Nat → Nat} {N : Nat → Int32} {i0 : Ni} {P : Prop} {dP : Decidable P} (hS : yS g rd tx a) (hG : yG rd tx L B a N i0 t i) (hKy : ∀ t' v, tEnd B L P t = .ok (t', v) → ¬ P → ∀ i', yG rd tx L B a N i0 t' i' → K (.inl (some (.int (nI 1)))) g i' j) (hKn : ∀ c w, tEnd B L P t = .error (c, w) → ∀ i', yE rd tx L B a N i0 c w i' → K (.inl (some (.int (nI 0)))) g i' j) : zCon E mX1_takeSemicolon [.ref rd, .int (zb P)] g i j K := by
  refine zcon_of (by decide +kernel) rfl rfl (lo := [.ref rd, .int (zb P)]) rfl (fun X => ?_)
  have r1 := hS.1.1
  obtain ⟨hc, ⟨h0, h04⟩, hH, hF⟩ := id hG
  obtain ⟨p1, p2, p3, p4, p5, p6, p7, p8⟩ := id hc
  have hk5 := cKind_lt B L t
  have hk : isSemi B L t ↔ cKind B L t = 4 := cKind_s p3 (Or.inr ⟨rfl, rfl⟩)
  have K26b : ∀ (c : Int32) (w : Nat) (i1 : Ni), tEnd B L P t = .error (c, w) → yE rd tx L B a N i0 c w i1 → zR E mX1_takeSemicolon (zZ E mX1_takeSemicolon K) X 26 [.ref rd, .int (zb P)] [] g i1 j 0 0 := by
    intro c w i1 he e
    refine r_aload_n qX1_takeSemicolon_26 rfl ?_
    refine r_cv0 (cu2 := 0) (su2 := 0) qX1_takeSemicolon_27 kX1_51 rfl (by decide +kernel) (c := 1) (by assumption) (by decide) rfl rfl rfl rfl rfl rfl ?_
    refine y_nextE hS e (fun i2 e2 => ?_)
    show zR E _ _ X 30 _ _ _ _ _ _ _
    refine r_aload_n qX1_takeSemicolon_30 rfl ?_
    refine r_geti qX1_takeSemicolon_31 fX1_45 rfl (by assumption) ?_
    rw [e2.2.1]
    refine r_if_ne (t := 41) qX1_takeSemicolon_34 (by decide) (fun hc34 => ?_) (fun hc34 => absurd hc34 (e2.2.2.1))
    refine r_iconst (v := nI 0) qX1_takeSemicolon_41 (by decide) ?_
    refine r_iret qX1_takeSemicolon_42 rfl (by first | decide | exact zb_nar _ | assumption) rfl rfl ?_
    exact hKn c w he i2 e2
  by_cases hn : isSemi B L t
  · skip
    have hk3 := hk.mp hn
    by_cases hp : P
    · skip
      refine r_aload_n qX1_takeSemicolon_0 rfl ?_
      refine r_geti qX1_takeSemicolon_1 fX1_57 rfl (by assumption) ?_
      rw [p8, hk3]
      refine r_iconst (v := nI 4) qX1_takeSemicolon_4 (by decide) ?_
      refine r_icmp_eq (t := 16) qX1_takeSemicolon_5 (by decide) (fun hc5 => ?_) (fun hc5 => absurd hc5 (fun h => h rfl))
      refine r_iload_n qX1_takeSemicolon_16 rfl ?_
      rw [zb_t hp]
      refine r_if_eq (t := 26) qX1_takeSemicolon_17 (by decide) (fun hc17 => absurd hc17 (by decide)) (fun hc17 => ?_)
      refine r_aload_n qX1_takeSemicolon_20 rfl ?_
      refine r_bipush (v := nI 6) qX1_takeSemicolon_21 (by decide) ?_
      refine r_cv1 (cu2 := 0) (su2 := 0) qX1_takeSemicolon_23 kX1_67 rfl (by decide +kernel) (c := 1) (by assumption) (by decide) rfl rfl rfl rfl rfl rfl ?_
      refine c_X1_fail r1 h0 ?_
      rw [p6]
      show zR E _ _ X 26 _ _ _ _ _ _ _
      have z := K26b (nI 6) t _ (by rw [tEnd, if_neg (fun h => h.2 hp), if_pos hn]) (hG.bad hS (by decide))
      rw [zb_t hp] at z
      exact z
    · skip
      refine r_aload_n qX1_takeSemicolon_0 rfl ?_
      refine r_geti qX1_takeSemicolon_1 fX1_57 rfl (by assumption) ?_
      rw [p8, hk3]
      refine r_iconst (v := nI 4) qX1_takeSemicolon_4 (by decide) ?_
      refine r_icmp_eq (t := 16) qX1_takeSemicolon_5 (by decide) (fun hc5 => ?_) (fun hc5 => absurd hc5 (fun h => h rfl))
      refine r_iload_n qX1_takeSemicolon_16 rfl ?_
      rw [zb_f hp]
      refine r_if_eq (t := 26) qX1_takeSemicolon_17 (by decide) (fun hc17 => ?_) (fun hc17 => absurd hc17 (by decide))
      refine r_aload_n qX1_takeSemicolon_26 rfl ?_
      refine r_cv0 (cu2 := 0) (su2 := 0) qX1_takeSemicolon_27 kX1_51 rfl (by decide +kernel) (c := 1) (by assumption) (by decide) rfl rfl rfl rfl rfl rfl ?_
      refine y_nextG hS hG (fun i2 G2 => ?_)
      show zR E _ _ X 30 _ _ _ _ _ _ _
      refine r_aload_n qX1_takeSemicolon_30 rfl ?_
      refine r_geti qX1_takeSemicolon_31 fX1_45 rfl (by assumption) ?_
      rw [G2.2.1.1]
      refine r_if_ne (t := 41) qX1_takeSemicolon_34 (by decide) (fun hc34 => absurd hc34 (fun h => h rfl)) (fun hc34 => ?_)
      refine r_iconst (v := nI 1) qX1_takeSemicolon_37 (by decide) ?_
      refine r_goto (t := 42) qX1_takeSemicolon_38 (by decide) ?_
      refine r_iret qX1_takeSemicolon_42 rfl (by first | decide | exact zb_nar _ | assumption) rfl rfl ?_
      exact hKy _ () (by rw [tEnd, if_pos ⟨hn, hp⟩]) hp i2 G2
  · skip
    have hk3 : ¬ cKind B L t = 4 := fun h => hn (hk.mpr h)
    refine r_aload_n qX1_takeSemicolon_0 rfl ?_
    refine r_geti qX1_takeSemicolon_1 fX1_57 rfl (by assumption) ?_
    rw [p8]
    refine r_iconst (v := nI 4) qX1_takeSemicolon_4 (by decide) ?_
    refine r_icmp_eq (t := 16) qX1_takeSemicolon_5 (by decide) (fun hc5 => absurd hc5 (fun h => hk3 ((nI_eq (by omega) (by omega)).mp h))) (fun hc5 => ?_)
    refine r_aload_n qX1_takeSemicolon_8 rfl ?_
    refine r_iconst (v := nI 1) qX1_takeSemicolon_9 (by decide) ?_
    refine r_cv1 (cu2 := 0) (su2 := 0) qX1_takeSemicolon_10 kX1_67 rfl (by decide +kernel) (c := 1) (by assumption) (by decide) rfl rfl rfl rfl rfl rfl ?_
    refine c_X1_fail r1 h0 ?_
    rw [p6]
    show zR E _ _ X 13 _ _ _ _ _ _ _
    refine r_goto (t := 26) qX1_takeSemicolon_13 (by decide) ?_
    exact K26b (nI 1) t _ (by rw [tEnd, if_neg (fun h => hn h.1), if_neg hn]) (hG.bad hS (by decide))
set_option maxHeartbeats 4000000 in
set_option maxRecDepth 20000 in
theorem yE_end {E : Ev} {g : Sh} {i : Ni} {j : Nj} {K : Kp} {rd tx L : Nat} {B : Nat → Int32} {a : Nat → Nat} {N : Nat → Int32} {i0 : Ni} {c p : Int32} {w : Nat} (hS : yS g rd tx a) (e : yE rd tx L B a N i0 c w i) (hK : ∀ i', yE rd tx L B a N i0 c w i' → K (.inl (some (.int (nI 0)))) g i' j) : zCon E mX1_takeSemicolon [.ref rd, .int p] g i j K := by
  refine zcon_of (by decide +kernel) rfl rfl (lo := [.ref rd, .int p]) rfl (fun X => ?_)
  have r1 := hS.1.1
  obtain ⟨⟨t, hc⟩, e3, e0, e4, e5, e6⟩ := id e
  have h0 : ¬ i rd 3 = 0 := by rw [e3]; exact e0
  refine r_aload_n qX1_takeSemicolon_0 rfl ?_
  refine r_geti qX1_takeSemicolon_1 fX1_57 rfl (by assumption) ?_
  refine r_iconst (v := nI 4) qX1_takeSemicolon_4 (by decide) ?_
  refine r_icmp_eq (t := 16) qX1_takeSemicolon_5 (by decide) (fun hc5 => ?_) (fun hc5 => ?_)
  · refine r_iload_n qX1_takeSemicolon_16 rfl ?_
    refine r_if_eq (t := 26) qX1_takeSemicolon_17 (by decide) (fun hc17 => ?_) (fun hc17 => ?_)
    · refine r_aload_n qX1_takeSemicolon_26 rfl ?_
      refine r_cv0 (cu2 := 0) (su2 := 0) qX1_takeSemicolon_27 kX1_51 rfl (by decide +kernel) (c := 1) (by assumption) (by decide) rfl rfl rfl rfl rfl rfl ?_
      refine y_nextE hS e (fun i2 e2 => ?_)
      show zR E _ _ X 30 _ _ _ _ _ _ _
      refine r_aload_n qX1_takeSemicolon_30 rfl ?_
      refine r_geti qX1_takeSemicolon_31 fX1_45 rfl (by assumption) ?_
      rw [e2.2.1]
      refine r_if_ne (t := 41) qX1_takeSemicolon_34 (by decide) (fun hc34 => ?_) (fun hc34 => absurd hc34 (e2.2.2.1))
      refine r_iconst (v := nI 0) qX1_takeSemicolon_41 (by decide) ?_
      refine r_iret qX1_takeSemicolon_42 rfl (by first | decide | exact zb_nar _ | assumption) rfl rfl ?_
      exact hK i2 e2
    · refine r_aload_n qX1_takeSemicolon_20 rfl ?_
      refine r_bipush (v := nI 6) qX1_takeSemicolon_21 (by decide) ?_
      refine r_cv1 (cu2 := 0) (su2 := 0) qX1_takeSemicolon_23 kX1_67 rfl (by decide +kernel) (c := 1) (by assumption) (by decide) rfl rfl rfl rfl rfl rfl ?_
      refine cE_fail r1 h0 ?_
      show zR E _ _ X 26 _ _ _ _ _ _ _
      refine r_aload_n qX1_takeSemicolon_26 rfl ?_
      refine r_cv0 (cu2 := 0) (su2 := 0) qX1_takeSemicolon_27 kX1_51 rfl (by decide +kernel) (c := 1) (by assumption) (by decide) rfl rfl rfl rfl rfl rfl ?_
      refine y_nextE hS e (fun i2 e2 => ?_)
      show zR E _ _ X 30 _ _ _ _ _ _ _
      refine r_aload_n qX1_takeSemicolon_30 rfl ?_
      refine r_geti qX1_takeSemicolon_31 fX1_45 rfl (by assumption) ?_
      rw [e2.2.1]
      refine r_if_ne (t := 41) qX1_takeSemicolon_34 (by decide) (fun hc34 => ?_) (fun hc34 => absurd hc34 (e2.2.2.1))
      refine r_iconst (v := nI 0) qX1_takeSemicolon_41 (by decide) ?_
      refine r_iret qX1_takeSemicolon_42 rfl (by first | decide | exact zb_nar _ | assumption) rfl rfl ?_
      exact hK i2 e2
  · refine r_aload_n qX1_takeSemicolon_8 rfl ?_
    refine r_iconst (v := nI 1) qX1_takeSemicolon_9 (by decide) ?_
    refine r_cv1 (cu2 := 0) (su2 := 0) qX1_takeSemicolon_10 kX1_67 rfl (by decide +kernel) (c := 1) (by assumption) (by decide) rfl rfl rfl rfl rfl rfl ?_
    refine cE_fail r1 h0 ?_
    show zR E _ _ X 13 _ _ _ _ _ _ _
    refine r_goto (t := 26) qX1_takeSemicolon_13 (by decide) ?_
    refine r_aload_n qX1_takeSemicolon_26 rfl ?_
    refine r_cv0 (cu2 := 0) (su2 := 0) qX1_takeSemicolon_27 kX1_51 rfl (by decide +kernel) (c := 1) (by assumption) (by decide) rfl rfl rfl rfl rfl rfl ?_
    refine y_nextE hS e (fun i2 e2 => ?_)
    show zR E _ _ X 30 _ _ _ _ _ _ _
    refine r_aload_n qX1_takeSemicolon_30 rfl ?_
    refine r_geti qX1_takeSemicolon_31 fX1_45 rfl (by assumption) ?_
    rw [e2.2.1]
    refine r_if_ne (t := 41) qX1_takeSemicolon_34 (by decide) (fun hc34 => ?_) (fun hc34 => absurd hc34 (e2.2.2.1))
    refine r_iconst (v := nI 0) qX1_takeSemicolon_41 (by decide) ?_
    refine r_iret qX1_takeSemicolon_42 rfl (by first | decide | exact zb_nar _ | assumption) rfl rfl ?_
    exact hK i2 e2
set_option maxHeartbeats 4000000 in
set_option maxRecDepth 20000 in
theorem y_row {E : Ev} {g : Sh} {i : Ni} {j : Nj} {K : Kp} {rd tx L t cnt m v : Nat} {B : Nat → Int32} {a : Nat → Nat} {N : Nat → Int32} {i0 : Ni} (hS : yS g rd tx a) (hG : yG rd tx L B a N i0 t i) (hv : N v = nI cnt) (hm : cnt ≤ m) (hm9 : m < 1000) (hKy : ¬ N v = nI m → ∀ i', yG rd tx L B a N i0 (sNext B L t) i' → K (.inl none) g i' j) (hKn : N v = nI m → ∀ i', yE rd tx L B a N i0 (nI 5) t i' → K (.inl none) g i' j) : zCon E mX1_takeRow [.ref rd, .int (nI cnt), .int (nI m)] g i j K := by
  refine zcon_of (by decide +kernel) rfl rfl (lo := [.ref rd, .int (nI cnt), .int (nI m)]) rfl (fun X => ?_)
  have r1 := hS.1.1
  obtain ⟨hc, ⟨h0, h04⟩, hH, hF⟩ := id hG
  obtain ⟨p1, p2, p3, p4, p5, p6, p7, p8⟩ := id hc
  by_cases hf : cnt = m
  · skip
    refine r_iload_n qX1_takeRow_0 rfl ?_
    refine r_iload_n qX1_takeRow_1 rfl ?_
    refine r_icmp_lt (t := 10) qX1_takeRow_2 (by decide) (fun hc2 => absurd hc2 (fun h => absurd h (Int32.not_lt.mpr (nI_le (by omega) (by omega))))) (fun hc2 => ?_)
    refine r_aload_n qX1_takeRow_5 rfl ?_
    refine r_iconst (v := nI 5) qX1_takeRow_6 (by decide) ?_
    refine r_cv1 (cu2 := 0) (su2 := 0) qX1_takeRow_7 kX1_67 rfl (by decide +kernel) (c := 1) (by assumption) (by decide) rfl rfl rfl rfl rfl rfl ?_
    refine c_X1_fail r1 h0 ?_
    rw [p6]
    show zR E _ _ X 10 _ _ _ _ _ _ _
    refine r_aload_n qX1_takeRow_10 rfl ?_
    refine r_cv0 (cu2 := 0) (su2 := 0) qX1_takeRow_11 kX1_51 rfl (by decide +kernel) (c := 1) (by assumption) (by decide) rfl rfl rfl rfl rfl rfl ?_
    refine y_nextE hS (hG.bad hS (by decide)) (fun i2 e2 => ?_)
    show zR E _ _ X 14 _ _ _ _ _ _ _
    refine r_vret qX1_takeRow_14 rfl rfl rfl ?_
    exact hKn (by rw [hv, hf]) i2 e2
  · skip
    refine r_iload_n qX1_takeRow_0 rfl ?_
    refine r_iload_n qX1_takeRow_1 rfl ?_
    refine r_icmp_lt (t := 10) qX1_takeRow_2 (by decide) (fun hc2 => ?_) (fun hc2 => absurd hc2 (fun h => h (nI_lt (by omega) (by omega))))
    refine r_aload_n qX1_takeRow_10 rfl ?_
    refine r_cv0 (cu2 := 0) (su2 := 0) qX1_takeRow_11 kX1_51 rfl (by decide +kernel) (c := 1) (by assumption) (by decide) rfl rfl rfl rfl rfl rfl ?_
    refine y_nextG hS hG (fun i2 G2 => ?_)
    show zR E _ _ X 14 _ _ _ _ _ _ _
    refine r_vret qX1_takeRow_14 rfl rfl rfl ?_
    exact hKy (fun h => hf ((nI_eq (by omega) (by omega)).mp (hv.symm.trans h))) i2 G2


