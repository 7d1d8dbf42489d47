/-! ===== THE CLASS'S PARSER: NEW NAMES; NAMES AFTER AN ERROR ===== -/
set_option maxHeartbeats 4000000 in
set_option maxRecDepth 20000 in
theorem y_new {E : Ev} {g : Sh} {i : Ni} {j : Nj} {K : Kp} {rd tx L t : Nat} {B : Nat → Int32} {a : Nat → Nat} {N : Nat → Int32} {i0 : Ni} (hS : yS g rd tx a) (hG : yG rd tx L B a N i0 t i) (hKy : ∀ t' v, tNew N B L t = .ok (t', v) → ∀ i', yG rd tx L B a N i0 t' i' → K (.inl (some (.int (tName B L t)))) g i' j) (hKn : ∀ c w, tNew N B L t = .error (c, w) → ∀ (u : Int32) i', yE rd tx L B a N i0 c w i' → K (.inl (some (.int u))) g i' j) : zCon E mX1_takeNewName [.ref rd] g i j K := by
  refine zcon_of (by decide +kernel) rfl rfl (lo := [.ref rd, zJ]) rfl (fun X => ?_)
  obtain ⟨hR, r5, hC, g0⟩ := id hS
  have r1 := hR.1
  obtain ⟨hc, ⟨h0, h04⟩, hH, hF⟩ := id hG
  obtain ⟨p1, p2, p3, p4, p5, p6, p7, p8⟩ := id hc
  obtain ⟨hS3, hS5⟩ := hH.1.S5
  obtain ⟨hB3, hB4⟩ := hH.1.B4
  obtain ⟨a1, a2, a3, a4, a5, a6, a7, a8, a9, a10, a11, a12, a13, a14, a15, a16, -⟩ := id hC
  obtain ⟨c5, c6, c7, c8, c9, c10, c11, c12⟩ := hH.cnt
  have c5' := c5.trans hS3
  have c6' := c6.trans hB3
  have hk5 := cKind_lt B L t
  have hnm := nm_sp (B := B) p2 p5 hH
  have hnb := nm_ba (B := B) p2 p5 hH
  have Kb : ∀ (v c : Int32) (w : Nat) (i1 : Ni), tNew N B L t = .error (c, w) → yE rd tx L B a N i0 c w i1 → zR E mX1_takeNewName (zZ E mX1_takeNewName K) X 82 [.ref rd, .int v] [] g i1 j 0 0 := by
    intro v c w i1 he e
    refine r_aload_n qX1_takeNewName_82 rfl ?_
    refine r_cv0 (cu2 := 0) (su2 := 0) qX1_takeNewName_83 kX1_51 rfl (by decide +kernel) (c := 1) (by assumption) (by decide) rfl rfl rfl rfl rfl rfl ?_
    refine y_nextE hS e (fun i2 e2 => ?_)
    show zR E _ _ X 86 _ _ _ _ _ _ _
    refine r_iload_n qX1_takeNewName_86 rfl ?_
    refine r_iret qX1_takeNewName_87 rfl rfl rfl rfl ?_
    exact hKn c w he _ i2 e2
  by_cases hk : sKind B L t = 1
  · skip
    have hk1 := cKind_1.mp hk
    have h0n := nm_0 hk
    by_cases h4 : 4 < sLtr B L t
    · skip
      refine r_aload_n qX1_takeNewName_0 rfl ?_
      refine r_cv0 (cu2 := 0) (su2 := 0) qX1_takeNewName_1 kX1_252 rfl (by decide +kernel) (c := 1) (by assumption) (by decide) rfl rfl rfl rfl rfl rfl ?_
      refine c_X1_tokenName hR hc ?_
      show zR E _ _ X 4 _ _ _ _ _ _ _
      refine r_is_2_1 qX1_takeNewName_4 rfl rfl ?_
      refine r_aload_n qX1_takeNewName_5 rfl ?_
      refine r_geti qX1_takeNewName_6 fX1_57 rfl (by assumption) ?_
      rw [p8, hk1]
      refine r_iconst (v := nI 1) qX1_takeNewName_9 (by decide) ?_
      refine r_icmp_eq (t := 21) qX1_takeNewName_10 (by decide) (fun hc10 => ?_) (fun hc10 => absurd hc10 (fun h => h rfl))
      refine r_iload_n qX1_takeNewName_21 rfl ?_
      refine r_if_ne (t := 33) qX1_takeNewName_22 (by decide) (fun hc22 => absurd hc22 (fun h => h (h0n.mpr h4))) (fun hc22 => ?_)
      refine r_aload_n qX1_takeNewName_25 rfl ?_
      refine r_iconst (v := nI 2) qX1_takeNewName_26 (by decide) ?_
      refine r_cv1 (cu2 := 0) (su2 := 0) qX1_takeNewName_27 kX1_67 rfl (by decide +kernel) (c := 1) (by assumption) (by decide) rfl rfl rfl rfl rfl rfl ?_
      refine c_X1_fail r1 h0 ?_
      rw [p6]
      show zR E _ _ X 30 _ _ _ _ _ _ _
      refine r_goto (t := 82) qX1_takeNewName_30 (by decide) ?_
      exact Kb _ (nI 2) t _ (by rw [tNew, if_neg (fun h => h hk), if_pos h4]) (hG.bad hS (by decide))
    · skip
      have e3 : (¬ sUntil (fSp N B L t) 0 (zn (N 3)) = -1 ∨ ¬ sUntil (fBa N B L t) 0 (zn (N 4)) = -1) → tNew N B L t = .error (nI 3, t) := fun h => by rw [tNew, if_neg (fun h => h hk), if_neg h4, if_pos h]
      have e4 : sUntil (fSp N B L t) 0 (zn (N 3)) = -1 → sUntil (fBa N B L t) 0 (zn (N 4)) = -1 → tNew N B L t = .ok (sNext B L t, ()) := fun h1 h2 => by rw [tNew, if_neg (fun h => h hk), if_neg h4, if_neg (fun h => h.elim (fun h => h h1) (fun h => h h2))]
      have K82 : sUntil (fSp N B L t) 0 (zn (N 3)) = -1 → sUntil (fBa N B L t) 0 (zn (N 4)) = -1 → zR E mX1_takeNewName (zZ E mX1_takeNewName K) X 82 [.ref rd, .int (tName B L t)] [] g i j 0 0 := by
        intro h1 h2
        refine r_aload_n qX1_takeNewName_82 rfl ?_
        refine r_cv0 (cu2 := 0) (su2 := 0) qX1_takeNewName_83 kX1_51 rfl (by decide +kernel) (c := 1) (by assumption) (by decide) rfl rfl rfl rfl rfl rfl ?_
        refine y_nextG hS hG (fun i2 G2 => ?_)
        show zR E _ _ X 86 _ _ _ _ _ _ _
        refine r_iload_n qX1_takeNewName_86 rfl ?_
        refine r_iret qX1_takeNewName_87 rfl rfl rfl rfl ?_
        exact hKy _ _ (e4 h1 h2) i2 G2
      refine r_aload_n qX1_takeNewName_0 rfl ?_
      refine r_cv0 (cu2 := 0) (su2 := 0) qX1_takeNewName_1 kX1_252 rfl (by decide +kernel) (c := 1) (by assumption) (by decide) rfl rfl rfl rfl rfl rfl ?_
      refine c_X1_tokenName hR hc ?_
      show zR E _ _ X 4 _ _ _ _ _ _ _
      refine r_is_2_1 qX1_takeNewName_4 rfl rfl ?_
      refine r_aload_n qX1_takeNewName_5 rfl ?_
      refine r_geti qX1_takeNewName_6 fX1_57 rfl (by assumption) ?_
      rw [p8, hk1]
      refine r_iconst (v := nI 1) qX1_takeNewName_9 (by decide) ?_
      refine r_icmp_eq (t := 21) qX1_takeNewName_10 (by decide) (fun hc10 => ?_) (fun hc10 => absurd hc10 (fun h => h rfl))
      refine r_iload_n qX1_takeNewName_21 rfl ?_
      refine r_if_ne (t := 33) qX1_takeNewName_22 (by decide) (fun hc22 => ?_) (fun hc22 => absurd hc22 (fun h => h4 (h0n.mp h)))
      refine r_aload_n qX1_takeNewName_33 rfl ?_
      refine r_getr qX1_takeNewName_34 fX1_18 rfl (by assumption) (by first | assumption | rfl) ?_
      refine r_getr qX1_takeNewName_37 fX1_180 rfl (by assumption) (by first | assumption | rfl) ?_
      refine r_aload_n qX1_takeNewName_40 rfl ?_
      refine r_getr qX1_takeNewName_41 fX1_18 rfl (by assumption) (by first | assumption | rfl) ?_
      refine r_geti qX1_takeNewName_44 fX1_98 rfl (by assumption) ?_
      rw [c5']
      refine r_iload_n qX1_takeNewName_47 rfl ?_
      refine r_cs3 (cu2 := 0) (su2 := 0) qX1_takeNewName_48 kX1_255 rfl (by decide +kernel) rfl rfl rfl rfl rfl ?_
      refine c_X1_indexOfName a7 a8 hS5 (by decide) ?_
      show zR E _ _ X 51 _ _ _ _ _ _ _
      rw [hnm]
      refine r_iconst (v := (-1)) qX1_takeNewName_51 (by decide) ?_
      refine r_icmp_ne (t := 77) qX1_takeNewName_52 (by decide) (fun hc52 => ?_) (fun hc52 => ?_)
      · refine r_aload_n qX1_takeNewName_77 rfl ?_
        refine r_iconst (v := nI 3) qX1_takeNewName_78 (by decide) ?_
        refine r_cv1 (cu2 := 0) (su2 := 0) qX1_takeNewName_79 kX1_67 rfl (by decide +kernel) (c := 1) (by assumption) (by decide) rfl rfl rfl rfl rfl rfl ?_
        refine c_X1_fail r1 h0 ?_
        rw [p6]
        show zR E _ _ X 82 _ _ _ _ _ _ _
        first | exact K82 hc52 hc74 | exact Kb _ (nI 3) t _ (e3 (Or.inl hc52)) (hG.bad hS (by decide)) | exact Kb _ (nI 3) t _ (e3 (Or.inr hc74)) (hG.bad hS (by decide))
      · refine r_aload_n qX1_takeNewName_55 rfl ?_
        refine r_getr qX1_takeNewName_56 fX1_18 rfl (by assumption) (by first | assumption | rfl) ?_
        refine r_getr qX1_takeNewName_59 fX1_202 rfl (by assumption) (by first | assumption | rfl) ?_
        refine r_aload_n qX1_takeNewName_62 rfl ?_
        refine r_getr qX1_takeNewName_63 fX1_18 rfl (by assumption) (by first | assumption | rfl) ?_
        refine r_geti qX1_takeNewName_66 fX1_110 rfl (by assumption) ?_
        rw [c6']
        refine r_iload_n qX1_takeNewName_69 rfl ?_
        refine r_cs3 (cu2 := 0) (su2 := 0) qX1_takeNewName_70 kX1_255 rfl (by decide +kernel) rfl rfl rfl rfl rfl ?_
        refine c_X1_indexOfName a11 a12 hB4 (by decide) ?_
        show zR E _ _ X 73 _ _ _ _ _ _ _
        rw [hnb]
        refine r_iconst (v := (-1)) qX1_takeNewName_73 (by decide) ?_
        refine r_icmp_eq (t := 82) qX1_takeNewName_74 (by decide) (fun hc74 => ?_) (fun hc74 => ?_)
        · first | exact K82 hc52 hc74 | exact Kb _ (nI 3) t _ (e3 (Or.inl hc52)) (hG.bad hS (by decide)) | exact Kb _ (nI 3) t _ (e3 (Or.inr hc74)) (hG.bad hS (by decide))
        · refine r_aload_n qX1_takeNewName_77 rfl ?_
          refine r_iconst (v := nI 3) qX1_takeNewName_78 (by decide) ?_
          refine r_cv1 (cu2 := 0) (su2 := 0) qX1_takeNewName_79 kX1_67 rfl (by decide +kernel) (c := 1) (by assumption) (by decide) rfl rfl rfl rfl rfl rfl ?_
          refine c_X1_fail r1 h0 ?_
          rw [p6]
          show zR E _ _ X 82 _ _ _ _ _ _ _
          first | exact K82 hc52 hc74 | exact Kb _ (nI 3) t _ (e3 (Or.inl hc52)) (hG.bad hS (by decide)) | exact Kb _ (nI 3) t _ (e3 (Or.inr hc74)) (hG.bad hS (by decide))
  · skip
    have hk1 : ¬ cKind B L t = 1 := fun h => hk (cKind_1.mpr h)
    refine r_aload_n qX1_takeNewName_0 rfl ?_
    refine r_cv0 (cu2 := 0) (su2 := 0) qX1_takeNewName_1 kX1_252 rfl (by decide +kernel) (c := 1) (by assumption) (by decide) rfl rfl rfl rfl rfl rfl ?_
    refine c_X1_tokenName hR hc ?_
    show zR E _ _ X 4 _ _ _ _ _ _ _
    refine r_is_2_1 qX1_takeNewName_4 rfl rfl ?_
    refine r_aload_n qX1_takeNewName_5 rfl ?_
    refine r_geti qX1_takeNewName_6 fX1_57 rfl (by assumption) ?_
    rw [p8]
    refine r_iconst (v := nI 1) qX1_takeNewName_9 (by decide) ?_
    refine r_icmp_eq (t := 21) qX1_takeNewName_10 (by decide) (fun hc10 => absurd hc10 (fun h => hk1 ((nI_eq (by omega) (by omega)).mp h))) (fun hc10 => ?_)
    refine r_aload_n qX1_takeNewName_13 rfl ?_
    refine r_iconst (v := nI 1) qX1_takeNewName_14 (by decide) ?_
    refine r_cv1 (cu2 := 0) (su2 := 0) qX1_takeNewName_15 kX1_67 rfl (by decide +kernel) (c := 1) (by assumption) (by decide) rfl rfl rfl rfl rfl rfl ?_
    refine c_X1_fail r1 h0 ?_
    rw [p6]
    show zR E _ _ X 18 _ _ _ _ _ _ _
    refine r_goto (t := 82) qX1_takeNewName_18 (by decide) ?_
    exact Kb _ (nI 1) t _ (by rw [tNew, if_pos hk]) (hG.bad hS (by decide))
set_option maxHeartbeats 4000000 in
set_option maxRecDepth 20000 in
theorem yE_known {E : Ev} {g : Sh} {i : Ni} {j : Nj} {K : Kp} {rd tx L r S D : Nat} {B : Nat → Int32} {a : Nat → Nat} {N : Nat → Int32} {i0 : Ni} {c : Int32} {w : Nat} (hS : yS g rd tx a) (hr : gT g r = 11) (hL : gL g r = D) (hSD : S ≤ D) (hD : D < 1000) (e : yE rd tx L B a N i0 c w i) (hK : ∀ (u : Int32) i', yE rd tx L B a N i0 c w i' → K (.inl (some (.int u))) g i' j) : zCon E mX1_takeKnownName [.ref rd, .ref r, .int (nI S)] g i j K := by
  refine zcon_of (by decide +kernel) rfl rfl (lo := [.ref rd, .ref r, .int (nI S), zJ]) rfl (fun X => ?_)
  have hR := hS.1
  have r1 := hR.1
  obtain ⟨⟨t, hc⟩, e3, e0, e4, e5, e6⟩ := id e
  have h0 : ¬ i rd 3 = 0 := by rw [e3]; exact e0
  refine r_aload_n qX1_takeKnownName_0 rfl ?_
  refine r_iload_n qX1_takeKnownName_1 rfl ?_
  refine r_aload_n qX1_takeKnownName_2 rfl ?_
  refine r_cv0 (cu2 := 0) (su2 := 0) qX1_takeKnownName_3 kX1_252 rfl (by decide +kernel) (c := 1) (by assumption) (by decide) rfl rfl rfl rfl rfl rfl ?_
  refine c_X1_tokenName hR hc ?_
  show zR E _ _ X 6 _ _ _ _ _ _ _
  refine r_cs3 (cu2 := 0) (su2 := 0) qX1_takeKnownName_6 kX1_255 rfl (by decide +kernel) rfl rfl rfl rfl rfl ?_
  refine c_X1_indexOfName hr hL hSD hD ?_
  show zR E _ _ X 9 _ _ _ _ _ _ _
  refine r_is_4_3 qX1_takeKnownName_9 rfl rfl ?_
  refine r_aload_n qX1_takeKnownName_10 rfl ?_
  refine r_geti qX1_takeKnownName_11 fX1_57 rfl (by assumption) ?_
  refine r_iconst (v := nI 1) qX1_takeKnownName_14 (by decide) ?_
  refine r_icmp_eq (t := 26) qX1_takeKnownName_15 (by decide) (fun hc15 => ?_) (fun hc15 => ?_)
  · refine r_iload_n qX1_takeKnownName_26 rfl ?_
    refine r_iconst (v := (-1)) qX1_takeKnownName_27 (by decide) ?_
    refine r_icmp_ne (t := 36) qX1_takeKnownName_28 (by decide) (fun hc28 => ?_) (fun hc28 => ?_)
    · refine r_aload_n qX1_takeKnownName_36 rfl ?_
      refine r_cv0 (cu2 := 0) (su2 := 0) qX1_takeKnownName_37 kX1_51 rfl (by decide +kernel) (c := 1) (by assumption) (by decide) rfl rfl rfl rfl rfl rfl ?_
      refine y_nextE hS e (fun i2 e2 => ?_)
      show zR E _ _ X 40 _ _ _ _ _ _ _
      refine r_iload_n qX1_takeKnownName_40 rfl ?_
      refine r_iret qX1_takeKnownName_41 rfl rfl rfl rfl ?_
      exact hK _ i2 e2
    · refine r_aload_n qX1_takeKnownName_31 rfl ?_
      refine r_iconst (v := nI 4) qX1_takeKnownName_32 (by decide) ?_
      refine r_cv1 (cu2 := 0) (su2 := 0) qX1_takeKnownName_33 kX1_67 rfl (by decide +kernel) (c := 1) (by assumption) (by decide) rfl rfl rfl rfl rfl rfl ?_
      refine cE_fail r1 h0 ?_
      show zR E _ _ X 36 _ _ _ _ _ _ _
      refine r_aload_n qX1_takeKnownName_36 rfl ?_
      refine r_cv0 (cu2 := 0) (su2 := 0) qX1_takeKnownName_37 kX1_51 rfl (by decide +kernel) (c := 1) (by assumption) (by decide) rfl rfl rfl rfl rfl rfl ?_
      refine y_nextE hS e (fun i2 e2 => ?_)
      show zR E _ _ X 40 _ _ _ _ _ _ _
      refine r_iload_n qX1_takeKnownName_40 rfl ?_
      refine r_iret qX1_takeKnownName_41 rfl rfl rfl rfl ?_
      exact hK _ i2 e2
  · refine r_aload_n qX1_takeKnownName_18 rfl ?_
    refine r_iconst (v := nI 1) qX1_takeKnownName_19 (by decide) ?_
    refine r_cv1 (cu2 := 0) (su2 := 0) qX1_takeKnownName_20 kX1_67 rfl (by decide +kernel) (c := 1) (by assumption) (by decide) rfl rfl rfl rfl rfl rfl ?_
    refine cE_fail r1 h0 ?_
    show zR E _ _ X 23 _ _ _ _ _ _ _
    refine r_goto (t := 36) qX1_takeKnownName_23 (by decide) ?_
    refine r_aload_n qX1_takeKnownName_36 rfl ?_
    refine r_cv0 (cu2 := 0) (su2 := 0) qX1_takeKnownName_37 kX1_51 rfl (by decide +kernel) (c := 1) (by assumption) (by decide) rfl rfl rfl rfl rfl rfl ?_
    refine y_nextE hS e (fun i2 e2 => ?_)
    show zR E _ _ X 40 _ _ _ _ _ _ _
    refine r_iload_n qX1_takeKnownName_40 rfl ?_
    refine r_iret qX1_takeKnownName_41 rfl rfl rfl rfl ?_
    exact hK _ i2 e2
set_option maxHeartbeats 4000000 in
set_option maxRecDepth 20000 in
theorem yE_new {E : Ev} {g : Sh} {i : Ni} {j : Nj} {K : Kp} {rd tx L : Nat} {B : Nat → Int32} {a : Nat → Nat} {N : Nat → Int32} {i0 : Ni} {c : Int32} {w : Nat} (hS : yS g rd tx a) (e : yE rd tx L B a N i0 c w i) (hK : ∀ (u : Int32) i', yE rd tx L B a N i0 c w i' → K (.inl (some (.int u))) g i' j) : zCon E mX1_takeNewName [.ref rd] g i j K := by
  refine zcon_of (by decide +kernel) rfl rfl (lo := [.ref rd, zJ]) rfl (fun X => ?_)
  obtain ⟨hR, r5, hC, g0⟩ := id hS
  have r1 := hR.1
  obtain ⟨⟨t, hc⟩, e3, e0, e4, hH, e6⟩ := id e
  have h0 : ¬ i rd 3 = 0 := by rw [e3]; exact e0
  obtain ⟨hS3, hS5⟩ := hH.1.S5
  obtain ⟨hB3, hB4⟩ := hH.1.B4
  obtain ⟨a1, a2, a3, a4, a5, a6, a7, a8, a9, a10, a11, a12, a13, a14, a15, a16, -⟩ := id hC
  obtain ⟨c5, c6, c7, c8, c9, c10, c11, c12⟩ := hH.cnt
  have c5' := c5.trans hS3
  have c6' := c6.trans hB3
  refine r_aload_n qX1_takeNewName_0 rfl ?_
  refine r_cv0 (cu2 := 0) (su2 := 0) qX1_takeNewName_1 kX1_252 rfl (by decide +kernel) (c := 1) (by assumption) (by decide) rfl rfl rfl rfl rfl rfl ?_
  refine c_X1_tokenName hR hc ?_
  show zR E _ _ X 4 _ _ _ _ _ _ _
  refine r_is_2_1 qX1_takeNewName_4 rfl rfl ?_
  refine r_aload_n qX1_takeNewName_5 rfl ?_
  refine r_geti qX1_takeNewName_6 fX1_57 rfl (by assumption) ?_
  refine r_iconst (v := nI 1) qX1_takeNewName_9 (by decide) ?_
  refine r_icmp_eq (t := 21) qX1_takeNewName_10 (by decide) (fun hc10 => ?_) (fun hc10 => ?_)
  · refine r_iload_n qX1_takeNewName_21 rfl ?_
    refine r_if_ne (t := 33) qX1_takeNewName_22 (by decide) (fun hc22 => ?_) (fun hc22 => ?_)
    · refine r_aload_n qX1_takeNewName_33 rfl ?_
      refine r_getr qX1_takeNewName_34 fX1_18 rfl (by assumption) (by first | assumption | rfl) ?_
      refine r_getr qX1_takeNewName_37 fX1_180 rfl (by assumption) (by first | assumption | rfl) ?_
      refine r_aload_n qX1_takeNewName_40 rfl ?_
      refine r_getr qX1_takeNewName_41 fX1_18 rfl (by assumption) (by first | assumption | rfl) ?_
      refine r_geti qX1_takeNewName_44 fX1_98 rfl (by assumption) ?_
      rw [c5']
      refine r_iload_n qX1_takeNewName_47 rfl ?_
      refine r_cs3 (cu2 := 0) (su2 := 0) qX1_takeNewName_48 kX1_255 rfl (by decide +kernel) rfl rfl rfl rfl rfl ?_
      refine c_X1_indexOfName a7 a8 hS5 (by decide) ?_
      show zR E _ _ X 51 _ _ _ _ _ _ _
      refine r_iconst (v := (-1)) qX1_takeNewName_51 (by decide) ?_
      refine r_icmp_ne (t := 77) qX1_takeNewName_52 (by decide) (fun hc52 => ?_) (fun hc52 => ?_)
      · refine r_aload_n qX1_takeNewName_77 rfl ?_
        refine r_iconst (v := nI 3) qX1_takeNewName_78 (by decide) ?_
        refine r_cv1 (cu2 := 0) (su2 := 0) qX1_takeNewName_79 kX1_67 rfl (by decide +kernel) (c := 1) (by assumption) (by decide) rfl rfl rfl rfl rfl rfl ?_
        refine cE_fail r1 h0 ?_
        show zR E _ _ X 82 _ _ _ _ _ _ _
        refine r_aload_n qX1_takeNewName_82 rfl ?_
        refine r_cv0 (cu2 := 0) (su2 := 0) qX1_takeNewName_83 kX1_51 rfl (by decide +kernel) (c := 1) (by assumption) (by decide) rfl rfl rfl rfl rfl rfl ?_
        refine y_nextE hS e (fun i2 e2 => ?_)
        show zR E _ _ X 86 _ _ _ _ _ _ _
        refine r_iload_n qX1_takeNewName_86 rfl ?_
        refine r_iret qX1_takeNewName_87 rfl rfl rfl rfl ?_
        exact hK _ i2 e2
      · refine r_aload_n qX1_takeNewName_55 rfl ?_
        refine r_getr qX1_takeNewName_56 fX1_18 rfl (by assumption) (by first | assumption | rfl) ?_
        refine r_getr qX1_takeNewName_59 fX1_202 rfl (by assumption) (by first | assumption | rfl) ?_
        refine r_aload_n qX1_takeNewName_62 rfl ?_
        refine r_getr qX1_takeNewName_63 fX1_18 rfl (by assumption) (by first | assumption | rfl) ?_
        refine r_geti qX1_takeNewName_66 fX1_110 rfl (by assumption) ?_
        rw [c6']
        refine r_iload_n qX1_takeNewName_69 rfl ?_
        refine r_cs3 (cu2 := 0) (su2 := 0) qX1_takeNewName_70 kX1_255 rfl (by decide +kernel) rfl rfl rfl rfl rfl ?_
        refine c_X1_indexOfName a11 a12 hB4 (by decide) ?_
        show zR E _ _ X 73 _ _ _ _ _ _ _
        refine r_iconst (v := (-1)) qX1_takeNewName_73 (by decide) ?_
        refine r_icmp_eq (t := 82) qX1_takeNewName_74 (by decide) (fun hc74 => ?_) (fun hc74 => ?_)
        · refine r_aload_n qX1_takeNewName_82 rfl ?_
          refine r_cv0 (cu2 := 0) (su2 := 0) qX1_takeNewName_83 kX1_51 rfl (by decide +kernel) (c := 1) (by assumption) (by decide) rfl rfl rfl rfl rfl rfl ?_
          refine y_nextE hS e (fun i2 e2 => ?_)
          show zR E _ _ X 86 _ _ _ _ _ _ _
          refine r_iload_n qX1_takeNewName_86 rfl ?_
          refine r_iret qX1_takeNewName_87 rfl rfl rfl rfl ?_
          exact hK _ i2 e2
        · refine r_aload_n qX1_takeNewName_77 rfl ?_
          refine r_iconst (v := nI 3) qX1_takeNewName_78 (by decide) ?_
          refine r_cv1 (cu2 := 0) (su2 := 0) qX1_takeNewName_79 kX1_67 rfl (by decide +kernel) (c := 1) (by assumption) (by decide) rfl rfl rfl rfl rfl rfl ?_
          refine cE_fail r1 h0 ?_
          show zR E _ _ X 82 _ _ _ _ _ _ _
          refine r_aload_n qX1_takeNewName_82 rfl ?_
          refine r_cv0 (cu2 := 0) (su2 := 0) qX1_takeNewName_83 kX1_51 rfl (by decide +kernel) (c := 1) (by assumption) (by decide) rfl rfl rfl rfl rfl rfl ?_
          refine y_nextE hS e (fun i2 e2 => ?_)
          show zR E _ _ X 86 _ _ _ _ _ _ _
          refine r_iload_n qX1_takeNewName_86 rfl ?_
          refine r_iret qX1_takeNewName_87 rfl rfl rfl rfl ?_
          exact hK _ i2 e2
    · refine r_aload_n qX1_takeNewName_25 rfl ?_
      refine r_iconst (v := nI 2) qX1_takeNewName_26 (by decide) ?_
      refine r_cv1 (cu2 := 0) (su2 := 0) qX1_takeNewName_27 kX1_67 rfl (by decide +kernel) (c := 1) (by assumption) (by decide) rfl rfl rfl rfl rfl rfl ?_
      refine cE_fail r1 h0 ?_
      show zR E _ _ X 30 _ _ _ _ _ _ _
      refine r_goto (t := 82) qX1_takeNewName_30 (by decide) ?_
      refine r_aload_n qX1_takeNewName_82 rfl ?_
      refine r_cv0 (cu2 := 0) (su2 := 0) qX1_takeNewName_83 kX1_51 rfl (by decide +kernel) (c := 1) (by assumption) (by decide) rfl rfl rfl rfl rfl rfl ?_
      refine y_nextE hS e (fun i2 e2 => ?_)
      show zR E _ _ X 86 _ _ _ _ _ _ _
      refine r_iload_n qX1_takeNewName_86 rfl ?_
      refine r_iret qX1_takeNewName_87 rfl rfl rfl rfl ?_
      exact hK _ i2 e2
  · refine r_aload_n qX1_takeNewName_13 rfl ?_
    refine r_iconst (v := nI 1) qX1_takeNewName_14 (by decide) ?_
    refine r_cv1 (cu2 := 0) (su2 := 0) qX1_takeNewName_15 kX1_67 rfl (by decide +kernel) (c := 1) (by assumption) (by decide) rfl rfl rfl rfl rfl rfl ?_
    refine cE_fail r1 h0 ?_
    show zR E _ _ X 18 _ _ _ _ _ _ _
    refine r_goto (t := 82) qX1_takeNewName_18 (by decide) ?_
    refine r_aload_n qX1_takeNewName_82 rfl ?_
    refine r_cv0 (cu2 := 0) (su2 := 0) qX1_takeNewName_83 kX1_51 rfl (by decide +kernel) (c := 1) (by assumption) (by decide) rfl rfl rfl rfl rfl rfl ?_
    refine y_nextE hS e (fun i2 e2 => ?_)
    show zR E _ _ X 86 _ _ _ _ _ _ _
    refine r_iload_n qX1_takeNewName_86 rfl ?_
    refine r_iret qX1_takeNewName_87 rfl rfl rfl rfl ?_
    exact hK _ i2 e2
set_option maxHeartbeats 4000000 in
set_option maxRecDepth 20000 in
theorem yE_row {E : Ev} {g : Sh} {i : Ni} {j : Nj} {K : Kp} {rd tx L : Nat} {B : Nat → Int32} {a : Nat → Nat} {N : Nat → Int32} {i0 : Ni} {c x y : Int32} {w : Nat} (hS : yS g rd tx a) (e : yE rd tx L B a N i0 c w i) (hK : ∀ i', yE rd tx L B a N i0 c w i' → K (.inl none) g i' j) : zCon E mX1_takeRow [.ref rd, .int x, .int y] g i j K := by
  refine zcon_of (by decide +kernel) rfl rfl (lo := [.ref rd, .int x, .int y]) rfl (fun X => ?_)
  have r1 := hS.1.1
  obtain ⟨⟨t, hc⟩, e3, e0, e4, e5, e6⟩ := id e
  have h0 : ¬ i rd 3 = 0 := by rw [e3]; exact e0
  refine r_iload_n qX1_takeRow_0 rfl ?_
  refine r_iload_n qX1_takeRow_1 rfl ?_
  refine r_icmp_lt (t := 10) qX1_takeRow_2 (by decide) (fun hc2 => ?_) (fun hc2 => ?_)
  · refine r_aload_n qX1_takeRow_10 rfl ?_
    refine r_cv0 (cu2 := 0) (su2 := 0) qX1_takeRow_11 kX1_51 rfl (by decide +kernel) (c := 1) (by assumption) (by decide) rfl rfl rfl rfl rfl rfl ?_
    refine y_nextE hS e (fun i2 e2 => ?_)
    show zR E _ _ X 14 _ _ _ _ _ _ _
    refine r_vret qX1_takeRow_14 rfl rfl rfl ?_
    exact hK i2 e2
  · refine r_aload_n qX1_takeRow_5 rfl ?_
    refine r_iconst (v := nI 5) qX1_takeRow_6 (by decide) ?_
    refine r_cv1 (cu2 := 0) (su2 := 0) qX1_takeRow_7 kX1_67 rfl (by decide +kernel) (c := 1) (by assumption) (by decide) rfl rfl rfl rfl rfl rfl ?_
    refine cE_fail r1 h0 ?_
    show zR E _ _ X 10 _ _ _ _ _ _ _
    refine r_aload_n qX1_takeRow_10 rfl ?_
    refine r_cv0 (cu2 := 0) (su2 := 0) qX1_takeRow_11 kX1_51 rfl (by decide +kernel) (c := 1) (by assumption) (by decide) rfl rfl rfl rfl rfl rfl ?_
    refine y_nextE hS e (fun i2 e2 => ?_)
    show zR E _ _ X 14 _ _ _ _ _ _ _
    refine r_vret qX1_takeRow_14 rfl rfl rfl ?_
    exact hK i2 e2


