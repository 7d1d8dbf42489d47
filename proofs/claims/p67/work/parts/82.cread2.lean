/-! ===== THE CLASS READS NEW SPIRITS, BATHS, TUBES ===== -/
set_option maxHeartbeats 4000000 in
set_option maxRecDepth 20000 in
theorem c_X0_addSpirit {E : Ev} {g : Sh} {i : Ni} {j : Nj} {K : Kp} {a : Nat → Nat} {S : Nat} {p e : Int32} (hC : zC g a) (h5 : i (a 0) 5 = nI S) (hS : S < 5) (hK : ∀ i' : Ni, i' (a 0) = upd (i (a 0)) 5 (nI (S + 1)) → i' (a 1) = upd (i (a 1)) S p → i' (a 2) = upd (i (a 2)) S e → (∀ r, r ≠ a 0 → r ≠ a 1 → r ≠ a 2 → i' r = i r) → K (.inl none) g i' j) : zCon E mX0_addSpirit [.ref (a 0), .int p, .int e] g i j K := by
  refine zcon_of (by decide +kernel) rfl rfl (lo := [.ref (a 0), .int p, .int e]) rfl (fun X => ?_)
  obtain ⟨a1, a2, a3, a4, a5, a6, a7, a8, a9, a10, a11, a12, a13, a14, a15, a16, -⟩ := id hC
  have n01 := hC.inj (p := 0) (q := 1) (by decide) (by decide) (by decide)
  have n02 := hC.inj (p := 0) (q := 2) (by decide) (by decide) (by decide)
  have n12 := hC.inj (p := 1) (q := 2) (by decide) (by decide) (by decide)
  refine r_aload_n qX0_addSpirit_0 rfl ?_
  refine r_geti qX0_addSpirit_1 fX0_46 rfl (by assumption) ?_
  rw [h5]
  refine r_iconst (v := nI 5) qX0_addSpirit_4 (by decide) ?_
  refine r_icmp_ge (t := 38) qX0_addSpirit_5 (by decide) (fun hc5 => absurd hc5 (nI_ge (by omega) (by decide))) (fun hc5 => ?_)
  refine r_aload_n qX0_addSpirit_8 rfl ?_
  refine r_getr qX0_addSpirit_9 fX0_11 rfl (by assumption) (by first | assumption | rfl) ?_
  refine r_aload_n qX0_addSpirit_12 rfl ?_
  refine r_geti qX0_addSpirit_13 fX0_46 rfl (by assumption) ?_
  rw [h5]
  refine r_iload_n qX0_addSpirit_16 rfl ?_
  refine r_iastN qX0_addSpirit_17 (by assumption) (by assumption) (by omega) rfl ?_
  refine r_aload_n qX0_addSpirit_18 rfl ?_
  refine r_getr qX0_addSpirit_19 fX0_15 rfl (by assumption) (by first | assumption | rfl) ?_
  refine r_aload_n qX0_addSpirit_22 rfl ?_
  refine r_geti qX0_addSpirit_23 fX0_46 rfl (by assumption) ?_
  rw [wA_n n01, h5]
  refine r_iload_n qX0_addSpirit_26 rfl ?_
  refine r_iastN qX0_addSpirit_27 (by assumption) (by assumption) (by omega) rfl ?_
  rw [wA_n (Ne.symm n12)]
  refine r_aload_n qX0_addSpirit_28 rfl ?_
  refine r_dup qX0_addSpirit_29 rfl ?_
  refine r_geti qX0_addSpirit_30 fX0_46 rfl (by assumption) ?_
  rw [wA_n n02, wA_n n01, h5]
  refine r_iconst (v := nI 1) qX0_addSpirit_33 (by decide) ?_
  first | with_reducible refine r_iaddN qX0_addSpirit_34 ?_ | refine r_iadd qX0_addSpirit_34 ?_
  refine r_puti qX0_addSpirit_35 fX0_46 (Or.inl rfl) rfl rfl rfl (by assumption) ?_
  rw [wA_n n02, wA_n n01]
  refine r_vret qX0_addSpirit_38 rfl rfl rfl ?_
  exact hK _ (by rw [wA_s]) (by rw [wA_n (Ne.symm n01), wA_n n12, wA_s]) (by rw [wA_n (Ne.symm n02), wA_s]) (fun r r0 r1 r2 => by rw [wA_n r0, wA_n r2, wA_n r1])
set_option maxHeartbeats 4000000 in
set_option maxRecDepth 20000 in
theorem c_X0_addBath {E : Ev} {g : Sh} {i : Ni} {j : Nj} {K : Kp} {a : Nat → Nat} {S : Nat} {p e : Int32} (hC : zC g a) (h5 : i (a 0) 6 = nI S) (hS : S < 4) (hK : ∀ i' : Ni, i' (a 0) = upd (i (a 0)) 6 (nI (S + 1)) → i' (a 3) = upd (i (a 3)) S p → i' (a 4) = upd (i (a 4)) S e → (∀ r, r ≠ a 0 → r ≠ a 3 → r ≠ a 4 → i' r = i r) → K (.inl none) g i' j) : zCon E mX0_addBath [.ref (a 0), .int p, .int e] g i j K := by
  refine zcon_of (by decide +kernel) rfl rfl (lo := [.ref (a 0), .int p, .int e]) rfl (fun X => ?_)
  obtain ⟨a1, a2, a3, a4, a5, a6, a7, a8, a9, a10, a11, a12, a13, a14, a15, a16, -⟩ := id hC
  have n01 := hC.inj (p := 0) (q := 3) (by decide) (by decide) (by decide)
  have n02 := hC.inj (p := 0) (q := 4) (by decide) (by decide) (by decide)
  have n12 := hC.inj (p := 3) (q := 4) (by decide) (by decide) (by decide)
  refine r_aload_n qX0_addBath_0 rfl ?_
  refine r_geti qX0_addBath_1 fX0_49 rfl (by assumption) ?_
  rw [h5]
  refine r_iconst (v := nI 4) qX0_addBath_4 (by decide) ?_
  refine r_icmp_ge (t := 38) qX0_addBath_5 (by decide) (fun hc5 => absurd hc5 (nI_ge (by omega) (by decide))) (fun hc5 => ?_)
  refine r_aload_n qX0_addBath_8 rfl ?_
  refine r_getr qX0_addBath_9 fX0_18 rfl (by assumption) (by first | assumption | rfl) ?_
  refine r_aload_n qX0_addBath_12 rfl ?_
  refine r_geti qX0_addBath_13 fX0_49 rfl (by assumption) ?_
  rw [h5]
  refine r_iload_n qX0_addBath_16 rfl ?_
  refine r_iastN qX0_addBath_17 (by assumption) (by assumption) (by omega) rfl ?_
  refine r_aload_n qX0_addBath_18 rfl ?_
  refine r_getr qX0_addBath_19 fX0_21 rfl (by assumption) (by first | assumption | rfl) ?_
  refine r_aload_n qX0_addBath_22 rfl ?_
  refine r_geti qX0_addBath_23 fX0_49 rfl (by assumption) ?_
  rw [wA_n n01, h5]
  refine r_iload_n qX0_addBath_26 rfl ?_
  refine r_iastN qX0_addBath_27 (by assumption) (by assumption) (by omega) rfl ?_
  rw [wA_n (Ne.symm n12)]
  refine r_aload_n qX0_addBath_28 rfl ?_
  refine r_dup qX0_addBath_29 rfl ?_
  refine r_geti qX0_addBath_30 fX0_49 rfl (by assumption) ?_
  rw [wA_n n02, wA_n n01, h5]
  refine r_iconst (v := nI 1) qX0_addBath_33 (by decide) ?_
  first | with_reducible refine r_iaddN qX0_addBath_34 ?_ | refine r_iadd qX0_addBath_34 ?_
  refine r_puti qX0_addBath_35 fX0_49 (Or.inl rfl) rfl rfl rfl (by assumption) ?_
  rw [wA_n n02, wA_n n01]
  refine r_vret qX0_addBath_38 rfl rfl rfl ?_
  exact hK _ (by rw [wA_s]) (by rw [wA_n (Ne.symm n01), wA_n n12, wA_s]) (by rw [wA_n (Ne.symm n02), wA_s]) (fun r r0 r1 r2 => by rw [wA_n r0, wA_n r2, wA_n r1])
set_option maxHeartbeats 4000000 in
set_option maxRecDepth 20000 in
theorem c_X0_addTube {E : Ev} {g : Sh} {i : Ni} {j : Nj} {K : Kp} {a : Nat → Nat} {T S q : Nat} {b o l f rm : Int32} (hC : zC g a) (h7 : i (a 0) 7 = nI T) (hT : T < 8) (h5 : i (a 0) 5 = nI S) (hS : S ≤ 5) (hq : q < S) (h9 : i (a 0) 9 = rm) (hK : ∀ i' : Ni, i' (a 0) = upd (i (a 0)) 7 (nI (T + 1)) → i' (a (6 + 3 * T)) = upd (upd (upd (upd (upd (upd (upd (upd (upd (upd (upd (upd (upd (upd (i (a (6 + 3 * T))) 7 b) 8 o) 9 l) 10 f) 14 f) 11 (nI 10 * rm)) 3 (nI 0)) 12 (-1)) 13 (nI 0)) 15 (nI 0)) 16 (nI 0)) 4 (nI q)) 5 (i (a 1) q)) 6 (i (a 2) q) → (∀ r, r ≠ a 0 → r ≠ a (6 + 3 * T) → i' r = i r) → K (.inl none) g i' j) : zCon E mX0_addTube [.ref (a 0), .int (nI q), .int b, .int o, .int l, .int f] g i j K := by
  refine zcon_of (by decide +kernel) rfl rfl (lo := [.ref (a 0), .int (nI q), .int b, .int o, .int l, .int f, zJ]) rfl (fun X => ?_)
  obtain ⟨a1, a2, a3, a4, a5, a6, a7, a8, a9, a10, a11, a12, a13, a14, a15, a16, -⟩ := id hC
  obtain ⟨tb1, hT3⟩ := hC.tb hT
  have u1 := hT3.1
  have n0u := hC.inj (p := 0) (q := 6 + 3 * T) (by omega) (by omega) (by omega)
  have n1u := hC.inj (p := 1) (q := 6 + 3 * T) (by omega) (by omega) (by omega)
  have n2u := hC.inj (p := 2) (q := 6 + 3 * T) (by omega) (by omega) (by omega)
  refine r_aload_n qX0_addTube_0 rfl ?_
  refine r_geti qX0_addTube_1 fX0_52 rfl (by assumption) ?_
  rw [h7]
  refine r_bipush (v := nI 8) qX0_addTube_4 (by decide) ?_
  refine r_icmp_ge (t := 78) qX0_addTube_6 (by decide) (fun hc6 => absurd hc6 (nI_ge (by omega) (by decide))) (fun hc6 => ?_)
  refine r_iload_n qX0_addTube_9 rfl ?_
  refine r_if_lt (t := 78) qX0_addTube_10 (by decide) (fun hc10 => absurd hc10 (not_neg (by omega))) (fun hc10 => ?_)
  refine r_iload_n qX0_addTube_13 rfl ?_
  refine r_aload_n qX0_addTube_14 rfl ?_
  refine r_geti qX0_addTube_15 fX0_46 rfl (by assumption) ?_
  rw [h5]
  refine r_icmp_ge (t := 78) qX0_addTube_18 (by decide) (fun hc18 => absurd hc18 (nI_ge (by omega) (by omega))) (fun hc18 => ?_)
  refine r_aload_n qX0_addTube_21 rfl ?_
  refine r_getr qX0_addTube_22 fX0_26 rfl (by assumption) (by first | assumption | rfl) ?_
  refine r_aload_n qX0_addTube_25 rfl ?_
  refine r_geti qX0_addTube_26 fX0_52 rfl (by assumption) ?_
  rw [h7]
  refine r_aaldN qX0_addTube_29 (by first | exact Or.inl (by assumption) | exact Or.inr (by assumption)) (by assumption) (by omega) rfl (by first | assumption | rfl) ?_
  refine r_as_7_6 qX0_addTube_30 rfl rfl ?_
  refine r_aload qX0_addTube_32 rfl ?_
  refine r_iload_n qX0_addTube_34 rfl ?_
  refine r_iload_n qX0_addTube_35 rfl ?_
  refine r_iload qX0_addTube_36 rfl ?_
  refine r_iload qX0_addTube_38 rfl ?_
  refine r_bipush (v := nI 10) qX0_addTube_40 (by decide) ?_
  refine r_aload_n qX0_addTube_42 rfl ?_
  refine r_geti qX0_addTube_43 fX0_58 rfl (by assumption) ?_
  rw [h9]
  first | with_reducible refine r_imulN qX0_addTube_46 ?_ | refine r_imul qX0_addTube_46 ?_
  refine r_cv5 (cu2 := 0) (su2 := 0) qX0_addTube_47 kX0_68 rfl (by decide +kernel) (c := 2) (by assumption) (by decide) rfl rfl rfl rfl rfl rfl ?_
  refine c_X2_describe u1 ?_
  show zR E _ _ X 50 _ _ _ _ _ _ _
  refine r_aload qX0_addTube_50 rfl ?_
  refine r_iload_n qX0_addTube_52 rfl ?_
  refine r_aload_n qX0_addTube_53 rfl ?_
  refine r_getr qX0_addTube_54 fX0_11 rfl (by assumption) (by first | assumption | rfl) ?_
  refine r_iload_n qX0_addTube_57 rfl ?_
  refine r_ialdN qX0_addTube_58 (by assumption) (by assumption) (by omega) rfl ?_
  rw [wA_n n1u]
  refine r_aload_n qX0_addTube_59 rfl ?_
  refine r_getr qX0_addTube_60 fX0_15 rfl (by assumption) (by first | assumption | rfl) ?_
  refine r_iload_n qX0_addTube_63 rfl ?_
  refine r_ialdN qX0_addTube_64 (by assumption) (by assumption) (by omega) rfl ?_
  rw [wA_n n2u]
  refine r_cv3 (cu2 := 0) (su2 := 0) qX0_addTube_65 kX0_72 rfl (by decide +kernel) (c := 2) (by assumption) (by decide) rfl rfl rfl rfl rfl rfl ?_
  refine c_X2_holdSpirit u1 ?_
  show zR E _ _ X 68 _ _ _ _ _ _ _
  refine r_aload_n qX0_addTube_68 rfl ?_
  refine r_dup qX0_addTube_69 rfl ?_
  refine r_geti qX0_addTube_70 fX0_52 rfl (by assumption) ?_
  rw [wA_n n0u, wA_n n0u, h7]
  refine r_iconst (v := nI 1) qX0_addTube_73 (by decide) ?_
  first | with_reducible refine r_iaddN qX0_addTube_74 ?_ | refine r_iadd qX0_addTube_74 ?_
  refine r_puti qX0_addTube_75 fX0_52 (Or.inl rfl) rfl rfl rfl (by assumption) ?_
  rw [wA_n n0u, wA_n n0u]
  refine r_vret qX0_addTube_78 rfl rfl rfl ?_
  exact hK _ (by rw [wA_s]) (by rw [wA_n (Ne.symm n0u), wA_s, wA_s]) (fun r r0 r1 => by rw [wA_n r0, wA_n r1, wA_n r1])
set_option maxHeartbeats 4000000 in
set_option maxRecDepth 20000 in
theorem c_X1_readSpirit {E : Ev} {g : Sh} {i : Ni} {j : Nj} {K : Kp} {rd tx L t : Nat} {B : Nat → Int32} {a : Nat → Nat} {N : Nat → Int32} {i0 : Ni} (hk0 : ¬ N 3 = nI 5) (hS : yS g rd tx a) (hZ : zZr N) (hG : yG rd tx L B a N i0 (sNext B L t) i) (hK : ∀ i', yRes rd tx L B a N i0 (mSpirit N B L t) i' → K (.inl none) g i' j) : zCon E mX1_readSpirit [.ref rd] g i j K := by
  refine zcon_of (by decide +kernel) rfl rfl (lo := [.ref rd, zJ, zJ]) rfl (fun X => ?_)
  obtain ⟨hR, r5, hC, g0⟩ := id hS
  have r1 := hR.1
  have hO := hG.2.2.1.1
  obtain ⟨a1, a2, a3, a4, a5, a6, a7, a8, a9, a10, a11, a12, a13, a14, a15, a16, -⟩ := id hC
  obtain ⟨hBt, hB4⟩ := hO.B4
  obtain ⟨hSt, hS5⟩ := hO.S5
  obtain ⟨hTt, hT8⟩ := hO.T8
  have hlt : zn (N 3) < 5 := by
    rcases Nat.lt_or_ge (zn (N 3)) 5 with z3 | z3
    · exact z3
    · exact absurd (hSt.trans (congrArg nI (show zn (N 3) = 5 by omega))) hk0
  have Kb2 : ∀ (y z : Int32) (i1 : Ni) (c : Int32) (w : Nat), mSpirit N B L t = .error (c, w) → yE rd tx L B a N i0 c w i1 → zR E mX1_readSpirit (zZ E mX1_readSpirit K) X 18 [.ref rd, .int y, .int z] [.int (nI 0)] g i1 j 0 0 := by
    intro y z i1 c w he e
    refine r_if_eq (t := 30) qX1_readSpirit_18 (by decide) (fun hc18 => ?_) (fun hc18 => absurd hc18 (by decide))
    refine r_vret qX1_readSpirit_30 rfl rfl rfl ?_
    refine hK _ ?_; rw [he]; exact e
  have Kb1 : ∀ (u y : Int32) (i1 : Ni) (c : Int32) (w : Nat), mSpirit N B L t = .error (c, w) → yE rd tx L B a N i0 c w i1 → zR E mX1_readSpirit (zZ E mX1_readSpirit K) X 12 [.ref rd, .int y, zJ] [.int u] g i1 j 0 0 := by
    intro u y i1 c w he e
    refine r_is_3_2 qX1_readSpirit_12 rfl rfl ?_
    refine r_aload_n qX1_readSpirit_13 rfl ?_
    refine r_iconst (v := nI 0) qX1_readSpirit_14 (by decide) ?_
    refine r_cv1 (cu2 := 0) (su2 := 0) qX1_readSpirit_15 kX1_83 rfl (by decide +kernel) (c := 1) (by assumption) (by decide) rfl rfl rfl rfl rfl rfl ?_
    refine yE_end hS e (fun i2 e2 => ?_)
    show zR E _ _ X 18 _ _ _ _ _ _ _
    exact Kb2 _ _ i2 c w he e2
  have Kb0 : ∀ (u : Int32) (i1 : Ni) (c : Int32) (w : Nat), mSpirit N B L t = .error (c, w) → yE rd tx L B a N i0 c w i1 → zR E mX1_readSpirit (zZ E mX1_readSpirit K) X 4 [.ref rd, zJ, zJ] [.int u] g i1 j 0 0 := by
    intro u i1 c w he e
    refine r_is_3_1 qX1_readSpirit_4 rfl rfl ?_
    refine r_aload_n qX1_readSpirit_5 rfl ?_
    refine r_iconst (v := nI 1) qX1_readSpirit_6 (by decide) ?_
    refine r_bipush (v := nI 40) qX1_readSpirit_7 (by decide) ?_
    refine r_cv2 (cu2 := 0) (su2 := 0) qX1_readSpirit_9 kX1_79 rfl (by decide +kernel) (c := 1) (by assumption) (by decide) rfl rfl rfl rfl rfl rfl ?_
    refine yE_num hS e (fun i2 e2 => ?_)
    show zR E _ _ X 12 _ _ _ _ _ _ _
    exact Kb1 _ _ i2 c w he e2
  refine r_aload_n qX1_readSpirit_0 rfl ?_
  refine r_cv0 (cu2 := 0) (su2 := 0) qX1_readSpirit_1 kX1_171 rfl (by decide +kernel) (c := 1) (by assumption) (by decide) rfl rfl rfl rfl rfl rfl ?_
  refine y_new hS hG (fun t0 v0 h0 ia0 G0 => ?_) (fun c w h u i2 e => Kb0 u i2 c w (by rw [mSpirit, if_neg hk0, h]; rfl) e)
  obtain ⟨-, hw1, hw2, -⟩ := tNew_in h0
  show zR E _ _ X 4 _ _ _ _ _ _ _
  refine r_is_3_1 qX1_readSpirit_4 rfl rfl ?_
  refine r_aload_n qX1_readSpirit_5 rfl ?_
  refine r_iconst (v := nI 1) qX1_readSpirit_6 (by decide) ?_
  refine r_bipush (v := nI 40) qX1_readSpirit_7 (by decide) ?_
  refine r_cv2 (cu2 := 0) (su2 := 0) qX1_readSpirit_9 kX1_79 rfl (by decide +kernel) (c := 1) (by assumption) (by decide) rfl rfl rfl rfl rfl rfl ?_
  refine y_num hS (by decide) G0 (fun t1 v1 h1 ia1 G1 => ?_) (fun c w h i2 e => Kb1 _ _ i2 c w (by rw [mSpirit, if_neg hk0, h0, tB_o, h]; rfl) e)
  show zR E _ _ X 12 _ _ _ _ _ _ _
  refine r_is_3_2 qX1_readSpirit_12 rfl rfl ?_
  refine r_aload_n qX1_readSpirit_13 rfl ?_
  refine r_iconst (v := nI 0) qX1_readSpirit_14 (by decide) ?_
  refine r_cv1 (cu2 := 0) (su2 := 0) qX1_readSpirit_15 kX1_83 rfl (by decide +kernel) (c := 1) (by assumption) (by decide) rfl rfl rfl rfl rfl rfl ?_
  refine y_end (P := False) (dP := instDecidableFalse) hS G1 (fun t2 v2 h2 hp ia2 G2 => ?_) (fun c w h i2 e => Kb2 _ _ i2 c w (by rw [mSpirit, if_neg hk0, h0, tB_o, h1, tB_o, h]; rfl) e)
  show zR E _ _ X 18 _ _ _ _ _ _ _
  refine r_if_eq (t := 30) qX1_readSpirit_18 (by decide) (fun hc18 => absurd hc18 (by decide)) (fun hc18 => ?_)
  refine r_aload_n qX1_readSpirit_21 rfl ?_
  refine r_getr qX1_readSpirit_22 fX1_18 rfl (by assumption) (by first | assumption | rfl) ?_
  refine r_iload_n qX1_readSpirit_25 rfl ?_
  refine r_iload_n qX1_readSpirit_26 rfl ?_
  refine r_cv2 (cu2 := 0) (su2 := 0) qX1_readSpirit_27 kX1_174 rfl (by decide +kernel) (c := 0) (by assumption) (by decide) rfl rfl rfl rfl rfl rfl ?_
  refine c_X0_addSpirit hC (G2.2.2.1.cnt.1.trans hSt) hlt (fun i3 m0 m1 m2 mo => ?_)
  show zR E _ _ X 30 _ _ _ _ _ _ _
  refine r_vret qX1_readSpirit_30 rfl rfl rfl ?_
  refine hK _ ?_
  rw [mSpirit, if_neg hk0, h0, tB_o, h1, tB_o, h2, tB_o]
  exact G2.to hS (G2.2.2.1.spirit hZ hlt (nm_new hw1 hw2) (tNum_zin h1 (by decide) (by decide)) m0 m1 m2 (fun q q1 q2 => mo _ (hC.inj q2 (by omega) (by omega)) (hC.inj q2 (by omega) (by omega)) (hC.inj q2 (by omega) (by omega)))) (fun r hr => mo r (hr _ (by omega)) (hr _ (by omega)) (hr _ (by omega)))
set_option maxHeartbeats 4000000 in
set_option maxRecDepth 20000 in
theorem yE_readSpirit {E : Ev} {g : Sh} {i : Ni} {j : Nj} {K : Kp} {rd tx L t : Nat} {B : Nat → Int32} {a : Nat → Nat} {N : Nat → Int32} {i0 : Ni} {c : Int32} {w : Nat} (hS : yS g rd tx a) (e : yE rd tx L B a N i0 c w i) (hK : ∀ i', yE rd tx L B a N i0 c w i' → K (.inl none) g i' j) : zCon E mX1_readSpirit [.ref rd] g i j K := by
  refine zcon_of (by decide +kernel) rfl rfl (lo := [.ref rd, zJ, zJ]) rfl (fun X => ?_)
  have r1 := hS.1.1
  refine r_aload_n qX1_readSpirit_0 rfl ?_
  refine r_cv0 (cu2 := 0) (su2 := 0) qX1_readSpirit_1 kX1_171 rfl (by decide +kernel) (c := 1) (by assumption) (by decide) rfl rfl rfl rfl rfl rfl ?_
  refine yE_new hS e (fun u1 i1 e => ?_)
  show zR E _ _ X 4 _ _ _ _ _ _ _
  refine r_is_3_1 qX1_readSpirit_4 rfl rfl ?_
  refine r_aload_n qX1_readSpirit_5 rfl ?_
  refine r_iconst (v := nI 1) qX1_readSpirit_6 (by decide) ?_
  refine r_bipush (v := nI 40) qX1_readSpirit_7 (by decide) ?_
  refine r_cv2 (cu2 := 0) (su2 := 0) qX1_readSpirit_9 kX1_79 rfl (by decide +kernel) (c := 1) (by assumption) (by decide) rfl rfl rfl rfl rfl rfl ?_
  refine yE_num hS e (fun i2 e2 => ?_)
  show zR E _ _ X 12 _ _ _ _ _ _ _
  refine r_is_3_2 qX1_readSpirit_12 rfl rfl ?_
  refine r_aload_n qX1_readSpirit_13 rfl ?_
  refine r_iconst (v := nI 0) qX1_readSpirit_14 (by decide) ?_
  refine r_cv1 (cu2 := 0) (su2 := 0) qX1_readSpirit_15 kX1_83 rfl (by decide +kernel) (c := 1) (by assumption) (by decide) rfl rfl rfl rfl rfl rfl ?_
  refine yE_end hS e2 (fun i3 e3 => ?_)
  show zR E _ _ X 18 _ _ _ _ _ _ _
  refine r_if_eq (t := 30) qX1_readSpirit_18 (by decide) (fun hc18 => ?_) (fun hc18 => absurd hc18 (by decide))
  refine r_vret qX1_readSpirit_30 rfl rfl rfl ?_
  exact hK i3 e3
set_option maxHeartbeats 4000000 in
set_option maxRecDepth 20000 in
theorem c_X1_readBath {E : Ev} {g : Sh} {i : Ni} {j : Nj} {K : Kp} {rd tx L t : Nat} {B : Nat → Int32} {a : Nat → Nat} {N : Nat → Int32} {i0 : Ni} (hk0 : ¬ N 4 = nI 4) (hS : yS g rd tx a) (hZ : zZr N) (hG : yG rd tx L B a N i0 (sNext B L t) i) (hK : ∀ i', yRes rd tx L B a N i0 (mBath N B L t) i' → K (.inl none) g i' j) : zCon E mX1_readBath [.ref rd] g i j K := by
  refine zcon_of (by decide +kernel) rfl rfl (lo := [.ref rd, zJ, zJ]) rfl (fun X => ?_)
  obtain ⟨hR, r5, hC, g0⟩ := id hS
  have r1 := hR.1
  have hO := hG.2.2.1.1
  obtain ⟨a1, a2, a3, a4, a5, a6, a7, a8, a9, a10, a11, a12, a13, a14, a15, a16, -⟩ := id hC
  obtain ⟨hBt, hB4⟩ := hO.B4
  obtain ⟨hSt, hS5⟩ := hO.S5
  obtain ⟨hTt, hT8⟩ := hO.T8
  have hlt : zn (N 4) < 4 := by
    rcases Nat.lt_or_ge (zn (N 4)) 4 with z3 | z3
    · exact z3
    · exact absurd (hBt.trans (congrArg nI (show zn (N 4) = 4 by omega))) hk0
  have Kb2 : ∀ (y z : Int32) (i1 : Ni) (c : Int32) (w : Nat), mBath N B L t = .error (c, w) → yE rd tx L B a N i0 c w i1 → zR E mX1_readBath (zZ E mX1_readBath K) X 15 [.ref rd, .int y, .int z] [.int (nI 0)] g i1 j 0 0 := by
    intro y z i1 c w he e
    refine r_if_eq (t := 27) qX1_readBath_15 (by decide) (fun hc15 => ?_) (fun hc15 => absurd hc15 (by decide))
    refine r_vret qX1_readBath_27 rfl rfl rfl ?_
    refine hK _ ?_; rw [he]; exact e
  have Kb1 : ∀ (u y : Int32) (i1 : Ni) (c : Int32) (w : Nat), mBath N B L t = .error (c, w) → yE rd tx L B a N i0 c w i1 → zR E mX1_readBath (zZ E mX1_readBath K) X 9 [.ref rd, .int y, zJ] [.int u] g i1 j 0 0 := by
    intro u y i1 c w he e
    refine r_is_3_2 qX1_readBath_9 rfl rfl ?_
    refine r_aload_n qX1_readBath_10 rfl ?_
    refine r_iconst (v := nI 0) qX1_readBath_11 (by decide) ?_
    refine r_cv1 (cu2 := 0) (su2 := 0) qX1_readBath_12 kX1_83 rfl (by decide +kernel) (c := 1) (by assumption) (by decide) rfl rfl rfl rfl rfl rfl ?_
    refine yE_end hS e (fun i2 e2 => ?_)
    show zR E _ _ X 15 _ _ _ _ _ _ _
    exact Kb2 _ _ i2 c w he e2
  have Kb0 : ∀ (u : Int32) (i1 : Ni) (c : Int32) (w : Nat), mBath N B L t = .error (c, w) → yE rd tx L B a N i0 c w i1 → zR E mX1_readBath (zZ E mX1_readBath K) X 4 [.ref rd, zJ, zJ] [.int u] g i1 j 0 0 := by
    intro u i1 c w he e
    refine r_is_3_1 qX1_readBath_4 rfl rfl ?_
    refine r_aload_n qX1_readBath_5 rfl ?_
    refine r_cv0 (cu2 := 0) (su2 := 0) qX1_readBath_6 kX1_76 rfl (by decide +kernel) (c := 1) (by assumption) (by decide) rfl rfl rfl rfl rfl rfl ?_
    refine yE_deg hS e (fun u2 i2 e2 => ?_)
    show zR E _ _ X 9 _ _ _ _ _ _ _
    exact Kb1 _ _ i2 c w he e2
  refine r_aload_n qX1_readBath_0 rfl ?_
  refine r_cv0 (cu2 := 0) (su2 := 0) qX1_readBath_1 kX1_171 rfl (by decide +kernel) (c := 1) (by assumption) (by decide) rfl rfl rfl rfl rfl rfl ?_
  refine y_new hS hG (fun t0 v0 h0 ia0 G0 => ?_) (fun c w h u i2 e => Kb0 u i2 c w (by rw [mBath, if_neg hk0, h]; rfl) e)
  obtain ⟨-, hw1, hw2, -⟩ := tNew_in h0
  show zR E _ _ X 4 _ _ _ _ _ _ _
  refine r_is_3_1 qX1_readBath_4 rfl rfl ?_
  refine r_aload_n qX1_readBath_5 rfl ?_
  refine r_cv0 (cu2 := 0) (su2 := 0) qX1_readBath_6 kX1_76 rfl (by decide +kernel) (c := 1) (by assumption) (by decide) rfl rfl rfl rfl rfl rfl ?_
  refine y_deg hS G0 (fun t1 v1 h1 ia1 G1 => ?_) (fun c w h u i2 e => Kb1 _ _ i2 c w (by rw [mBath, if_neg hk0, h0, tB_o, h]; rfl) e)
  show zR E _ _ X 9 _ _ _ _ _ _ _
  refine r_is_3_2 qX1_readBath_9 rfl rfl ?_
  refine r_aload_n qX1_readBath_10 rfl ?_
  refine r_iconst (v := nI 0) qX1_readBath_11 (by decide) ?_
  refine r_cv1 (cu2 := 0) (su2 := 0) qX1_readBath_12 kX1_83 rfl (by decide +kernel) (c := 1) (by assumption) (by decide) rfl rfl rfl rfl rfl rfl ?_
  refine y_end (P := False) (dP := instDecidableFalse) hS G1 (fun t2 v2 h2 hp ia2 G2 => ?_) (fun c w h i2 e => Kb2 _ _ i2 c w (by rw [mBath, if_neg hk0, h0, tB_o, h1, tB_o, h]; rfl) e)
  show zR E _ _ X 15 _ _ _ _ _ _ _
  refine r_if_eq (t := 27) qX1_readBath_15 (by decide) (fun hc15 => absurd hc15 (by decide)) (fun hc15 => ?_)
  refine r_aload_n qX1_readBath_18 rfl ?_
  refine r_getr qX1_readBath_19 fX1_18 rfl (by assumption) (by first | assumption | rfl) ?_
  refine r_iload_n qX1_readBath_22 rfl ?_
  refine r_iload_n qX1_readBath_23 rfl ?_
  refine r_cv2 (cu2 := 0) (su2 := 0) qX1_readBath_24 kX1_177 rfl (by decide +kernel) (c := 0) (by assumption) (by decide) rfl rfl rfl rfl rfl rfl ?_
  refine c_X0_addBath hC (G2.2.2.1.cnt.2.1.trans hBt) hlt (fun i3 m0 m1 m2 mo => ?_)
  show zR E _ _ X 27 _ _ _ _ _ _ _
  refine r_vret qX1_readBath_27 rfl rfl rfl ?_
  refine hK _ ?_
  rw [mBath, if_neg hk0, h0, tB_o, h1, tB_o, h2, tB_o]
  exact G2.to hS (G2.2.2.1.nbath hlt (nm_new hw1 hw2) (tDeg_in h1).1 m0 m1 m2 (fun q q0 q3 q4 q2 => mo _ (hC.inj q2 (by omega) q0) (hC.inj q2 (by omega) q3) (hC.inj q2 (by omega) q4))) (fun r hr => mo r (hr _ (by omega)) (hr _ (by omega)) (hr _ (by omega)))
set_option maxHeartbeats 4000000 in
set_option maxRecDepth 20000 in
theorem yE_readBath {E : Ev} {g : Sh} {i : Ni} {j : Nj} {K : Kp} {rd tx L t : Nat} {B : Nat → Int32} {a : Nat → Nat} {N : Nat → Int32} {i0 : Ni} {c : Int32} {w : Nat} (hS : yS g rd tx a) (e : yE rd tx L B a N i0 c w i) (hK : ∀ i', yE rd tx L B a N i0 c w i' → K (.inl none) g i' j) : zCon E mX1_readBath [.ref rd] g i j K := by
  refine zcon_of (by decide +kernel) rfl rfl (lo := [.ref rd, zJ, zJ]) rfl (fun X => ?_)
  have r1 := hS.1.1
  refine r_aload_n qX1_readBath_0 rfl ?_
  refine r_cv0 (cu2 := 0) (su2 := 0) qX1_readBath_1 kX1_171 rfl (by decide +kernel) (c := 1) (by assumption) (by decide) rfl rfl rfl rfl rfl rfl ?_
  refine yE_new hS e (fun u1 i1 e => ?_)
  show zR E _ _ X 4 _ _ _ _ _ _ _
  refine r_is_3_1 qX1_readBath_4 rfl rfl ?_
  refine r_aload_n qX1_readBath_5 rfl ?_
  refine r_cv0 (cu2 := 0) (su2 := 0) qX1_readBath_6 kX1_76 rfl (by decide +kernel) (c := 1) (by assumption) (by decide) rfl rfl rfl rfl rfl rfl ?_
  refine yE_deg hS e (fun u2 i2 e2 => ?_)
  show zR E _ _ X 9 _ _ _ _ _ _ _
  refine r_is_3_2 qX1_readBath_9 rfl rfl ?_
  refine r_aload_n qX1_readBath_10 rfl ?_
  refine r_iconst (v := nI 0) qX1_readBath_11 (by decide) ?_
  refine r_cv1 (cu2 := 0) (su2 := 0) qX1_readBath_12 kX1_83 rfl (by decide +kernel) (c := 1) (by assumption) (by decide) rfl rfl rfl rfl rfl rfl ?_
  refine yE_end hS e2 (fun i3 e3 => ?_)
  show zR E _ _ X 15 _ _ _ _ _ _ _
  refine r_if_eq (t := 27) qX1_readBath_15 (by decide) (fun hc15 => ?_) (fun hc15 => absurd hc15 (by decide))
  refine r_vret qX1_readBath_27 rfl rfl rfl ?_
  exact hK i3 e3
set_option maxHeartbeats 4000000 in
set_option maxRecDepth 20000 in
theorem c_X1_readTube {E : Ev} {g : Sh} {i : Ni} {j : Nj} {K : Kp} {rd tx L t : Nat} {B : Nat → Int32} {a : Nat → Nat} {N : Nat → Int32} {i0 : Ni} (hk0 : ¬ N 5 = nI 8) (hS : yS g rd tx a) (hZ : zZr N) (hG : yG rd tx L B a N i0 (sNext B L t) i) (hK : ∀ i', yRes rd tx L B a N i0 (mTube N B L t) i' → K (.inl none) g i' j) : zCon E mX1_readTube [.ref rd] g i j K := by
  refine zcon_of (by decide +kernel) rfl rfl (lo := [.ref rd, zJ, zJ, zJ, zJ, zJ]) rfl (fun X => ?_)
  obtain ⟨hR, r5, hC, g0⟩ := id hS
  have r1 := hR.1
  have hO := hG.2.2.1.1
  obtain ⟨a1, a2, a3, a4, a5, a6, a7, a8, a9, a10, a11, a12, a13, a14, a15, a16, -⟩ := id hC
  obtain ⟨hBt, hB4⟩ := hO.B4
  obtain ⟨hSt, hS5⟩ := hO.S5
  obtain ⟨hTt, hT8⟩ := hO.T8
  have hlt : zn (N 5) < 8 := by
    rcases Nat.lt_or_ge (zn (N 5)) 8 with z3 | z3
    · exact z3
    · exact absurd (hTt.trans (congrArg nI (show zn (N 5) = 8 by omega))) hk0
  have Kb5 : ∀ (y1 y2 y3 y4 y5 : Int32) (i1 : Ni) (c : Int32) (w : Nat), mTube N B L t = .error (c, w) → yE rd tx L B a N i0 c w i1 → zR E mX1_readTube (zZ E mX1_readTube K) X 61 [.ref rd, .int y1, .int y2, .int y3, .int y4, .int y5] [.int (nI 0)] g i1 j 0 0 := by
    intro y1 y2 y3 y4 y5 i1 c w he e
    refine r_if_eq (t := 78) qX1_readTube_61 (by decide) (fun hc61 => ?_) (fun hc61 => absurd hc61 (by decide))
    refine r_vret qX1_readTube_78 rfl rfl rfl ?_
    refine hK _ ?_; rw [he]; exact e
  have Kb4 : ∀ (u y1 y2 y3 y4 : Int32) (i1 : Ni) (c : Int32) (w : Nat), mTube N B L t = .error (c, w) → yE rd tx L B a N i0 c w i1 → zR E mX1_readTube (zZ E mX1_readTube K) X 54 [.ref rd, .int y1, .int y2, .int y3, .int y4, zJ] [.int u] g i1 j 0 0 := by
    intro u y1 y2 y3 y4 i1 c w he e
    refine r_is_6_5 qX1_readTube_54 rfl rfl ?_
    refine r_aload_n qX1_readTube_56 rfl ?_
    refine r_iconst (v := nI 0) qX1_readTube_57 (by decide) ?_
    refine r_cv1 (cu2 := 0) (su2 := 0) qX1_readTube_58 kX1_83 rfl (by decide +kernel) (c := 1) (by assumption) (by decide) rfl rfl rfl rfl rfl rfl ?_
    refine yE_end hS e (fun i2 e2 => ?_)
    show zR E _ _ X 61 _ _ _ _ _ _ _
    exact Kb5 _ _ _ _ _ i2 c w he e2
  have Kb3 : ∀ (u y1 y2 y3 : Int32) (i1 : Ni) (c : Int32) (w : Nat), mTube N B L t = .error (c, w) → yE rd tx L B a N i0 c w i1 → zR E mX1_readTube (zZ E mX1_readTube K) X 44 [.ref rd, .int y1, .int y2, .int y3, zJ, zJ] [.int u] g i1 j 0 0 := by
    intro u y1 y2 y3 i1 c w he e
    refine r_is_6_4 qX1_readTube_44 rfl rfl ?_
    refine r_aload_n qX1_readTube_46 rfl ?_
    refine r_iconst (v := nI 0) qX1_readTube_47 (by decide) ?_
    refine r_sipush (v := nI 999) qX1_readTube_48 (by decide) ?_
    refine r_cv2 (cu2 := 0) (su2 := 0) qX1_readTube_51 kX1_79 rfl (by decide +kernel) (c := 1) (by assumption) (by decide) rfl rfl rfl rfl rfl rfl ?_
    refine yE_num hS e (fun i2 e2 => ?_)
    show zR E _ _ X 54 _ _ _ _ _ _ _
    exact Kb4 _ _ _ _ _ i2 c w he e2
  have Kb2 : ∀ (u y1 y2 : Int32) (i1 : Ni) (c : Int32) (w : Nat), mTube N B L t = .error (c, w) → yE rd tx L B a N i0 c w i1 → zR E mX1_readTube (zZ E mX1_readTube K) X 34 [.ref rd, .int y1, .int y2, zJ, zJ, zJ] [.int u] g i1 j 0 0 := by
    intro u y1 y2 i1 c w he e
    refine r_is_6_3 qX1_readTube_34 rfl rfl ?_
    refine r_aload_n qX1_readTube_35 rfl ?_
    refine r_bipush (v := nI 10) qX1_readTube_36 (by decide) ?_
    refine r_sipush (v := nI 999) qX1_readTube_38 (by decide) ?_
    refine r_cv2 (cu2 := 0) (su2 := 0) qX1_readTube_41 kX1_79 rfl (by decide +kernel) (c := 1) (by assumption) (by decide) rfl rfl rfl rfl rfl rfl ?_
    refine yE_num hS e (fun i2 e2 => ?_)
    show zR E _ _ X 44 _ _ _ _ _ _ _
    exact Kb3 _ _ _ _ i2 c w he e2
  have Kb1 : ∀ (u y1 : Int32) (i1 : Ni) (c : Int32) (w : Nat), mTube N B L t = .error (c, w) → yE rd tx L B a N i0 c w i1 → zR E mX1_readTube (zZ E mX1_readTube K) X 26 [.ref rd, .int y1, zJ, zJ, zJ, zJ] [.int u] g i1 j 0 0 := by
    intro u y1 i1 c w he e
    refine r_is_6_2 qX1_readTube_26 rfl rfl ?_
    refine r_aload_n qX1_readTube_27 rfl ?_
    refine r_iconst (v := nI 1) qX1_readTube_28 (by decide) ?_
    refine r_bipush (v := nI 9) qX1_readTube_29 (by decide) ?_
    refine r_cv2 (cu2 := 0) (su2 := 0) qX1_readTube_31 kX1_79 rfl (by decide +kernel) (c := 1) (by assumption) (by decide) rfl rfl rfl rfl rfl rfl ?_
    refine yE_num hS e (fun i2 e2 => ?_)
    show zR E _ _ X 34 _ _ _ _ _ _ _
    exact Kb2 _ _ _ i2 c w he e2
  have Kb0 : ∀ (u : Int32) (i1 : Ni) (c : Int32) (w : Nat), mTube N B L t = .error (c, w) → yE rd tx L B a N i0 c w i1 → zR E mX1_readTube (zZ E mX1_readTube K) X 18 [.ref rd, zJ, zJ, zJ, zJ, zJ] [.int u] g i1 j 0 0 := by
    intro u  i1 c w he e
    refine r_is_6_1 qX1_readTube_18 rfl rfl ?_
    refine r_aload_n qX1_readTube_19 rfl ?_
    refine r_iconst (v := nI 1) qX1_readTube_20 (by decide) ?_
    refine r_bipush (v := nI 50) qX1_readTube_21 (by decide) ?_
    refine r_cv2 (cu2 := 0) (su2 := 0) qX1_readTube_23 kX1_79 rfl (by decide +kernel) (c := 1) (by assumption) (by decide) rfl rfl rfl rfl rfl rfl ?_
    refine yE_num hS e (fun i2 e2 => ?_)
    show zR E _ _ X 26 _ _ _ _ _ _ _
    exact Kb1 _ _ i2 c w he e2
  refine r_aload_n qX1_readTube_0 rfl ?_
  refine r_aload_n qX1_readTube_1 rfl ?_
  refine r_getr qX1_readTube_2 fX1_18 rfl (by assumption) (by first | assumption | rfl) ?_
  refine r_getr qX1_readTube_5 fX1_180 rfl (by assumption) (by first | assumption | rfl) ?_
  refine r_aload_n qX1_readTube_8 rfl ?_
  refine r_getr qX1_readTube_9 fX1_18 rfl (by assumption) (by first | assumption | rfl) ?_
  refine r_geti qX1_readTube_12 fX1_98 rfl (by assumption) ?_
  refine r_cv2 (cu2 := 0) (su2 := 0) qX1_readTube_15 kX1_184 rfl (by decide +kernel) (c := 1) (by assumption) (by decide) rfl rfl rfl rfl rfl rfl ?_
  rw [hG.2.2.1.cnt.1]
  refine y_spirit hS hG (fun t0 v0 h0 ia0 G0 => ?_) (fun c w h u i2 e => Kb0 u i2 c w (by rw [mTube, if_neg hk0, h]; rfl) e)
  obtain ⟨q, eq, hq, -⟩ := tSp_nat h0
  subst eq
  show zR E _ _ X 18 _ _ _ _ _ _ _
  refine r_is_6_1 qX1_readTube_18 rfl rfl ?_
  refine r_aload_n qX1_readTube_19 rfl ?_
  refine r_iconst (v := nI 1) qX1_readTube_20 (by decide) ?_
  refine r_bipush (v := nI 50) qX1_readTube_21 (by decide) ?_
  refine r_cv2 (cu2 := 0) (su2 := 0) qX1_readTube_23 kX1_79 rfl (by decide +kernel) (c := 1) (by assumption) (by decide) rfl rfl rfl rfl rfl rfl ?_
  refine y_num hS (by decide) G0 (fun t1 v1 h1 ia1 G1 => ?_) (fun c w h i2 e => Kb1 _ _ i2 c w (by rw [mTube, if_neg hk0, h0, tB_o, h]; rfl) e)
  show zR E _ _ X 26 _ _ _ _ _ _ _
  refine r_is_6_2 qX1_readTube_26 rfl rfl ?_
  refine r_aload_n qX1_readTube_27 rfl ?_
  refine r_iconst (v := nI 1) qX1_readTube_28 (by decide) ?_
  refine r_bipush (v := nI 9) qX1_readTube_29 (by decide) ?_
  refine r_cv2 (cu2 := 0) (su2 := 0) qX1_readTube_31 kX1_79 rfl (by decide +kernel) (c := 1) (by assumption) (by decide) rfl rfl rfl rfl rfl rfl ?_
  refine y_num hS (by decide) G1 (fun t2 v2 h2 ia2 G2 => ?_) (fun c w h i2 e => Kb2 _ _ _ i2 c w (by rw [mTube, if_neg hk0, h0, tB_o, h1, tB_o, h]; rfl) e)
  show zR E _ _ X 34 _ _ _ _ _ _ _
  refine r_is_6_3 qX1_readTube_34 rfl rfl ?_
  refine r_aload_n qX1_readTube_35 rfl ?_
  refine r_bipush (v := nI 10) qX1_readTube_36 (by decide) ?_
  refine r_sipush (v := nI 999) qX1_readTube_38 (by decide) ?_
  refine r_cv2 (cu2 := 0) (su2 := 0) qX1_readTube_41 kX1_79 rfl (by decide +kernel) (c := 1) (by assumption) (by decide) rfl rfl rfl rfl rfl rfl ?_
  refine y_num hS (by decide) G2 (fun t3 v3 h3 ia3 G3 => ?_) (fun c w h i2 e => Kb3 _ _ _ _ i2 c w (by rw [mTube, if_neg hk0, h0, tB_o, h1, tB_o, h2, tB_o, h]; rfl) e)
  show zR E _ _ X 44 _ _ _ _ _ _ _
  refine r_is_6_4 qX1_readTube_44 rfl rfl ?_
  refine r_aload_n qX1_readTube_46 rfl ?_
  refine r_iconst (v := nI 0) qX1_readTube_47 (by decide) ?_
  refine r_sipush (v := nI 999) qX1_readTube_48 (by decide) ?_
  refine r_cv2 (cu2 := 0) (su2 := 0) qX1_readTube_51 kX1_79 rfl (by decide +kernel) (c := 1) (by assumption) (by decide) rfl rfl rfl rfl rfl rfl ?_
  refine y_num hS (by decide) G3 (fun t4 v4 h4 ia4 G4 => ?_) (fun c w h i2 e => Kb4 _ _ _ _ _ i2 c w (by rw [mTube, if_neg hk0, h0, tB_o, h1, tB_o, h2, tB_o, h3, tB_o, h]; rfl) e)
  show zR E _ _ X 54 _ _ _ _ _ _ _
  refine r_is_6_5 qX1_readTube_54 rfl rfl ?_
  refine r_aload_n qX1_readTube_56 rfl ?_
  refine r_iconst (v := nI 0) qX1_readTube_57 (by decide) ?_
  refine r_cv1 (cu2 := 0) (su2 := 0) qX1_readTube_58 kX1_83 rfl (by decide +kernel) (c := 1) (by assumption) (by decide) rfl rfl rfl rfl rfl rfl ?_
  refine y_end (P := False) (dP := instDecidableFalse) hS G4 (fun t5 v5 h5 hp ia5 G5 => ?_) (fun c w h i2 e => Kb5 _ _ _ _ _ i2 c w (by rw [mTube, if_neg hk0, h0, tB_o, h1, tB_o, h2, tB_o, h3, tB_o, h4, tB_o, h]; rfl) e)
  show zR E _ _ X 61 _ _ _ _ _ _ _
  refine r_if_eq (t := 78) qX1_readTube_61 (by decide) (fun hc61 => absurd hc61 (by decide)) (fun hc61 => ?_)
  refine r_aload_n qX1_readTube_64 rfl ?_
  refine r_getr qX1_readTube_65 fX1_18 rfl (by assumption) (by first | assumption | rfl) ?_
  refine r_iload_n qX1_readTube_68 rfl ?_
  refine r_iload_n qX1_readTube_69 rfl ?_
  refine r_iload_n qX1_readTube_70 rfl ?_
  refine r_iload qX1_readTube_71 rfl ?_
  refine r_iload qX1_readTube_73 rfl ?_
  refine r_cv5 (cu2 := 0) (su2 := 0) qX1_readTube_75 kX1_188 rfl (by decide +kernel) (c := 0) (by assumption) (by decide) rfl rfl rfl rfl rfl rfl ?_
  refine c_X0_addTube hC (G5.2.2.1.cnt.2.2.1.trans hTt) hlt (G5.2.2.1.cnt.1.trans hSt) hS5 hq G5.2.2.1.cnt.2.2.2.2.1 (fun i3 m0 mu mo => ?_)
  show zR E _ _ X 78 _ _ _ _ _ _ _
  refine r_vret qX1_readTube_78 rfl rfl rfl ?_
  refine hK _ ?_
  rw [mTube, if_neg hk0, h0, tB_o, h1, tB_o, h2, tB_o, h3, tB_o, h4, tB_o, h5, tB_o]
  exact G5.to hS (G5.2.2.1.ntube hZ hlt hq (tNum_zin h1 (by decide) (by decide)) (tNum_zin h2 (by decide) (by decide)) (tNum_zin h3 (by decide) (by decide)) (tNum_zin h4 (by decide) (by decide)) m0 mu (fun z z0 zu z3 => mo _ (hC.inj z3 (by omega) z0) (hC.inj z3 (by omega) zu))) (fun r hr => mo r (hr _ (by omega)) (hr _ (by omega)))
set_option maxHeartbeats 4000000 in
set_option maxRecDepth 20000 in
theorem yE_readTube {E : Ev} {g : Sh} {i : Ni} {j : Nj} {K : Kp} {rd tx L t : Nat} {B : Nat → Int32} {a : Nat → Nat} {N : Nat → Int32} {i0 : Ni} {c : Int32} {w : Nat} (hS : yS g rd tx a) (e : yE rd tx L B a N i0 c w i) (hK : ∀ i', yE rd tx L B a N i0 c w i' → K (.inl none) g i' j) : zCon E mX1_readTube [.ref rd] g i j K := by
  refine zcon_of (by decide +kernel) rfl rfl (lo := [.ref rd, zJ, zJ, zJ, zJ, zJ]) rfl (fun X => ?_)
  obtain ⟨hR, r5, hC, g0⟩ := id hS
  have r1 := hR.1
  obtain ⟨a1, a2, a3, a4, a5, a6, a7, a8, a9, a10, a11, a12, a13, a14, a15, a16, -⟩ := id hC
  obtain ⟨hSt, hS5⟩ := e.2.2.2.2.1.1.S5
  have c5' := e.2.2.2.2.1.cnt.1.trans hSt
  refine r_aload_n qX1_readTube_0 rfl ?_
  refine r_aload_n qX1_readTube_1 rfl ?_
  refine r_getr qX1_readTube_2 fX1_18 rfl (by assumption) (by first | assumption | rfl) ?_
  refine r_getr qX1_readTube_5 fX1_180 rfl (by assumption) (by first | assumption | rfl) ?_
  refine r_aload_n qX1_readTube_8 rfl ?_
  refine r_getr qX1_readTube_9 fX1_18 rfl (by assumption) (by first | assumption | rfl) ?_
  refine r_geti qX1_readTube_12 fX1_98 rfl (by assumption) ?_
  rw [c5']
  refine r_cv2 (cu2 := 0) (su2 := 0) qX1_readTube_15 kX1_184 rfl (by decide +kernel) (c := 1) (by assumption) (by decide) rfl rfl rfl rfl rfl rfl ?_
  refine yE_known hS a7 a8 hS5 (by decide) e (fun u1 i1 e => ?_)
  show zR E _ _ X 18 _ _ _ _ _ _ _
  refine r_is_6_1 qX1_readTube_18 rfl rfl ?_
  refine r_aload_n qX1_readTube_19 rfl ?_
  refine r_iconst (v := nI 1) qX1_readTube_20 (by decide) ?_
  refine r_bipush (v := nI 50) qX1_readTube_21 (by decide) ?_
  refine r_cv2 (cu2 := 0) (su2 := 0) qX1_readTube_23 kX1_79 rfl (by decide +kernel) (c := 1) (by assumption) (by decide) rfl rfl rfl rfl rfl rfl ?_
  refine yE_num hS e (fun i2 e => ?_)
  show zR E _ _ X 26 _ _ _ _ _ _ _
  refine r_is_6_2 qX1_readTube_26 rfl rfl ?_
  refine r_aload_n qX1_readTube_27 rfl ?_
  refine r_iconst (v := nI 1) qX1_readTube_28 (by decide) ?_
  refine r_bipush (v := nI 9) qX1_readTube_29 (by decide) ?_
  refine r_cv2 (cu2 := 0) (su2 := 0) qX1_readTube_31 kX1_79 rfl (by decide +kernel) (c := 1) (by assumption) (by decide) rfl rfl rfl rfl rfl rfl ?_
  refine yE_num hS e (fun i3 e => ?_)
  show zR E _ _ X 34 _ _ _ _ _ _ _
  refine r_is_6_3 qX1_readTube_34 rfl rfl ?_
  refine r_aload_n qX1_readTube_35 rfl ?_
  refine r_bipush (v := nI 10) qX1_readTube_36 (by decide) ?_
  refine r_sipush (v := nI 999) qX1_readTube_38 (by decide) ?_
  refine r_cv2 (cu2 := 0) (su2 := 0) qX1_readTube_41 kX1_79 rfl (by decide +kernel) (c := 1) (by assumption) (by decide) rfl rfl rfl rfl rfl rfl ?_
  refine yE_num hS e (fun i4 e => ?_)
  show zR E _ _ X 44 _ _ _ _ _ _ _
  refine r_is_6_4 qX1_readTube_44 rfl rfl ?_
  refine r_aload_n qX1_readTube_46 rfl ?_
  refine r_iconst (v := nI 0) qX1_readTube_47 (by decide) ?_
  refine r_sipush (v := nI 999) qX1_readTube_48 (by decide) ?_
  refine r_cv2 (cu2 := 0) (su2 := 0) qX1_readTube_51 kX1_79 rfl (by decide +kernel) (c := 1) (by assumption) (by decide) rfl rfl rfl rfl rfl rfl ?_
  refine yE_num hS e (fun i5 e => ?_)
  show zR E _ _ X 54 _ _ _ _ _ _ _
  refine r_is_6_5 qX1_readTube_54 rfl rfl ?_
  refine r_aload_n qX1_readTube_56 rfl ?_
  refine r_iconst (v := nI 0) qX1_readTube_57 (by decide) ?_
  refine r_cv1 (cu2 := 0) (su2 := 0) qX1_readTube_58 kX1_83 rfl (by decide +kernel) (c := 1) (by assumption) (by decide) rfl rfl rfl rfl rfl rfl ?_
  refine yE_end hS e (fun i6 e => ?_)
  show zR E _ _ X 61 _ _ _ _ _ _ _
  refine r_if_eq (t := 78) qX1_readTube_61 (by decide) (fun hc61 => ?_) (fun hc61 => absurd hc61 (by decide))
  refine r_vret qX1_readTube_78 rfl rfl rfl ?_
  exact hK i6 e


