/-! ===== THE CLASS PRINTS A TUBE ===== -/
theorem zC.to {g g' : Sh} {a : Nat → Nat} (h : zC g a) (m : ∀ q, q < 30 → gT g' (a q) = gT g (a q) ∧ gL g' (a q) = gL g (a q) ∧ ∀ k, gR g' (a q) k = gR g (a q) k) : zC g' a := by
  obtain ⟨a1, a2, a3, a4, a5, a6, a7, a8, a9, a10, a11, a12, a13, a14, a15, a16, a17, a18⟩ := h
  refine ⟨by rw [(m 0 (by decide)).1]; exact a1, by rw [(m 0 (by decide)).2.2]; exact a2, by rw [(m 0 (by decide)).2.2]; exact a3, by rw [(m 0 (by decide)).2.2]; exact a4, by rw [(m 0 (by decide)).2.2]; exact a5, by rw [(m 0 (by decide)).2.2]; exact a6, by rw [(m 1 (by decide)).1]; exact a7, by rw [(m 1 (by decide)).2.1]; exact a8, by rw [(m 2 (by decide)).1]; exact a9, by rw [(m 2 (by decide)).2.1]; exact a10, by rw [(m 3 (by decide)).1]; exact a11, by rw [(m 3 (by decide)).2.1]; exact a12, by rw [(m 4 (by decide)).1]; exact a13, by rw [(m 4 (by decide)).2.1]; exact a14, by rw [(m 5 (by decide)).1]; exact a15, by rw [(m 5 (by decide)).2.1]; exact a16, fun k hk => ?_, a18⟩
  obtain ⟨b1, b2, b3, b4, b5, b6, b7, b8, b9⟩ := a17 k hk
  exact ⟨by rw [(m 5 (by decide)).2.2]; exact b1, by rw [(m _ (by omega)).1]; exact b2, by rw [(m _ (by omega)).2.2]; exact b3, by rw [(m _ (by omega)).2.2]; exact b4, by rw [(m _ (by omega)).1]; exact b5, by rw [(m _ (by omega)).2.1]; exact b6, by rw [(m _ (by omega)).1]; exact b7, by rw [(m _ (by omega)).2.1]; exact b8, b9⟩
theorem zC.bf {g g' : Sh} {i i' : Ni} {j j' : Nj} {a : Nat → Nat} {r : Nat} {L : List Int32} (h : zC g a) (hB : zBu g i r L) (hF : zBf r g i j g' i' j') : zC g' a ∧ ∀ q, q < 30 → i' (a q) = i (a q) := by
  have k : ∀ q, q < 30 → gT g (a q) ≠ 0 ∧ a q ≠ r ∧ a q ≠ gR g r 0 := fun q hq => by
    have h1 := hB.1
    have h4 := hB.2.2.2.1
    rcases h.kd hq with e | e | e | e <;> exact ⟨by rw [e]; decide, fun e2 => by rw [← e2, e] at h1; exact absurd h1 (by decide), fun e2 => by rw [← e2, e] at h4; exact absurd h4 (by decide)⟩
  exact ⟨h.to (fun q hq => ⟨(hF.2 _ (k q hq).1).1, (hF.2 _ (k q hq).1).2.1, ((hF.2 _ (k q hq).1).2.2.2 (k q hq).2.1).1⟩), fun q hq => ((hF.2 _ (k q hq).1).2.2.2 (k q hq).2.1).2 (k q hq).2.2⟩
theorem zPr.ex {g g1 : Sh} {i i1 : Ni} {j j1 : Nj} {c r : Nat} {a : Nat → Nat} {N : Nat → Int32} {L l : List Int32} (hX : zX3 g c a) (hO : gR g c 6 = r) (hH : zH i a N) (hB : zBu g i r L) (p : zBu g1 i1 r l) (q : zBf r g i j g1 i1 j1) : zX3 g1 c a ∧ gR g1 c 6 = r ∧ zH i1 a N ∧ gT g1 r = 6 ∧ gT g1 c = 4 := by
  obtain ⟨x1, x2, x3⟩ := hX
  have cr : c ≠ r := fun e => by
    have := hB.1
    rw [← e, x1] at this
    exact absurd this (by decide)
  obtain ⟨b1, b2⟩ := x3.bf hB q
  obtain ⟨e1, -, -, e4⟩ := q.2 c (by rw [x1]; decide)
  exact ⟨⟨e1.trans x1, ((e4 cr).1 1).trans x2, b1⟩, ((e4 cr).1 6).trans hO, hH.ou b2, p.1, e1.trans x1⟩
theorem zPr.tu {g1 : Sh} {i1 : Ni} {c k : Nat} {a : Nat → Nat} {N : Nat → Int32} (hX : zX3 g1 c a) (hH : zH i1 a N) (h8 : k < 8) (hk : k < zn (N 5)) : zT3 g1 (a (6 + 3 * k)) (a (7 + 3 * k)) (a (8 + 3 * k)) ∧ tH (i1 (a (6 + 3 * k))) (i1 (a (7 + 3 * k))) (i1 (a (8 + 3 * k))) N k := ⟨(hX.2.2.tb h8).2, hH.tu hk⟩
theorem pNum_e (N : Nat → Int32) (k : Nat) (h : 2 ≤ sMany N k) : pNum N k = [nI 32] ++ [nI 64] ++ sNum (sRead N k) := by
  rw [pNum, if_pos h, sNum]
  simp only [List.append_assoc]
theorem sNum_len (v : Int32) : (sNum v).length ≤ 11 := by
  have := dig_len v.toInt.natAbs
  rw [sNum, List.length_append]
  split
  · rw [List.length_singleton]; omega
  · rw [List.length_nil]; omega
theorem zb_z {p : Prop} [Decidable p] (h : zb p = 0) : ¬ p := zb_0.mp h
theorem zb_nz {p : Prop} [Decidable p] (h : ¬ zb p = 0) : p := zb_ne.mp h
set_option maxHeartbeats 4000000 in
set_option maxRecDepth 20000 in
theorem c_X3_printTube {E : Ev} {g : Sh} {i : Ni} {j : Nj} {K : Kp} {c r : Nat} {a : Nat → Nat} {N : Nat → Int32} {t : Int32} {L : List Int32} (hX : zX3 g c a) (hO : gR g c 6 = r) (hH : zH i a N) (hB : zBu g i r L) (hX0 : ¬ tv (N 5) t → K (.inr 2) g i j) (hK : tv (N 5) t → ∀ (g' : Sh) (i' : Ni) (j' : Nj), zBu g' i' r (pTx N (zn t)) → zBf r g i j g' i' j' → K (.inl (some (.int (nI (pTx N (zn t)).length)))) g' i' j') : zCon E mX3_printTube [.ref c, .int t] g i j K := by
  refine zcon_of (by decide +kernel) rfl rfl (lo := [.ref c, .int t, zJ]) rfl (fun X => ?_)
  obtain ⟨x1, x2, hC⟩ := id hX
  have a1 := hC.1
  have hO5 := hH.1
  have t0 := hB.1
  refine r_aload_n qX3_printTube_0 rfl ?_
  refine r_iload_n qX3_printTube_1 rfl ?_
  refine r_cv1 (cu2 := 1) (su2 := 6) qX3_printTube_2 kX3_141 rfl (by decide +kernel) (c := 3) (by assumption) (by decide) rfl rfl rfl rfl rfl rfl ?_
  refine c_X3_checkedTube hX hH (fun hv => t_out rfl rfl rfl (hX0 hv)) (fun k ek hk => ?_)
  subst ek
  have hv := tv_mk hk (by have := hO5.k8 hk; omega)
  have h8 := hO5.k8 hk
  have zk : zn (nI k) = k := zn_nI (by omega)
  replace hK := hK hv
  rw [zk] at hK
  clear hX0
  obtain ⟨s, hs, hs3, hs5⟩ := hO5.S hk
  obtain ⟨xs, n1, n4, nL, nw, nl, np⟩ := (hH.sp hs3).2
  obtain ⟨H, hHi, hH9⟩ := sHigh_in hO5 hk
  obtain ⟨-, -, -, b3, -⟩ := hO5.tu hk
  obtain ⟨Z, hZ, hZ9, -⟩ := b3.ex (by decide)
  have n27 : pk27 xs 0 < 2 ^ 31 := by
    have h1 := pk27_lt xs 0 nL
    have h2 : 27 ^ xs.length ≤ 27 ^ 4 := Nat.pow_le_pow_right (by decide) n4
    have h3 : (27 : Nat) ^ 4 = 531441 := by decide
    omega
  have hT' : pTx N k = sNam (pk27 xs 0) xs.length xs.length ++ [nI 32] ++ dig H ++ [nI 47] ++ dig Z ++ pNum N k ++ (if N 6 = nI k then [nI 42] else []) := by
    rw [pTx, hs, zn_nI (by omega), nl, zn_nI (by omega), nw, zn_nI n27, hHi, zn_nI (by omega), hZ, zn_nI (by omega)]
  have l1 : (sNam (pk27 xs 0) xs.length xs.length).length ≤ 4 := by rw [sNam_len]; exact n4
  have lH := dig_len H
  have lZ := dig_len Z
  have q0 : zBf r g i j g i j := zBf.refl
  show zR E _ _ X 5 _ _ _ _ _ _ _
  refine r_as_3_2 qX3_printTube_5 rfl rfl ?_
  refine r_aload_n qX3_printTube_6 rfl ?_
  refine r_getr qX3_printTube_7 fX3_64 rfl (by assumption) (by first | assumption | rfl) ?_
  refine r_iconst (v := nI 0) qX3_printTube_10 (by decide) ?_
  refine r_cv1 (cu2 := 2) (su2 := 86) qX3_printTube_11 kX3_277 rfl (by decide +kernel) (c := 5) (by assumption) (by decide) rfl rfl rfl rfl rfl rfl ?_
  refine c_J4_setLength_d00df hB (fun i1 p1 r1 => ?_)
  have q1 := q0.trans r1
  obtain ⟨x1, o1, H1, t1, c1⟩ := zPr.ex hX hO hH hB p1 q1
  obtain ⟨T1, U1⟩ := zPr.tu x1 H1 h8 hk
  have u1 := T1.1
  obtain ⟨-, y1, C1⟩ := id x1
  obtain ⟨cc1, -⟩ := id C1
  show zR E _ _ X 14 _ _ _ _ _ _ _
  refine r_aload_n qX3_printTube_14 rfl ?_
  refine r_aload_n qX3_printTube_15 rfl ?_
  refine r_geti qX3_printTube_16 fX3_280 rfl (by assumption) ?_
  refine r_cv1 (cu2 := 6) (su2 := 406) qX3_printTube_19 kX3_283 rfl (by decide +kernel) (c := 3) (by assumption) (by decide) rfl rfl rfl rfl rfl rfl ?_
  rw [H1.na hk, hs, zn_nI (by omega), (hC.bf hB q1).2 1 (by decide), np]
  refine c_X3_printName c1 o1 p1 (pk8_lt n4 nL) (fun z hz => pB_lt n4 nL hz) (by decide) (fun g2 i2 j2 p2 r2 => ?_)
  have q2 := q1.trans r2
  obtain ⟨x2, o2, H2, t2, c2⟩ := zPr.ex hX hO hH hB p2 q2
  obtain ⟨T2, U2⟩ := zPr.tu x2 H2 h8 hk
  have u2 := T2.1
  obtain ⟨-, y2, C2⟩ := id x2
  obtain ⟨cc2, -⟩ := id C2
  rw [List.nil_append, pP_nam n4 nL] at p2
  show zR E _ _ X 22 _ _ _ _ _ _ _
  refine r_aload_n qX3_printTube_22 rfl ?_
  refine r_getr qX3_printTube_23 fX3_64 rfl (by assumption) (by first | assumption | rfl) ?_
  refine r_bipush (v := nI 32) qX3_printTube_26 (by decide) ?_
  refine r_cv1 (cu2 := 7) (su2 := 486) qX3_printTube_28 kX3_286 rfl (by decide +kernel) (c := 5) (by assumption) (by decide) rfl rfl rfl rfl rfl rfl ?_
  refine c_J4_append_cf468 p2 (by decide) (by first | omega | (simp only [List.length_append, List.length_cons, List.length_nil]; omega)) (fun g3 i3 j3 p3 r3 => ?_)
  have q3 := q2.trans r3
  obtain ⟨x3, o3, H3, t3, c3⟩ := zPr.ex hX hO hH hB p3 q3
  obtain ⟨T3, U3⟩ := zPr.tu x3 H3 h8 hk
  have u3 := T3.1
  obtain ⟨-, y3, C3⟩ := id x3
  obtain ⟨cc3, -⟩ := id C3
  show zR E _ _ X 31 _ _ _ _ _ _ _
  refine r_pop qX3_printTube_31 rfl ?_
  refine r_aload_n qX3_printTube_32 rfl ?_
  refine r_getr qX3_printTube_33 fX3_64 rfl (by assumption) (by first | assumption | rfl) ?_
  refine r_aload_n qX3_printTube_36 rfl ?_
  refine r_cv0 (cu2 := 7) (su2 := 486) qX3_printTube_37 kX3_160 rfl (by decide +kernel) (c := 2) (by assumption) (by decide) rfl rfl rfl rfl rfl rfl ?_
  refine c_X2_level T3 U3 hO5 hk ?_
  show zR E _ _ X 40 _ _ _ _ _ _ _
  rw [hHi]
  refine r_cv1 (cu2 := 8) (su2 := 566) qX3_printTube_40 kX3_290 rfl (by decide +kernel) (c := 5) (by assumption) (by decide) rfl rfl rfl rfl rfl rfl ?_
  refine c_J4_append_bf812 p3 (zIn_nI (by omega) (by omega) (by omega)) (by first | omega | (simp only [List.length_append, List.length_cons, List.length_nil]; omega)) (fun g4 i4 j4 p4 r4 => ?_)
  have q4 := q3.trans r4
  obtain ⟨x4, o4, H4, t4, c4⟩ := zPr.ex hX hO hH hB p4 q4
  obtain ⟨T4, U4⟩ := zPr.tu x4 H4 h8 hk
  have u4 := T4.1
  obtain ⟨-, y4, C4⟩ := id x4
  obtain ⟨cc4, -⟩ := id C4
  rw [sNum_nn (by omega)] at p4
  show zR E _ _ X 43 _ _ _ _ _ _ _
  refine r_pop qX3_printTube_43 rfl ?_
  refine r_aload_n qX3_printTube_44 rfl ?_
  refine r_getr qX3_printTube_45 fX3_64 rfl (by assumption) (by first | assumption | rfl) ?_
  refine r_bipush (v := nI 47) qX3_printTube_48 (by decide) ?_
  refine r_cv1 (cu2 := 9) (su2 := 646) qX3_printTube_50 kX3_286 rfl (by decide +kernel) (c := 5) (by assumption) (by decide) rfl rfl rfl rfl rfl rfl ?_
  refine c_J4_append_cf468 p4 (by decide) (by first | omega | (simp only [List.length_append, List.length_cons, List.length_nil]; omega)) (fun g5 i5 j5 p5 r5 => ?_)
  have q5 := q4.trans r5
  obtain ⟨x5, o5, H5, t5, c5⟩ := zPr.ex hX hO hH hB p5 q5
  obtain ⟨T5, U5⟩ := zPr.tu x5 H5 h8 hk
  have u5 := T5.1
  obtain ⟨-, y5, C5⟩ := id x5
  obtain ⟨cc5, -⟩ := id C5
  show zR E _ _ X 53 _ _ _ _ _ _ _
  refine r_pop qX3_printTube_53 rfl ?_
  refine r_aload_n qX3_printTube_54 rfl ?_
  refine r_getr qX3_printTube_55 fX3_64 rfl (by assumption) (by first | assumption | rfl) ?_
  refine r_aload_n qX3_printTube_58 rfl ?_
  refine r_geti qX3_printTube_59 fX3_172 rfl (by assumption) ?_
  rw [show i5 (a (6 + 3 * k)) 9 = nI Z from (by obtain ⟨-, -, -, -, -, -, f9, -⟩ := U5; rw [f9, hZ])]
  refine r_cv1 (cu2 := 10) (su2 := 726) qX3_printTube_62 kX3_290 rfl (by decide +kernel) (c := 5) (by assumption) (by decide) rfl rfl rfl rfl rfl rfl ?_
  refine c_J4_append_bf812 p5 (zIn_nI (by omega) (by omega) (by omega)) (by first | omega | (simp only [List.length_append, List.length_cons, List.length_nil]; omega)) (fun g6 i6 j6 p6 r6 => ?_)
  have q6 := q5.trans r6
  obtain ⟨x6, o6, H6, t6, c6⟩ := zPr.ex hX hO hH hB p6 q6
  obtain ⟨T6, U6⟩ := zPr.tu x6 H6 h8 hk
  have u6 := T6.1
  obtain ⟨-, y6, C6⟩ := id x6
  obtain ⟨cc6, -⟩ := id C6
  rw [sNum_nn (by omega)] at p6
  show zR E _ _ X 65 _ _ _ _ _ _ _
  refine r_pop qX3_printTube_65 rfl ?_
  refine r_aload_n qX3_printTube_66 rfl ?_
  refine r_cv0 (cu2 := 10) (su2 := 726) qX3_printTube_67 kX3_192 rfl (by decide +kernel) (c := 2) (by assumption) (by decide) rfl rfl rfl rfl rfl rfl ?_
  refine c_X2_scaled T6 U6 hO5 hk ?_
  show zR E _ _ X 70 _ _ _ _ _ _ _
  refine r_if_eq (t := 105) qX3_printTube_70 (by decide) (fun hc70 => ?_) (fun hc70 => ?_)
  · rw [hT', show pNum N k = [] from if_neg (zb_z hc70), List.append_nil] at hK
    refine r_aload_n qX3_printTube_105 rfl ?_
    refine r_getr qX3_printTube_106 fX3_40 rfl (by assumption) (by first | assumption | rfl) ?_
    refine r_geti qX3_printTube_109 fX3_173 rfl (by assumption) ?_
    refine r_iload_n qX3_printTube_112 rfl ?_
    first | rw [H9.cnt.2.2.2.2.2.2.1] | rw [H6.cnt.2.2.2.2.2.2.1]
    refine r_icmp_ne (t := 126) qX3_printTube_113 (by decide) (fun hc113 => ?_) (fun hc113 => ?_)
    · rw [if_neg hc113, List.append_nil] at hK
      refine r_aload_n qX3_printTube_126 rfl ?_
      refine r_getr qX3_printTube_127 fX3_64 rfl (by assumption) (by first | assumption | rfl) ?_
      refine r_cv0 (cu2 := 10) (su2 := 726) qX3_printTube_130 kX3_293 rfl (by decide +kernel) (c := 5) (by assumption) (by decide) rfl rfl rfl rfl rfl rfl ?_
      first | refine c_J4_length_8abf5 p10 ?_ | refine c_J4_length_8abf5 p9 ?_ | refine c_J4_length_8abf5 p6 ?_
      show zR E _ _ X 133 _ _ _ _ _ _ _
      refine r_iret qX3_printTube_133 rfl rfl rfl rfl ?_
      first | exact hK _ _ _ p10 q10 | exact hK _ _ _ p9 q9 | exact hK _ _ _ p6 q6
    · rw [if_pos hc113] at hK
      refine r_aload_n qX3_printTube_116 rfl ?_
      refine r_getr qX3_printTube_117 fX3_64 rfl (by assumption) (by first | assumption | rfl) ?_
      refine r_bipush (v := nI 42) qX3_printTube_120 (by decide) ?_
      refine r_cv1 (cu2 := 11) (su2 := 806) qX3_printTube_122 kX3_286 rfl (by decide +kernel) (c := 5) (by assumption) (by decide) rfl rfl rfl rfl rfl rfl ?_
      first
      | refine c_J4_append_cf468 p9 (by decide) (by first | omega | (simp only [List.length_append, List.length_cons, List.length_nil]; omega)) (fun g10 i10 j10 p10 r10 => ?_)
      | refine c_J4_append_cf468 p6 (by decide) (by first | omega | (simp only [List.length_append, List.length_cons, List.length_nil]; omega)) (fun g10 i10 j10 p10 r10 => ?_)
      have q10 := by first | exact q9.trans r10 | exact q6.trans r10
      obtain ⟨x10, o10, H10, t10, c10⟩ := zPr.ex hX hO hH hB p10 q10
      obtain ⟨T10, U10⟩ := zPr.tu x10 H10 h8 hk
      have u10 := T10.1
      obtain ⟨-, y10, C10⟩ := id x10
      obtain ⟨cc10, -⟩ := id C10
      show zR E _ _ X 125 _ _ _ _ _ _ _
      refine r_pop qX3_printTube_125 rfl ?_
      refine r_aload_n qX3_printTube_126 rfl ?_
      refine r_getr qX3_printTube_127 fX3_64 rfl (by assumption) (by first | assumption | rfl) ?_
      refine r_cv0 (cu2 := 11) (su2 := 806) qX3_printTube_130 kX3_293 rfl (by decide +kernel) (c := 5) (by assumption) (by decide) rfl rfl rfl rfl rfl rfl ?_
      first | refine c_J4_length_8abf5 p10 ?_ | refine c_J4_length_8abf5 p9 ?_ | refine c_J4_length_8abf5 p6 ?_
      show zR E _ _ X 133 _ _ _ _ _ _ _
      refine r_iret qX3_printTube_133 rfl rfl rfl rfl ?_
      first | exact hK _ _ _ p10 q10 | exact hK _ _ _ p9 q9 | exact hK _ _ _ p6 q6
  · have h2m : 2 ≤ sMany N k := zb_nz hc70
    have hRd : zIn (sRead N k) (-2000000) 2000000 := sTells_in hO5 hk h2m (by rw [hHi]; exact zIn_nI (by omega) (by omega) (by omega))
    have lR := sNum_len (sRead N k)
    rw [hT', pNum_e N k h2m, ← List.append_assoc, ← List.append_assoc] at hK
    refine r_aload_n qX3_printTube_73 rfl ?_
    refine r_getr qX3_printTube_74 fX3_64 rfl (by assumption) (by first | assumption | rfl) ?_
    refine r_bipush (v := nI 32) qX3_printTube_77 (by decide) ?_
    refine r_cv1 (cu2 := 11) (su2 := 806) qX3_printTube_79 kX3_286 rfl (by decide +kernel) (c := 5) (by assumption) (by decide) rfl rfl rfl rfl rfl rfl ?_
    refine c_J4_append_cf468 p6 (by decide) (by first | omega | (simp only [List.length_append, List.length_cons, List.length_nil]; omega)) (fun g7 i7 j7 p7 r7 => ?_)
    have q7 := q6.trans r7
    obtain ⟨x7, o7, H7, t7, c7⟩ := zPr.ex hX hO hH hB p7 q7
    obtain ⟨T7, U7⟩ := zPr.tu x7 H7 h8 hk
    have u7 := T7.1
    obtain ⟨-, y7, C7⟩ := id x7
    obtain ⟨cc7, -⟩ := id C7
    show zR E _ _ X 82 _ _ _ _ _ _ _
    refine r_pop qX3_printTube_82 rfl ?_
    refine r_aload_n qX3_printTube_83 rfl ?_
    refine r_getr qX3_printTube_84 fX3_64 rfl (by assumption) (by first | assumption | rfl) ?_
    refine r_bipush (v := nI 64) qX3_printTube_87 (by decide) ?_
    refine r_cv1 (cu2 := 12) (su2 := 886) qX3_printTube_89 kX3_286 rfl (by decide +kernel) (c := 5) (by assumption) (by decide) rfl rfl rfl rfl rfl rfl ?_
    refine c_J4_append_cf468 p7 (by decide) (by first | omega | (simp only [List.length_append, List.length_cons, List.length_nil]; omega)) (fun g8 i8 j8 p8 r8 => ?_)
    have q8 := q7.trans r8
    obtain ⟨x8, o8, H8, t8, c8⟩ := zPr.ex hX hO hH hB p8 q8
    obtain ⟨T8, U8⟩ := zPr.tu x8 H8 h8 hk
    have u8 := T8.1
    obtain ⟨-, y8, C8⟩ := id x8
    obtain ⟨cc8, -⟩ := id C8
    show zR E _ _ X 92 _ _ _ _ _ _ _
    refine r_pop qX3_printTube_92 rfl ?_
    refine r_aload_n qX3_printTube_93 rfl ?_
    refine r_getr qX3_printTube_94 fX3_64 rfl (by assumption) (by first | assumption | rfl) ?_
    refine r_aload_n qX3_printTube_97 rfl ?_
    refine r_cv0 (cu2 := 12) (su2 := 886) qX3_printTube_98 kX3_200 rfl (by decide +kernel) (c := 2) (by assumption) (by decide) rfl rfl rfl rfl rfl rfl ?_
    refine c_X2_tenthsRead T8 U8 hO5 hk h2m ?_
    show zR E _ _ X 101 _ _ _ _ _ _ _
    refine r_cv1 (cu2 := 13) (su2 := 966) qX3_printTube_101 kX3_290 rfl (by decide +kernel) (c := 5) (by assumption) (by decide) rfl rfl rfl rfl rfl rfl ?_
    refine c_J4_append_bf812 p8 hRd (by first | omega | (simp only [List.length_append, List.length_cons, List.length_nil]; omega)) (fun g9 i9 j9 p9 r9 => ?_)
    have q9 := q8.trans r9
    obtain ⟨x9, o9, H9, t9, c9⟩ := zPr.ex hX hO hH hB p9 q9
    obtain ⟨T9, U9⟩ := zPr.tu x9 H9 h8 hk
    have u9 := T9.1
    obtain ⟨-, y9, C9⟩ := id x9
    obtain ⟨cc9, -⟩ := id C9
    show zR E _ _ X 104 _ _ _ _ _ _ _
    refine r_pop qX3_printTube_104 rfl ?_
    refine r_aload_n qX3_printTube_105 rfl ?_
    refine r_getr qX3_printTube_106 fX3_40 rfl (by assumption) (by first | assumption | rfl) ?_
    refine r_geti qX3_printTube_109 fX3_173 rfl (by assumption) ?_
    refine r_iload_n qX3_printTube_112 rfl ?_
    first | rw [H9.cnt.2.2.2.2.2.2.1] | rw [H6.cnt.2.2.2.2.2.2.1]
    refine r_icmp_ne (t := 126) qX3_printTube_113 (by decide) (fun hc113 => ?_) (fun hc113 => ?_)
    · rw [if_neg hc113, List.append_nil] at hK
      refine r_aload_n qX3_printTube_126 rfl ?_
      refine r_getr qX3_printTube_127 fX3_64 rfl (by assumption) (by first | assumption | rfl) ?_
      refine r_cv0 (cu2 := 13) (su2 := 966) qX3_printTube_130 kX3_293 rfl (by decide +kernel) (c := 5) (by assumption) (by decide) rfl rfl rfl rfl rfl rfl ?_
      first | refine c_J4_length_8abf5 p10 ?_ | refine c_J4_length_8abf5 p9 ?_ | refine c_J4_length_8abf5 p6 ?_
      show zR E _ _ X 133 _ _ _ _ _ _ _
      refine r_iret qX3_printTube_133 rfl rfl rfl rfl ?_
      first | exact hK _ _ _ p10 q10 | exact hK _ _ _ p9 q9 | exact hK _ _ _ p6 q6
    · rw [if_pos hc113] at hK
      refine r_aload_n qX3_printTube_116 rfl ?_
      refine r_getr qX3_printTube_117 fX3_64 rfl (by assumption) (by first | assumption | rfl) ?_
      refine r_bipush (v := nI 42) qX3_printTube_120 (by decide) ?_
      refine r_cv1 (cu2 := 14) (su2 := 1046) qX3_printTube_122 kX3_286 rfl (by decide +kernel) (c := 5) (by assumption) (by decide) rfl rfl rfl rfl rfl rfl ?_
      first
      | refine c_J4_append_cf468 p9 (by decide) (by first | omega | (simp only [List.length_append, List.length_cons, List.length_nil]; omega)) (fun g10 i10 j10 p10 r10 => ?_)
      | refine c_J4_append_cf468 p6 (by decide) (by first | omega | (simp only [List.length_append, List.length_cons, List.length_nil]; omega)) (fun g10 i10 j10 p10 r10 => ?_)
      have q10 := by first | exact q9.trans r10 | exact q6.trans r10
      obtain ⟨x10, o10, H10, t10, c10⟩ := zPr.ex hX hO hH hB p10 q10
      obtain ⟨T10, U10⟩ := zPr.tu x10 H10 h8 hk
      have u10 := T10.1
      obtain ⟨-, y10, C10⟩ := id x10
      obtain ⟨cc10, -⟩ := id C10
      show zR E _ _ X 125 _ _ _ _ _ _ _
      refine r_pop qX3_printTube_125 rfl ?_
      refine r_aload_n qX3_printTube_126 rfl ?_
      refine r_getr qX3_printTube_127 fX3_64 rfl (by assumption) (by first | assumption | rfl) ?_
      refine r_cv0 (cu2 := 14) (su2 := 1046) qX3_printTube_130 kX3_293 rfl (by decide +kernel) (c := 5) (by assumption) (by decide) rfl rfl rfl rfl rfl rfl ?_
      first | refine c_J4_length_8abf5 p10 ?_ | refine c_J4_length_8abf5 p9 ?_ | refine c_J4_length_8abf5 p6 ?_
      show zR E _ _ X 133 _ _ _ _ _ _ _
      refine r_iret qX3_printTube_133 rfl rfl rfl rfl ?_
      first | exact hK _ _ _ p10 q10 | exact hK _ _ _ p9 q9 | exact hK _ _ _ p6 q6

