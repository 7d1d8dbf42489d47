abbrev t2 (N : Nat → Int32) (t v : Int32) : Prop := tv (N 5) t ∧ tv (N 5) v
set_option maxHeartbeats 4000000 in
set_option maxRecDepth 20000 in
theorem c_X4_isLeaky {E : Ev} {g : Sh} {i : Ni} {j : Nj} {K : Kp} {x n d b p s o : Nat} {t : Int32} (hB : zB g i x n d b p s o) (hK : K (.inl (some (.int (if tv (i n 5) t then zb (i n (42 + 21 * zn t + 6) = nI 1) else nI 0)))) g (wA i x (upd (i x) 0 (c3 (tv (i n 5) t) True True))) j) : zCon E mX4_isLeaky [.ref x, .int t] g i j K := by
  refine zcon_of (by decide +kernel) rfl rfl (lo := [.ref x, .int t]) rfl (fun X => ?_)
  have w1 := hB.1.1
  by_cases hv : tv (i n 5) t
  · rw [if_pos hv] at hK
    refine r_aload_n qX4_isLeaky_0 rfl ?_
    refine r_iload_n qX4_isLeaky_1 rfl ?_
    refine r_bipush (v := nI 6) qX4_isLeaky_2 (by decide) ?_
    refine r_cv2 (cu2 := 0) (su2 := 0) qX4_isLeaky_4 kX4_399 rfl (by decide +kernel) (c := 4) (by assumption) (by decide) rfl rfl rfl rfl rfl rfl ?_
    refine c_X4_tellTube (by first | assumption | omega | rfl | decide) (by first | assumption | omega | rfl | decide) ?_
    show zR E _ _ X 7 _ _ _ _ _ _ _
    rw [if_pos hv]
    refine r_iconst (v := nI 1) qX4_isLeaky_7 (by decide) ?_
    refine r_icmp_ne (t := 15) qX4_isLeaky_8 (by decide) (fun hc8 => ?_) (fun hc8 => ?_)
    · refine r_iconst (v := nI 0) qX4_isLeaky_15 (by decide) ?_
      refine r_iret qX4_isLeaky_16 rfl (by first | decide | exact zb_nar _ | assumption) rfl rfl ?_
      first | (rw [zb_f hc8] at hK; exact hK) | (rw [zb_t hc8] at hK; exact hK)
    · refine r_iconst (v := nI 1) qX4_isLeaky_11 (by decide) ?_
      refine r_goto (t := 16) qX4_isLeaky_12 (by decide) ?_
      refine r_iret qX4_isLeaky_16 rfl (by first | decide | exact zb_nar _ | assumption) rfl rfl ?_
      first | (rw [zb_f hc8] at hK; exact hK) | (rw [zb_t hc8] at hK; exact hK)
  · rw [if_neg hv] at hK
    refine r_aload_n qX4_isLeaky_0 rfl ?_
    refine r_iload_n qX4_isLeaky_1 rfl ?_
    refine r_bipush (v := nI 6) qX4_isLeaky_2 (by decide) ?_
    refine r_cv2 (cu2 := 0) (su2 := 0) qX4_isLeaky_4 kX4_399 rfl (by decide +kernel) (c := 4) (by assumption) (by decide) rfl rfl rfl rfl rfl rfl ?_
    refine c_X4_tellTube (by first | assumption | omega | rfl | decide) (by first | assumption | omega | rfl | decide) ?_
    show zR E _ _ X 7 _ _ _ _ _ _ _
    rw [if_neg hv]
    refine r_iconst (v := nI 1) qX4_isLeaky_7 (by decide) ?_
    refine r_icmp_ne (t := 15) qX4_isLeaky_8 (by decide) (fun hc8 => ?_) (fun hc8 => absurd hc8 (by decide))
    refine r_iconst (v := nI 0) qX4_isLeaky_15 (by decide) ?_
    refine r_iret qX4_isLeaky_16 rfl (by first | decide | exact zb_nar _ | assumption) rfl rfl ?_
    exact hK
set_option maxHeartbeats 4000000 in
set_option maxRecDepth 20000 in
theorem c_X4_dipRefusal {E : Ev} {g : Sh} {i : Ni} {j : Nj} {K : Kp} {x n d b p s o : Nat} {t v : Int32} (hB : zB g i x n d b p s o) (hK : K (.inl (some (.int (if tv (i n 5) t ∧ tv (i n 4) v then sDip (i n) (zn t) v else nI 0)))) g (wA i x (upd (i x) 0 (c3 (tv (i n 5) t ∧ tv (i n 4) v) True True))) j) : zCon E mX4_dipRefusal [.ref x, .int t, .int v] g i j K := by
  refine zcon_of (by decide +kernel) rfl rfl (lo := [.ref x, .int t, .int v]) rfl (fun X => ?_)
  have hB' := hB
  obtain ⟨hW, hR3, hO⟩ := hB
  have w1 := hW.1
  have nx := hW.nx
  have hM' := hW.m hR3
  obtain ⟨hT, hT8⟩ := hO.T8
  obtain ⟨hBt, hB4⟩ := hO.B4
  have K22 : zR E mX4_dipRefusal (zZ E mX4_dipRefusal K) X 22 [.ref x, .int t, .int v] [.int (zb (tv (i n 5) t ∧ tv (i n 4) v)), .ref x] g i j 0 0 := by
    refine r_cv1 (cu2 := 0) (su2 := 0) qX4_dipRefusal_22 kX4_371 rfl (by decide +kernel) (c := 4) (by assumption) (by decide) rfl rfl rfl rfl rfl rfl ?_
    refine c_X4_passes1 (by first | assumption | omega | rfl | decide) ?_
    show zR E _ _ X 25 _ _ _ _ _ _ _
    generalize hi : wA i x (upd (i x) 0 (c3 (tv (i n 5) t ∧ tv (i n 4) v) True True)) = i' at hK ⊢
    have hn : i' n = i n := by rw [← hi]; exact wA_n nx
    clear hi
    refine r_if_eq (t := 37) qX4_dipRefusal_25 (by decide) (fun hc25 => ?_) (fun hc25 => ?_)
    · rw [if_neg (zb_0.mp hc25)] at hK
      refine r_iconst (v := nI 0) qX4_dipRefusal_37 (by decide) ?_
      refine r_iret qX4_dipRefusal_38 rfl rfl rfl rfl ?_
      first | exact hK | (rw [hn]; exact hK)
    · have hv := zb_ne.mp hc25; clear hc25; rw [if_pos hv] at hK; obtain ⟨et, hk⟩ := tv_nat hv.1; generalize zn t = k at *; subst et; have h8 := hO.k8 hk
      refine r_aload_n qX4_dipRefusal_28 rfl ?_
      refine r_iload_n qX4_dipRefusal_29 rfl ?_
      refine r_iload_n qX4_dipRefusal_30 rfl ?_
      refine r_cv2 (cu2 := 0) (su2 := 0) qX4_dipRefusal_31 kX4_314 rfl (by decide +kernel) (c := 4) (by assumption) (by decide) rfl rfl rfl rfl rfl rfl ?_
      refine c_X4_reasonToDip (by first | assumption | omega | rfl | decide) (by first | assumption | omega | rfl | decide) ?_
      show zR E _ _ X 34 _ _ _ _ _ _ _
      refine r_goto (t := 38) qX4_dipRefusal_34 (by decide) ?_
      refine r_iret qX4_dipRefusal_38 rfl rfl rfl rfl ?_
      first | exact hK | (rw [hn]; exact hK)
  refine r_aload_n qX4_dipRefusal_0 rfl ?_
  refine r_aload_n qX4_dipRefusal_1 rfl ?_
  refine r_iload_n qX4_dipRefusal_2 rfl ?_
  refine r_cv1 (cu2 := 0) (su2 := 0) qX4_dipRefusal_3 kX4_396 rfl (by decide +kernel) (c := 4) (by assumption) (by decide) rfl rfl rfl rfl rfl rfl ?_
  refine c_X4_hasTube (by first | assumption | omega | rfl | decide) (by first | assumption | omega | rfl | decide) (by first | assumption | omega | rfl | decide) ?_
  show zR E _ _ X 6 _ _ _ _ _ _ _
  refine r_if_eq (t := 21) qX4_dipRefusal_6 (by decide) (fun hc6 => ?_) (fun hc6 => ?_)
  · refine r_iconst (v := nI 0) qX4_dipRefusal_21 (by decide) ?_
    first | (rw [zb_f (fun h => zb_0.mp hc6 h.1)] at K22; exact K22) | (rw [zb_f (fun h => zb_0.mp hc14 h.2)] at K22; exact K22) | (rw [zb_t ⟨zb_ne.mp hc6, zb_ne.mp hc14⟩] at K22; exact K22)
  · refine r_aload_n qX4_dipRefusal_9 rfl ?_
    refine r_iload_n qX4_dipRefusal_10 rfl ?_
    refine r_cv1 (cu2 := 0) (su2 := 0) qX4_dipRefusal_11 kX4_390 rfl (by decide +kernel) (c := 4) (by assumption) (by decide) rfl rfl rfl rfl rfl rfl ?_
    refine c_X4_hasBath (by first | assumption | omega | rfl | decide) (by first | assumption | omega | rfl | decide) (by first | assumption | omega | rfl | decide) ?_
    show zR E _ _ X 14 _ _ _ _ _ _ _
    refine r_if_eq (t := 21) qX4_dipRefusal_14 (by decide) (fun hc14 => ?_) (fun hc14 => ?_)
    · refine r_iconst (v := nI 0) qX4_dipRefusal_21 (by decide) ?_
      first | (rw [zb_f (fun h => zb_0.mp hc6 h.1)] at K22; exact K22) | (rw [zb_f (fun h => zb_0.mp hc14 h.2)] at K22; exact K22) | (rw [zb_t ⟨zb_ne.mp hc6, zb_ne.mp hc14⟩] at K22; exact K22)
    · refine r_iconst (v := nI 1) qX4_dipRefusal_17 (by decide) ?_
      refine r_goto (t := 22) qX4_dipRefusal_18 (by decide) ?_
      first | (rw [zb_f (fun h => zb_0.mp hc6 h.1)] at K22; exact K22) | (rw [zb_f (fun h => zb_0.mp hc14 h.2)] at K22; exact K22) | (rw [zb_t ⟨zb_ne.mp hc6, zb_ne.mp hc14⟩] at K22; exact K22)
set_option maxHeartbeats 4000000 in
set_option maxRecDepth 20000 in
theorem c_X4_disagreement {E : Ev} {g : Sh} {i : Ni} {j : Nj} {K : Kp} {x n d b p s o : Nat} {t v : Int32} (hB : zB g i x n d b p s o) (hK : K (.inl (some (.int (if t2 (i n) t v ∧ (rd (i n) t ∧ rd (i n) v) then jabs (sRead (i n) (zn t) - sRead (i n) (zn v)) else nI 0)))) g (wA i x (upd (i x) 0 (c3 (t2 (i n) t v) (rd (i n) t ∧ rd (i n) v) True))) j) : zCon E mX4_disagreement [.ref x, .int t, .int v] g i j K := by
  refine zcon_of (by decide +kernel) rfl rfl (lo := [.ref x, .int t, .int v, zJ]) rfl (fun X => ?_)
  have hB' := hB
  obtain ⟨hW, hR3, hO⟩ := hB
  have w1 := hW.1
  have nx := hW.nx
  have hM' := hW.m hR3
  obtain ⟨hT, hT8⟩ := hO.T8
  have K48 : ∀ i' : Ni, i' n = i n → K (.inl (some (.int (if t2 (i n) t v ∧ (rd (i n) t ∧ rd (i n) v) then jabs (sRead (i n) (zn t) - sRead (i n) (zn v)) else nI 0)))) g i' j → zR E mX4_disagreement (zZ E mX4_disagreement K) X 48 [.ref x, .int t, .int v, .int (zb (t2 (i n) t v))] [.int (zb (t2 (i n) t v ∧ (rd (i n) t ∧ rd (i n) v)))] g i' j 0 0 := by
    clear hK
    intro i' hn hK
    by_cases hv : t2 (i n) t v ∧ (rd (i n) t ∧ rd (i n) v)
    · rw [if_pos hv] at hK
      obtain ⟨et, hk⟩ := tv_nat hv.1.1
      obtain ⟨ev, hl⟩ := tv_nat hv.1.2
      have a1 := hv.2.1.2
      have a2 := hv.2.2.2
      rw [zb_t hv]
      generalize zb (t2 (i n) t v) = c
      clear hv
      generalize zn t = k at *
      generalize zn v = l at *
      subst et
      subst ev
      rw [← hn] at hO hk hl a1 a2 hK
      refine r_if_eq (t := 68) qX4_disagreement_48 (by decide) (fun hc48 => absurd hc48 (by decide)) (fun hc48 => ?_)
      refine r_aload_n qX4_disagreement_51 rfl ?_
      refine r_iload_n qX4_disagreement_52 rfl ?_
      refine r_cv1 (cu2 := 0) (su2 := 0) qX4_disagreement_53 kX4_422 rfl (by decide +kernel) (c := 4) (by assumption) (by decide) rfl rfl rfl rfl rfl rfl ?_
      refine c_X4_readNow hM' hO hk a1 ?_
      show zR E _ _ X 56 _ _ _ _ _ _ _
      refine r_aload_n qX4_disagreement_56 rfl ?_
      refine r_iload_n qX4_disagreement_57 rfl ?_
      refine r_cv1 (cu2 := 0) (su2 := 0) qX4_disagreement_58 kX4_422 rfl (by decide +kernel) (c := 4) (by assumption) (by decide) rfl rfl rfl rfl rfl rfl ?_
      refine c_X4_readNow hM' hO hl a2 ?_
      show zR E _ _ X 61 _ _ _ _ _ _ _
      refine r_isub qX4_disagreement_61 ?_
      refine r_mabs qX4_disagreement_62 kX4_198 rfl rfl rfl rfl ?_
      refine r_goto (t := 69) qX4_disagreement_65 (by decide) ?_
      refine r_iret qX4_disagreement_69 rfl rfl rfl rfl ?_
      exact hK
    · rw [if_neg hv] at hK
      rw [zb_f hv]
      refine r_if_eq (t := 68) qX4_disagreement_48 (by decide) (fun hc48 => ?_) (fun hc48 => absurd hc48 (by decide))
      refine r_iconst (v := nI 0) qX4_disagreement_68 (by decide) ?_
      refine r_iret qX4_disagreement_69 rfl rfl rfl rfl ?_
      exact hK
  have K45 : zR E mX4_disagreement (zZ E mX4_disagreement K) X 45 [.ref x, .int t, .int v, .int (zb (t2 (i n) t v))] [.int (zb (rd (i n) t ∧ rd (i n) v)), .int (zb (t2 (i n) t v)), .ref x] g i j 0 0 := by
    refine r_cv2 (cu2 := 0) (su2 := 0) qX4_disagreement_45 kX4_409 rfl (by decide +kernel) (c := 4) (by assumption) (by decide) rfl rfl rfl rfl rfl rfl ?_
    refine c_X4_passes2 (by first | assumption | omega | rfl | decide) ?_
    show zR E _ _ X 48 _ _ _ _ _ _ _
    exact K48 _ (wA_n nx) hK
  have K22 : zR E mX4_disagreement (zZ E mX4_disagreement K) X 22 [.ref x, .int t, .int v, .int (zb (t2 (i n) t v))] [] g i j 0 0 := by
    refine r_aload_n qX4_disagreement_22 rfl ?_
    refine r_iload_n qX4_disagreement_23 rfl ?_
    refine r_aload_n qX4_disagreement_24 rfl ?_
    refine r_iload_n qX4_disagreement_25 rfl ?_
    refine r_cv1 (cu2 := 0) (su2 := 0) qX4_disagreement_26 kX4_419 rfl (by decide +kernel) (c := 4) (by assumption) (by decide) rfl rfl rfl rfl rfl rfl ?_
    refine c_X4_isRead (by first | assumption | omega | rfl | decide) ?_
    show zR E _ _ X 29 _ _ _ _ _ _ _
    refine r_if_eq (t := 44) qX4_disagreement_29 (by decide) (fun hc29 => ?_) (fun hc29 => ?_)
    · refine r_iconst (v := nI 0) qX4_disagreement_44 (by decide) ?_
      first | (rw [zb_f (p := rd (i n) t ∧ rd (i n) v) (fun h => zb_0.mp hc29 h.1)] at K45; exact K45) | (rw [zb_f (p := rd (i n) t ∧ rd (i n) v) (fun h => zb_0.mp hc37 h.2)] at K45; exact K45) | (rw [zb_t (p := rd (i n) t ∧ rd (i n) v) ⟨zb_ne.mp hc29, zb_ne.mp hc37⟩] at K45; exact K45)
    · refine r_aload_n qX4_disagreement_32 rfl ?_
      refine r_iload_n qX4_disagreement_33 rfl ?_
      refine r_cv1 (cu2 := 0) (su2 := 0) qX4_disagreement_34 kX4_419 rfl (by decide +kernel) (c := 4) (by assumption) (by decide) rfl rfl rfl rfl rfl rfl ?_
      refine c_X4_isRead (by first | assumption | omega | rfl | decide) ?_
      show zR E _ _ X 37 _ _ _ _ _ _ _
      refine r_if_eq (t := 44) qX4_disagreement_37 (by decide) (fun hc37 => ?_) (fun hc37 => ?_)
      · refine r_iconst (v := nI 0) qX4_disagreement_44 (by decide) ?_
        first | (rw [zb_f (p := rd (i n) t ∧ rd (i n) v) (fun h => zb_0.mp hc29 h.1)] at K45; exact K45) | (rw [zb_f (p := rd (i n) t ∧ rd (i n) v) (fun h => zb_0.mp hc37 h.2)] at K45; exact K45) | (rw [zb_t (p := rd (i n) t ∧ rd (i n) v) ⟨zb_ne.mp hc29, zb_ne.mp hc37⟩] at K45; exact K45)
      · refine r_iconst (v := nI 1) qX4_disagreement_40 (by decide) ?_
        refine r_goto (t := 45) qX4_disagreement_41 (by decide) ?_
        first | (rw [zb_f (p := rd (i n) t ∧ rd (i n) v) (fun h => zb_0.mp hc29 h.1)] at K45; exact K45) | (rw [zb_f (p := rd (i n) t ∧ rd (i n) v) (fun h => zb_0.mp hc37 h.2)] at K45; exact K45) | (rw [zb_t (p := rd (i n) t ∧ rd (i n) v) ⟨zb_ne.mp hc29, zb_ne.mp hc37⟩] at K45; exact K45)
  refine r_aload_n qX4_disagreement_0 rfl ?_
  refine r_iload_n qX4_disagreement_1 rfl ?_
  refine r_cv1 (cu2 := 0) (su2 := 0) qX4_disagreement_2 kX4_396 rfl (by decide +kernel) (c := 4) (by assumption) (by decide) rfl rfl rfl rfl rfl rfl ?_
  refine c_X4_hasTube (by first | assumption | omega | rfl | decide) (by first | assumption | omega | rfl | decide) (by first | assumption | omega | rfl | decide) ?_
  show zR E _ _ X 5 _ _ _ _ _ _ _
  refine r_if_eq (t := 20) qX4_disagreement_5 (by decide) (fun hc5 => ?_) (fun hc5 => ?_)
  · refine r_iconst (v := nI 0) qX4_disagreement_20 (by decide) ?_
    refine r_is_4_3 qX4_disagreement_21 rfl rfl ?_
    first | (rw [zb_f (fun h => zb_0.mp hc5 h.1)] at K22; exact K22) | (rw [zb_f (fun h => zb_0.mp hc13 h.2)] at K22; exact K22) | (rw [zb_t ⟨zb_ne.mp hc5, zb_ne.mp hc13⟩] at K22; exact K22)
  · refine r_aload_n qX4_disagreement_8 rfl ?_
    refine r_iload_n qX4_disagreement_9 rfl ?_
    refine r_cv1 (cu2 := 0) (su2 := 0) qX4_disagreement_10 kX4_396 rfl (by decide +kernel) (c := 4) (by assumption) (by decide) rfl rfl rfl rfl rfl rfl ?_
    refine c_X4_hasTube (by first | assumption | omega | rfl | decide) (by first | assumption | omega | rfl | decide) (by first | assumption | omega | rfl | decide) ?_
    show zR E _ _ X 13 _ _ _ _ _ _ _
    refine r_if_eq (t := 20) qX4_disagreement_13 (by decide) (fun hc13 => ?_) (fun hc13 => ?_)
    · refine r_iconst (v := nI 0) qX4_disagreement_20 (by decide) ?_
      refine r_is_4_3 qX4_disagreement_21 rfl rfl ?_
      first | (rw [zb_f (fun h => zb_0.mp hc5 h.1)] at K22; exact K22) | (rw [zb_f (fun h => zb_0.mp hc13 h.2)] at K22; exact K22) | (rw [zb_t ⟨zb_ne.mp hc5, zb_ne.mp hc13⟩] at K22; exact K22)
    · refine r_iconst (v := nI 1) qX4_disagreement_16 (by decide) ?_
      refine r_goto (t := 21) qX4_disagreement_17 (by decide) ?_
      refine r_is_4_3 qX4_disagreement_21 rfl rfl ?_
      first | (rw [zb_f (fun h => zb_0.mp hc5 h.1)] at K22; exact K22) | (rw [zb_f (fun h => zb_0.mp hc13 h.2)] at K22; exact K22) | (rw [zb_t ⟨zb_ne.mp hc5, zb_ne.mp hc13⟩] at K22; exact K22)
theorem dg_in {q : Nat} (h : q ≤ 1700) : (nI q - nI 200).toInt = (q : Int) - 200 := by
  rw [Int32.toInt_sub, nI_toInt (by omega), nI_toInt (by omega), Int.bmod_eq_of_le] <;> omega
theorem gr_dec (a : Int32) : a + 1 - nI 200 + Int32.ofInt (-1) = a - nI 200 := by
  rw [show Int32.ofInt (-1) = -1 by decide, Int32.sub_eq_add_neg, Int32.sub_eq_add_neg, Int32.add_assoc, Int32.add_assoc, show (1 + (-nI 200 + -1) : Int32) = -nI 200 by decide]
theorem gr_dec2 (q : Nat) : nI (q + 1) - nI 200 + Int32.ofInt (-1) = nI q - nI 200 := by
  rw [nI_succ]
  exact gr_dec _
set_option maxHeartbeats 4000000 in
set_option maxRecDepth 20000 in
theorem c_X4_greatestTemperature {E : Ev} {g : Sh} {i : Ni} {j : Nj} {K : Kp} {x n d b p s o : Nat} {t : Int32} (hB : zB g i x n d b p s o) (hK : K (.inl (some (.int (if tv (i n 5) t then sGreat (i n) (zn t) 1701 else nI 0)))) g (wA i x (upd (i x) 0 (c3 (tv (i n 5) t) True True))) j) : zCon E mX4_greatestTemperature [.ref x, .int t] g i j K := by
  refine zcon_of (by decide +kernel) rfl rfl (lo := [.ref x, .int t, zJ]) rfl (fun X => ?_)
  have hB' := hB
  obtain ⟨hW, hR3, hO⟩ := hB
  have w1 := hW.1
  have nx := hW.nx
  have hM' := hW.m hR3
  obtain ⟨hT, hT8⟩ := hO.T8
  have KL : ∀ (i' : Ni) (k : Nat), zTf (i' n) k → ∀ q : Nat, q ≤ 1700 → K (.inl (some (.int (sGreat (i' n) k (q + 1))))) g i' j → zR E mX4_greatestTemperature (zZ E mX4_greatestTemperature K) X 18 [.ref x, .int (nI k), .int (nI q - nI 200)] [] g i' j 0 0 := by
    intro i' k hf q
    have h8 := hf.1
    induction q with
    | zero =>
      intro hq hK
      have e := dg_in (q := 0) (by omega)
      have e2 : ((nI 0 - nI 200) + Int32.ofInt (-1)).toInt = -201 := by decide +kernel
      rw [sGreat] at hK
      have K18 : K (.inl (some (.int (sGreat (i' n) k 0)))) g i' j → zR E mX4_greatestTemperature (zZ E mX4_greatestTemperature K) X 18 [.ref x, .int (nI k), .int (nI 0 - nI 200 + Int32.ofInt (-1))] [] g i' j 0 0 := by
        intro hK
        rw [sGreat] at hK
        refine r_iload_n qX4_greatestTemperature_18 rfl ?_
        refine r_cs1 (cu2 := 0) (su2 := 0) qX4_greatestTemperature_19 kX4_406 rfl (by decide +kernel) rfl rfl rfl rfl rfl ?_
        refine c_X4_areTenths ?_
        show zR E _ _ X 22 _ _ _ _ _ _ _
        refine r_if_eq (t := 46) qX4_greatestTemperature_22 (by decide) (fun hc22 => ?_) (fun hc22 => absurd hc22 ((fun h => absurd (zb_ne.mp h) (by omega))))
        refine r_iload_n qX4_greatestTemperature_46 rfl ?_
        refine r_cs1 (cu2 := 0) (su2 := 0) qX4_greatestTemperature_47 kX4_406 rfl (by decide +kernel) rfl rfl rfl rfl rfl ?_
        refine c_X4_areTenths ?_
        show zR E _ _ X 50 _ _ _ _ _ _ _
        refine r_if_eq (t := 57) qX4_greatestTemperature_50 (by decide) (fun hc50 => ?_) (fun hc50 => absurd hc50 ((fun h => absurd (zb_ne.mp h) (by omega))))
        refine r_sipush (v := (-1000)) qX4_greatestTemperature_57 (by decide) ?_
        refine r_iret qX4_greatestTemperature_60 rfl rfl rfl rfl ?_
        exact hK
      refine r_iload_n qX4_greatestTemperature_18 rfl ?_
      refine r_cs1 (cu2 := 0) (su2 := 0) qX4_greatestTemperature_19 kX4_406 rfl (by decide +kernel) rfl rfl rfl rfl rfl ?_
      refine c_X4_areTenths ?_
      show zR E _ _ X 22 _ _ _ _ _ _ _
      refine r_if_eq (t := 46) qX4_greatestTemperature_22 (by decide) (fun hc22 => absurd hc22 ((fun h => (zb_0.mp h) (by omega)))) (fun hc22 => ?_)
      refine r_aload_n qX4_greatestTemperature_25 rfl ?_
      refine r_iload_n qX4_greatestTemperature_26 rfl ?_
      refine r_iload_n qX4_greatestTemperature_27 rfl ?_
      refine r_cv2 (cu2 := 0) (su2 := 0) qX4_greatestTemperature_28 kX4_155 rfl (by decide +kernel) (c := 4) (by assumption) (by decide) rfl rfl rfl rfl rfl rfl ?_
      refine c_X4_freeAt (by first | assumption | omega | rfl | decide) (by first | assumption | omega | rfl | decide) ?_
      show zR E _ _ X 31 _ _ _ _ _ _ _
      refine r_aload_n qX4_greatestTemperature_31 rfl ?_
      refine r_iload_n qX4_greatestTemperature_32 rfl ?_
      refine r_iconst (v := nI 3) qX4_greatestTemperature_33 (by decide) ?_
      refine r_cv2 (cu2 := 0) (su2 := 0) qX4_greatestTemperature_34 kX4_148 rfl (by decide +kernel) (c := 4) (by assumption) (by decide) rfl rfl rfl rfl rfl rfl ?_
      refine c_X4_of (by first | assumption | omega | rfl | decide) (by first | assumption | omega | rfl | decide) ?_
      show zR E _ _ X 37 _ _ _ _ _ _ _
      refine r_icmp_le (t := 46) qX4_greatestTemperature_37 (by decide) (fun hc37 => ?_) (fun hc37 => ?_)
      · refine r_iload_n qX4_greatestTemperature_46 rfl ?_
        refine r_cs1 (cu2 := 0) (su2 := 0) qX4_greatestTemperature_47 kX4_406 rfl (by decide +kernel) rfl rfl rfl rfl rfl ?_
        refine c_X4_areTenths ?_
        show zR E _ _ X 50 _ _ _ _ _ _ _
        refine r_if_eq (t := 57) qX4_greatestTemperature_50 (by decide) (fun hc50 => absurd hc50 ((fun h => (zb_0.mp h) (by omega)))) (fun hc50 => ?_)
        refine r_iload_n qX4_greatestTemperature_53 rfl ?_
        refine r_goto (t := 60) qX4_greatestTemperature_54 (by decide) ?_
        refine r_iret qX4_greatestTemperature_60 rfl rfl rfl rfl ?_
        (rw [if_neg (Int32.not_lt.mpr hc37)] at hK; exact hK)
      · refine r_ii_3_2 qX4_greatestTemperature_40 rfl rfl rfl ?_
        refine r_goto (t := 18) qX4_greatestTemperature_43 (by decide) ?_
        exact K18 (by rw [if_pos (Int32.not_le.mp hc37)] at hK; exact hK)
    | succ q ih =>
      intro hq hK
      have e := dg_in (q := q + 1) (by omega)
      rw [sGreat] at hK
      refine r_iload_n qX4_greatestTemperature_18 rfl ?_
      refine r_cs1 (cu2 := 0) (su2 := 0) qX4_greatestTemperature_19 kX4_406 rfl (by decide +kernel) rfl rfl rfl rfl rfl ?_
      refine c_X4_areTenths ?_
      show zR E _ _ X 22 _ _ _ _ _ _ _
      refine r_if_eq (t := 46) qX4_greatestTemperature_22 (by decide) (fun hc22 => absurd hc22 ((fun h => (zb_0.mp h) (by omega)))) (fun hc22 => ?_)
      refine r_aload_n qX4_greatestTemperature_25 rfl ?_
      refine r_iload_n qX4_greatestTemperature_26 rfl ?_
      refine r_iload_n qX4_greatestTemperature_27 rfl ?_
      refine r_cv2 (cu2 := 0) (su2 := 0) qX4_greatestTemperature_28 kX4_155 rfl (by decide +kernel) (c := 4) (by assumption) (by decide) rfl rfl rfl rfl rfl rfl ?_
      refine c_X4_freeAt (by first | assumption | omega | rfl | decide) (by first | assumption | omega | rfl | decide) ?_
      show zR E _ _ X 31 _ _ _ _ _ _ _
      refine r_aload_n qX4_greatestTemperature_31 rfl ?_
      refine r_iload_n qX4_greatestTemperature_32 rfl ?_
      refine r_iconst (v := nI 3) qX4_greatestTemperature_33 (by decide) ?_
      refine r_cv2 (cu2 := 0) (su2 := 0) qX4_greatestTemperature_34 kX4_148 rfl (by decide +kernel) (c := 4) (by assumption) (by decide) rfl rfl rfl rfl rfl rfl ?_
      refine c_X4_of (by first | assumption | omega | rfl | decide) (by first | assumption | omega | rfl | decide) ?_
      show zR E _ _ X 37 _ _ _ _ _ _ _
      refine r_icmp_le (t := 46) qX4_greatestTemperature_37 (by decide) (fun hc37 => ?_) (fun hc37 => ?_)
      · refine r_iload_n qX4_greatestTemperature_46 rfl ?_
        refine r_cs1 (cu2 := 0) (su2 := 0) qX4_greatestTemperature_47 kX4_406 rfl (by decide +kernel) rfl rfl rfl rfl rfl ?_
        refine c_X4_areTenths ?_
        show zR E _ _ X 50 _ _ _ _ _ _ _
        refine r_if_eq (t := 57) qX4_greatestTemperature_50 (by decide) (fun hc50 => absurd hc50 ((fun h => (zb_0.mp h) (by omega)))) (fun hc50 => ?_)
        refine r_iload_n qX4_greatestTemperature_53 rfl ?_
        refine r_goto (t := 60) qX4_greatestTemperature_54 (by decide) ?_
        refine r_iret qX4_greatestTemperature_60 rfl rfl rfl rfl ?_
        (rw [if_neg (Int32.not_lt.mpr hc37)] at hK; exact hK)
      · refine r_ii_3_2 qX4_greatestTemperature_40 rfl rfl (gr_dec2 q) ?_
        refine r_goto (t := 18) qX4_greatestTemperature_43 (by decide) ?_
        exact ih (by omega) (by rw [if_pos (Int32.not_le.mp hc37)] at hK; exact hK)
  refine r_aload_n qX4_greatestTemperature_0 rfl ?_
  refine r_aload_n qX4_greatestTemperature_1 rfl ?_
  refine r_iload_n qX4_greatestTemperature_2 rfl ?_
  refine r_cv1 (cu2 := 0) (su2 := 0) qX4_greatestTemperature_3 kX4_396 rfl (by decide +kernel) (c := 4) (by assumption) (by decide) rfl rfl rfl rfl rfl rfl ?_
  refine c_X4_hasTube (by first | assumption | omega | rfl | decide) (by first | assumption | omega | rfl | decide) (by first | assumption | omega | rfl | decide) ?_
  show zR E _ _ X 6 _ _ _ _ _ _ _
  refine r_cv1 (cu2 := 0) (su2 := 0) qX4_greatestTemperature_6 kX4_371 rfl (by decide +kernel) (c := 4) (by assumption) (by decide) rfl rfl rfl rfl rfl rfl ?_
  refine c_X4_passes1 (by first | assumption | omega | rfl | decide) ?_
  show zR E _ _ X 9 _ _ _ _ _ _ _
  generalize hi : wA i x (upd (i x) 0 (c3 (tv (i n 5) t) True True)) = i' at hK ⊢
  have hn : i' n = i n := by rw [← hi]; exact wA_n nx
  clear hi
  refine r_if_ne (t := 14) qX4_greatestTemperature_9 (by decide) (fun hc9 => ?_) (fun hc9 => ?_)
  · have hv := zb_ne.mp hc9; clear hc9; rw [if_pos hv] at hK; obtain ⟨et, hk⟩ := tv_nat hv; generalize zn t = k at *; subst et
    refine r_sipush (v := nI 1500) qX4_greatestTemperature_14 (by decide) ?_
    refine r_is_3_2 qX4_greatestTemperature_17 rfl rfl ?_
    exact KL i' k (by rw [hn]; exact hO.f hk) 1700 (by omega) (by rw [hn]; exact hK)
  · rw [if_neg (zb_0.mp hc9)] at hK
    refine r_iconst (v := nI 0) qX4_greatestTemperature_12 (by decide) ?_
    refine r_iret qX4_greatestTemperature_13 rfl rfl rfl rfl ?_
    exact hK

