/-! ===== THE MODEL'S CHANGES ===== -/
theorem c3_0 {a b c : Prop} {da : Decidable a} {db : Decidable b} {dc : Decidable c} (ha : a) (hb : b) (hc : c) : c3 a b c = nI 0 := by
  rw [c3, if_neg (fun h => h ha), if_neg (fun h => h hb), if_neg (fun h => h hc)]
theorem zW.pp {g : Sh} {x n d b p s o : Nat} (h : zW g x n d b p s o) : p ≠ x ∧ n ≠ p := by
  obtain ⟨w1, -, -, -, -, -, -, -, -, -, ⟨w8, -⟩, -, -, -, w9, -⟩ := h
  refine ⟨?_, w9⟩
  rintro rfl
  omega
set_option maxHeartbeats 4000000 in
set_option maxRecDepth 20000 in
theorem c_X4_setRoom {E : Ev} {g : Sh} {i : Ni} {j : Nj} {K : Kp} {x n d b p s o c : Nat} {v : Int32} (hB : zB g i x n d b p s o) (hc : i x 29 = nI c) (hcl : c ≤ 6) (hK0 : ¬ (-20 ≤ v.toInt ∧ v.toInt ≤ 150) → ∀ i' : Ni, i' x = upd (i x) 0 (c3 (-20 ≤ v.toInt ∧ v.toInt ≤ 150) True True) → (∀ r, r ≠ x → i' r = i r) → K (.inl (some (.int (nI 0)))) g i' j) (hK1 : (-20 ≤ v.toInt ∧ v.toInt ≤ 150) → ∀ i' : Ni, i' x = upd (upd (i x) 0 (nI 0)) 29 (nI (if c = 6 then 6 else c + 1)) → i' p = sRem (i p) (i n) c → i' n = upd (i n) 0 v → (∀ r, r ≠ x → r ≠ p → r ≠ n → i' r = i r) → K (.inl (some (.int (i n 0)))) g i' j) : zCon E mX4_setRoom [.ref x, .int v] g i j K := by
  refine zcon_of (by decide +kernel) rfl rfl (lo := [.ref x, .int v, zJ]) rfl (fun X => ?_)
  have hB' := hB
  obtain ⟨hW, hR3, hO⟩ := hB
  have w1 := hW.1
  have w2 := hW.2.1
  have nx := hW.nx
  have xn := Ne.symm nx
  have hM' := hW.m hR3
  obtain ⟨px, np⟩ := hW.pp
  have pn := Ne.symm np
  have xp := Ne.symm px
  obtain ⟨w8, w9⟩ := hW.2.2.2.2.2.2.2.1
  obtain ⟨hT, hT8⟩ := hO.T8
  obtain ⟨hBt, hB4⟩ := hO.B4
  refine r_aload_n qX4_setRoom_0 rfl ?_
  refine r_iload_n qX4_setRoom_1 rfl ?_
  refine r_i2l qX4_setRoom_2 ?_
  refine r_ldc2 qX4_setRoom_3 lX4_456 ?_
  refine r_ldc2 qX4_setRoom_6 lX4_458 ?_
  refine r_cs3 (cu2 := 0) (su2 := 0) qX4_setRoom_9 kX4_276 rfl (by decide +kernel) rfl rfl rfl rfl rfl ?_
  refine c_X4_in ?_
  show zR E _ _ X 12 _ _ _ _ _ _ _
  rw [zb_c (show _ ↔ (-20 ≤ v.toInt ∧ v.toInt ≤ 150) by rw [Int32.toInt_toInt64]; exact Iff.rfl)]
  refine r_cv1 (cu2 := 0) (su2 := 0) qX4_setRoom_12 kX4_371 rfl (by decide +kernel) (c := 4) (by assumption) (by decide) rfl rfl rfl rfl rfl rfl ?_
  refine c_X4_passes1 (by first | assumption | omega | rfl | decide) ?_
  show zR E _ _ X 15 _ _ _ _ _ _ _
  generalize hi : wA i x (upd (i x) 0 (c3 (-20 ≤ v.toInt ∧ v.toInt ≤ 150) True True)) = i'
  have ex : i' x = upd (i x) 0 (c3 (-20 ≤ v.toInt ∧ v.toInt ≤ 150) True True) := by rw [← hi, wA_s]
  have eo : ∀ r, r ≠ x → i' r = i r := fun r hr => by rw [← hi]; exact wA_n hr
  clear hi
  refine r_if_ne (t := 20) qX4_setRoom_15 (by decide) (fun hc15 => ?_) (fun hc15 => ?_)
  · have hv := zb_ne.mp hc15; clear hc15 hK0; replace hK1 := hK1 hv; rw [c3_0 hv trivial trivial] at ex
    refine r_aload_n qX4_setRoom_20 rfl ?_
    refine r_cv0 (cu2 := 0) (su2 := 0) qX4_setRoom_21 kX4_384 rfl (by decide +kernel) (c := 4) (by assumption) (by decide) rfl rfl rfl rfl rfl rfl ?_
    refine c_X4_remember hW (c := c) (by rw [ex, pk_un (by decide)]; exact hc) hcl (fun i2 r1 r2 r3 => ?_)
    show zR E _ _ X 24 _ _ _ _ _ _ _
    rw [ex] at r1; rw [eo p px, eo n nx] at r2; have rn : i2 n = i n := by rw [r3 n nx np, eo n nx]
    have ro : ∀ r, r ≠ x → r ≠ p → i2 r = i r := fun r h1 h2 => by rw [r3 r h1 h2]; exact eo r h1
    refine r_aload_n qX4_setRoom_24 rfl ?_
    refine r_getr qX4_setRoom_25 fX4_17 rfl (by assumption) (by first | assumption | rfl) ?_
    refine r_iconst (v := nI 0) qX4_setRoom_28 (by decide) ?_
    refine r_ialdN qX4_setRoom_29 (by assumption) (by assumption) (by omega) rfl ?_
    rw [rn]
    refine r_is_3_2 qX4_setRoom_30 rfl rfl ?_
    refine r_aload_n qX4_setRoom_31 rfl ?_
    refine r_getr qX4_setRoom_32 fX4_17 rfl (by assumption) (by first | assumption | rfl) ?_
    refine r_iconst (v := nI 0) qX4_setRoom_35 (by decide) ?_
    refine r_iload_n qX4_setRoom_36 rfl ?_
    refine r_iastN qX4_setRoom_37 (by assumption) (by assumption) (by omega) rfl ?_
    rw [rn]
    refine r_iload_n qX4_setRoom_38 rfl ?_
    refine r_iret qX4_setRoom_39 rfl rfl rfl rfl ?_
    exact hK1 _ (by first | exact r1 | (rw [wA_n xn]; exact r1)) (by first | exact r2 | (rw [wA_n pn]; exact r2)) (by first | exact rn | rw [wA_s]) (fun r h1 h2 h3 => by first | (rw [wA_n h3]; exact ro r h1 h2) | exact ro r h1 h2)
  · have hv := zb_0.mp hc15; replace hK0 := hK0 hv
    refine r_iconst (v := nI 0) qX4_setRoom_18 (by decide) ?_
    refine r_iret qX4_setRoom_19 rfl rfl rfl rfl ?_
    exact hK0 _ ex eo
set_option maxHeartbeats 4000000 in
set_option maxRecDepth 20000 in
theorem c_X4_layThumb {E : Ev} {g : Sh} {i : Ni} {j : Nj} {K : Kp} {x n d b p s o c : Nat} {t m : Int32} (hB : zB g i x n d b p s o) (hc : i x 29 = nI c) (hcl : c ≤ 6) (hK0 : ¬ (tv (i n 5) t ∧ 1 ≤ m.toInt ∧ m.toInt ≤ 60) → ∀ i' : Ni, i' x = upd (i x) 0 (c3 (tv (i n 5) t) (1 ≤ m.toInt ∧ m.toInt ≤ 60) True) → (∀ r, r ≠ x → i' r = i r) → K (.inl (some (.int (nI 0)))) g i' j) (hK1 : (tv (i n 5) t ∧ 1 ≤ m.toInt ∧ m.toInt ≤ 60) → ∀ i' : Ni, i' x = upd (upd (i x) 0 (nI 0)) 29 (nI (if c = 6 then 6 else c + 1)) → i' p = sRem (i p) (i n) c → i' n = upd (upd (i n) 6 t) 7 m → (∀ r, r ≠ x → r ≠ p → r ≠ n → i' r = i r) → K (.inl (some (.int (i n 6)))) g i' j) : zCon E mX4_layThumb [.ref x, .int t, .int m] g i j K := by
  refine zcon_of (by decide +kernel) rfl rfl (lo := [.ref x, .int t, .int m, zJ]) rfl (fun X => ?_)
  have hB' := hB
  obtain ⟨hW, hR3, hO⟩ := hB
  have w1 := hW.1
  have w2 := hW.2.1
  have nx := hW.nx
  have xn := Ne.symm nx
  have hM' := hW.m hR3
  obtain ⟨px, np⟩ := hW.pp
  have pn := Ne.symm np
  have xp := Ne.symm px
  obtain ⟨w8, w9⟩ := hW.2.2.2.2.2.2.2.1
  obtain ⟨hT, hT8⟩ := hO.T8
  obtain ⟨hBt, hB4⟩ := hO.B4
  refine r_aload_n qX4_layThumb_0 rfl ?_
  refine r_aload_n qX4_layThumb_1 rfl ?_
  refine r_iload_n qX4_layThumb_2 rfl ?_
  refine r_cv1 (cu2 := 0) (su2 := 0) qX4_layThumb_3 kX4_396 rfl (by decide +kernel) (c := 4) (by assumption) (by decide) rfl rfl rfl rfl rfl rfl ?_
  refine c_X4_hasTube (by first | assumption | omega | rfl | decide) (by first | assumption | omega | rfl | decide) (by first | assumption | omega | rfl | decide) ?_
  show zR E _ _ X 6 _ _ _ _ _ _ _
  refine r_iload_n qX4_layThumb_6 rfl ?_
  refine r_i2l qX4_layThumb_7 ?_
  refine r_lconst (v := 1) qX4_layThumb_8 (by decide) ?_
  refine r_ldc2 qX4_layThumb_9 lX4_454 ?_
  refine r_cs3 (cu2 := 0) (su2 := 0) qX4_layThumb_12 kX4_276 rfl (by decide +kernel) rfl rfl rfl rfl rfl ?_
  refine c_X4_in ?_
  show zR E _ _ X 15 _ _ _ _ _ _ _
  rw [zb_c (show _ ↔ (1 ≤ m.toInt ∧ m.toInt ≤ 60) by rw [Int32.toInt_toInt64]; exact Iff.rfl)]
  refine r_cv2 (cu2 := 0) (su2 := 0) qX4_layThumb_15 kX4_409 rfl (by decide +kernel) (c := 4) (by assumption) (by decide) rfl rfl rfl rfl rfl rfl ?_
  refine c_X4_passes2 (by first | assumption | omega | rfl | decide) ?_
  show zR E _ _ X 18 _ _ _ _ _ _ _
  generalize hi : wA i x (upd (i x) 0 (c3 (tv (i n 5) t) (1 ≤ m.toInt ∧ m.toInt ≤ 60) True)) = i'
  have ex : i' x = upd (i x) 0 (c3 (tv (i n 5) t) (1 ≤ m.toInt ∧ m.toInt ≤ 60) True) := by rw [← hi, wA_s]
  have eo : ∀ r, r ≠ x → i' r = i r := fun r hr => by rw [← hi]; exact wA_n hr
  clear hi
  refine r_if_ne (t := 23) qX4_layThumb_18 (by decide) (fun hc18 => ?_) (fun hc18 => ?_)
  · have hv := zb_ne.mp hc18; clear hc18 hK0; replace hK1 := hK1 hv; rw [c3_0 hv.1 hv.2 trivial] at ex
    refine r_aload_n qX4_layThumb_23 rfl ?_
    refine r_cv0 (cu2 := 0) (su2 := 0) qX4_layThumb_24 kX4_384 rfl (by decide +kernel) (c := 4) (by assumption) (by decide) rfl rfl rfl rfl rfl rfl ?_
    refine c_X4_remember hW (c := c) (by rw [ex, pk_un (by decide)]; exact hc) hcl (fun i2 r1 r2 r3 => ?_)
    show zR E _ _ X 27 _ _ _ _ _ _ _
    rw [ex] at r1; rw [eo p px, eo n nx] at r2; have rn : i2 n = i n := by rw [r3 n nx np, eo n nx]
    have ro : ∀ r, r ≠ x → r ≠ p → i2 r = i r := fun r h1 h2 => by rw [r3 r h1 h2]; exact eo r h1
    refine r_aload_n qX4_layThumb_27 rfl ?_
    refine r_getr qX4_layThumb_28 fX4_17 rfl (by assumption) (by first | assumption | rfl) ?_
    refine r_bipush (v := nI 6) qX4_layThumb_31 (by decide) ?_
    refine r_ialdN qX4_layThumb_33 (by assumption) (by assumption) (by omega) rfl ?_
    rw [rn]
    refine r_is_4_3 qX4_layThumb_34 rfl rfl ?_
    refine r_aload_n qX4_layThumb_35 rfl ?_
    refine r_getr qX4_layThumb_36 fX4_17 rfl (by assumption) (by first | assumption | rfl) ?_
    refine r_bipush (v := nI 6) qX4_layThumb_39 (by decide) ?_
    refine r_iload_n qX4_layThumb_41 rfl ?_
    refine r_iastN qX4_layThumb_42 (by assumption) (by assumption) (by omega) rfl ?_
    rw [rn]
    refine r_aload_n qX4_layThumb_43 rfl ?_
    refine r_getr qX4_layThumb_44 fX4_17 rfl (by assumption) (by first | assumption | rfl) ?_
    refine r_bipush (v := nI 7) qX4_layThumb_47 (by decide) ?_
    refine r_iload_n qX4_layThumb_49 rfl ?_
    refine r_iastN qX4_layThumb_50 (by assumption) (by assumption) (by omega) rfl ?_
    simp only [wA_s, wA_wA]
    refine r_iload_n qX4_layThumb_51 rfl ?_
    refine r_iret qX4_layThumb_52 rfl rfl rfl rfl ?_
    exact hK1 _ (by first | exact r1 | (rw [wA_n xn]; exact r1)) (by first | exact r2 | (rw [wA_n pn]; exact r2)) (by first | exact rn | rw [wA_s]) (fun r h1 h2 h3 => by first | (rw [wA_n h3]; exact ro r h1 h2) | exact ro r h1 h2)
  · have hv := zb_0.mp hc18; replace hK0 := hK0 hv
    refine r_iconst (v := nI 0) qX4_layThumb_21 (by decide) ?_
    refine r_iret qX4_layThumb_22 rfl rfl rfl rfl ?_
    exact hK0 _ ex eo
set_option maxHeartbeats 4000000 in
set_option maxRecDepth 20000 in
theorem c_X4_erasePoint {E : Ev} {g : Sh} {i : Ni} {j : Nj} {K : Kp} {x n d b p s o c : Nat} {t q : Int32} (hB : zB g i x n d b p s o) (hc : i x 29 = nI c) (hcl : c ≤ 6) (hK0 : ¬ (tv (i n 5) t ∧ pv (i n) t q) → ∀ i' : Ni, i' x = upd (i x) 0 (c3 (tv (i n 5) t) (pv (i n) t q) True) → (∀ r, r ≠ x → i' r = i r) → K (.inl (some (.int (nI 0)))) g i' j) (hK1 : (tv (i n 5) t ∧ pv (i n) t q) → ∀ i' : Ni, i' x = upd (upd (i x) 0 (nI 0)) 29 (nI (if c = 6 then 6 else c + 1)) → i' p = sRem (i p) (i n) c → i' n = sErase (i n) (zn t) (zn q) → (∀ r, r ≠ x → r ≠ p → r ≠ n → i' r = i r) → K (.inl (some (.int (sHgt (i n) (zn t) (zn q))))) g i' j) : zCon E mX4_erasePoint [.ref x, .int t, .int q] g i j K := by
  refine zcon_of (by decide +kernel) rfl rfl (lo := [.ref x, .int t, .int q]) rfl (fun X => ?_)
  have hB' := hB
  obtain ⟨hW, hR3, hO⟩ := hB
  have w1 := hW.1
  have w2 := hW.2.1
  have nx := hW.nx
  have xn := Ne.symm nx
  have hM' := hW.m hR3
  obtain ⟨px, np⟩ := hW.pp
  have pn := Ne.symm np
  have xp := Ne.symm px
  obtain ⟨w8, w9⟩ := hW.2.2.2.2.2.2.2.1
  obtain ⟨hT, hT8⟩ := hO.T8
  obtain ⟨hBt, hB4⟩ := hO.B4
  refine r_aload_n qX4_erasePoint_0 rfl ?_
  refine r_aload_n qX4_erasePoint_1 rfl ?_
  refine r_iload_n qX4_erasePoint_2 rfl ?_
  refine r_cv1 (cu2 := 0) (su2 := 0) qX4_erasePoint_3 kX4_396 rfl (by decide +kernel) (c := 4) (by assumption) (by decide) rfl rfl rfl rfl rfl rfl ?_
  refine c_X4_hasTube (by first | assumption | omega | rfl | decide) (by first | assumption | omega | rfl | decide) (by first | assumption | omega | rfl | decide) ?_
  show zR E _ _ X 6 _ _ _ _ _ _ _
  refine r_aload_n qX4_erasePoint_6 rfl ?_
  refine r_iload_n qX4_erasePoint_7 rfl ?_
  refine r_iload_n qX4_erasePoint_8 rfl ?_
  refine r_cv2 (cu2 := 0) (su2 := 0) qX4_erasePoint_9 kX4_413 rfl (by decide +kernel) (c := 4) (by assumption) (by decide) rfl rfl rfl rfl rfl rfl ?_
  refine c_X4_hasPoint (by first | assumption | omega | rfl | decide) ?_
  show zR E _ _ X 12 _ _ _ _ _ _ _
  refine r_cv2 (cu2 := 0) (su2 := 0) qX4_erasePoint_12 kX4_409 rfl (by decide +kernel) (c := 4) (by assumption) (by decide) rfl rfl rfl rfl rfl rfl ?_
  refine c_X4_passes2 (by first | assumption | omega | rfl | decide) ?_
  show zR E _ _ X 15 _ _ _ _ _ _ _
  generalize hi : wA i x (upd (i x) 0 (c3 (tv (i n 5) t) (pv (i n) t q) True)) = i'
  have ex : i' x = upd (i x) 0 (c3 (tv (i n 5) t) (pv (i n) t q) True) := by rw [← hi, wA_s]
  have eo : ∀ r, r ≠ x → i' r = i r := fun r hr => by rw [← hi]; exact wA_n hr
  clear hi
  refine r_if_ne (t := 20) qX4_erasePoint_15 (by decide) (fun hc15 => ?_) (fun hc15 => ?_)
  · have hv := zb_ne.mp hc15; clear hc15 hK0; replace hK1 := hK1 hv; rw [c3_0 hv.1 hv.2 trivial] at ex
    have hv1 := hv.1; have hv2 := hv.2.2; clear hv
    obtain ⟨ek, hk⟩ := tv_nat hv1; generalize zn t = k at *; subst ek
    obtain ⟨el, hl⟩ := tv_nat hv2; generalize zn q = l at *; subst el; have h8 := hO.k8 hk; obtain ⟨hm, hm6⟩ := hO.many hk; change l < sMany (i n) k at hl
    refine r_aload_n qX4_erasePoint_20 rfl ?_
    refine r_cv0 (cu2 := 0) (su2 := 0) qX4_erasePoint_21 kX4_384 rfl (by decide +kernel) (c := 4) (by assumption) (by decide) rfl rfl rfl rfl rfl rfl ?_
    refine c_X4_remember hW (c := c) (by rw [ex, pk_un (by decide)]; exact hc) hcl (fun i2 r1 r2 r3 => ?_)
    show zR E _ _ X 24 _ _ _ _ _ _ _
    rw [ex] at r1; rw [eo p px, eo n nx] at r2; have rn : i2 n = i n := by rw [r3 n nx np, eo n nx]
    have ro : ∀ r, r ≠ x → r ≠ p → i2 r = i r := fun r h1 h2 => by rw [r3 r h1 h2]; exact eo r h1
    refine r_aload_n qX4_erasePoint_24 rfl ?_
    refine r_iload_n qX4_erasePoint_25 rfl ?_
    refine r_iload_n qX4_erasePoint_26 rfl ?_
    refine r_cv2 (cu2 := 0) (su2 := 0) qX4_erasePoint_27 kX4_323 rfl (by decide +kernel) (c := 4) (by assumption) (by decide) rfl rfl rfl rfl rfl rfl ?_
    refine c_X4_eraseNow hM' h8 (by rw [rn]; exact hm) (by rw [rn]; exact hm6) (by rw [rn]; exact hl) ?_
    show zR E _ _ X 30 _ _ _ _ _ _ _
    rw [rn]
    refine r_iret qX4_erasePoint_30 rfl rfl rfl rfl ?_
    exact hK1 _ (by first | exact r1 | (rw [wA_n xn]; exact r1)) (by first | exact r2 | (rw [wA_n pn]; exact r2)) (by first | exact rn | rw [wA_s]) (fun r h1 h2 h3 => by first | (rw [wA_n h3]; exact ro r h1 h2) | exact ro r h1 h2)
  · have hv := zb_0.mp hc15; replace hK0 := hK0 hv
    refine r_iconst (v := nI 0) qX4_erasePoint_18 (by decide) ?_
    refine r_iret qX4_erasePoint_19 rfl rfl rfl rfl ?_
    exact hK0 _ ex eo
set_option maxHeartbeats 4000000 in
set_option maxRecDepth 20000 in
theorem c_X4_pass {E : Ev} {g : Sh} {i : Ni} {j : Nj} {K : Kp} {x n d b p s o c : Nat} {m : Int32} (hB : zB g i x n d b p s o) (hc : i x 29 = nI c) (hcl : c ≤ 6) (hK0 : ¬ (1 ≤ m.toInt ∧ m.toInt ≤ 300) → ∀ i' : Ni, i' x = upd (i x) 0 (c3 (1 ≤ m.toInt ∧ m.toInt ≤ 300) True True) → (∀ r, r ≠ x → i' r = i r) → K (.inl (some (.int (nI 0)))) g i' j) (hK1 : (1 ≤ m.toInt ∧ m.toInt ≤ 300) → ∀ i' : Ni, i' x = upd (upd (i x) 0 (nI 0)) 29 (nI (if c = 6 then 6 else c + 1)) → i' p = sRem (i p) (i n) c → i' n = sWalk (i n) (zn m) → (∀ r, r ≠ x → r ≠ p → r ≠ n → i' r = i r) → K (.inl (some (.int (sLost (sWalk (i n) (zn m)) (zn (i n 3)) - sLost (i n) (zn (i n 3)))))) g i' j) : zCon E mX4_pass [.ref x, .int m] g i j K := by
  refine zcon_of (by decide +kernel) rfl rfl (lo := [.ref x, .int m, zJ]) rfl (fun X => ?_)
  have hB' := hB
  obtain ⟨hW, hR3, hO⟩ := hB
  have w1 := hW.1
  have w2 := hW.2.1
  have nx := hW.nx
  have xn := Ne.symm nx
  have hM' := hW.m hR3
  obtain ⟨px, np⟩ := hW.pp
  have pn := Ne.symm np
  have xp := Ne.symm px
  obtain ⟨w8, w9⟩ := hW.2.2.2.2.2.2.2.1
  obtain ⟨hT, hT8⟩ := hO.T8
  obtain ⟨hBt, hB4⟩ := hO.B4
  refine r_aload_n qX4_pass_0 rfl ?_
  refine r_iload_n qX4_pass_1 rfl ?_
  refine r_i2l qX4_pass_2 ?_
  refine r_lconst (v := 1) qX4_pass_3 (by decide) ?_
  refine r_ldc2 qX4_pass_4 lX4_440 ?_
  refine r_cs3 (cu2 := 0) (su2 := 0) qX4_pass_7 kX4_276 rfl (by decide +kernel) rfl rfl rfl rfl rfl ?_
  refine c_X4_in ?_
  show zR E _ _ X 10 _ _ _ _ _ _ _
  rw [zb_c (show _ ↔ (1 ≤ m.toInt ∧ m.toInt ≤ 300) by rw [Int32.toInt_toInt64]; exact Iff.rfl)]
  refine r_cv1 (cu2 := 0) (su2 := 0) qX4_pass_10 kX4_371 rfl (by decide +kernel) (c := 4) (by assumption) (by decide) rfl rfl rfl rfl rfl rfl ?_
  refine c_X4_passes1 (by first | assumption | omega | rfl | decide) ?_
  show zR E _ _ X 13 _ _ _ _ _ _ _
  generalize hi : wA i x (upd (i x) 0 (c3 (1 ≤ m.toInt ∧ m.toInt ≤ 300) True True)) = i'
  have ex : i' x = upd (i x) 0 (c3 (1 ≤ m.toInt ∧ m.toInt ≤ 300) True True) := by rw [← hi, wA_s]
  have eo : ∀ r, r ≠ x → i' r = i r := fun r hr => by rw [← hi]; exact wA_n hr
  clear hi
  refine r_if_ne (t := 18) qX4_pass_13 (by decide) (fun hc13 => ?_) (fun hc13 => ?_)
  · have hv := zb_ne.mp hc13; clear hc13 hK0; replace hK1 := hK1 hv; rw [c3_0 hv trivial trivial] at ex
    obtain ⟨em, hm⟩ := nn_nat (b := 300) (show 0 ≤ m.toInt ∧ m.toInt ≤ (300 : Nat) from ⟨by omega, hv.2⟩); clear hv; generalize zn m = l at *; subst em
    refine r_aload_n qX4_pass_18 rfl ?_
    refine r_cv0 (cu2 := 0) (su2 := 0) qX4_pass_19 kX4_384 rfl (by decide +kernel) (c := 4) (by assumption) (by decide) rfl rfl rfl rfl rfl rfl ?_
    refine c_X4_remember hW (c := c) (by rw [ex, pk_un (by decide)]; exact hc) hcl (fun i2 r1 r2 r3 => ?_)
    show zR E _ _ X 22 _ _ _ _ _ _ _
    rw [ex] at r1; rw [eo p px, eo n nx] at r2; have rn : i2 n = i n := by rw [r3 n nx np, eo n nx]
    have ro : ∀ r, r ≠ x → r ≠ p → i2 r = i r := fun r h1 h2 => by rw [r3 r h1 h2]; exact eo r h1
    refine r_aload_n qX4_pass_22 rfl ?_
    refine r_cv0 (cu2 := 0) (su2 := 0) qX4_pass_23 kX4_451 rfl (by decide +kernel) (c := 4) (by assumption) (by decide) rfl rfl rfl rfl rfl rfl ?_
    refine c_X4_lostAll hM' (by rw [rn]; exact hO.S5.1) (by rw [rn]; exact hO.S5.2) ?_
    show zR E _ _ X 26 _ _ _ _ _ _ _
    rw [rn]
    refine r_is_3_2 qX4_pass_26 rfl rfl ?_
    refine r_aload_n qX4_pass_27 rfl ?_
    refine r_iload_n qX4_pass_28 rfl ?_
    refine r_cv1 (cu2 := 0) (su2 := 0) qX4_pass_29 kX4_140 rfl (by decide +kernel) (c := 4) (by assumption) (by decide) rfl rfl rfl rfl rfl rfl ?_
    refine c_X4_walk hM' (by rw [rn]; exact hO) (by omega) ?_
    show zR E _ _ X 32 _ _ _ _ _ _ _
    rw [rn]
    refine r_aload_n qX4_pass_32 rfl ?_
    refine r_cv0 (cu2 := 0) (su2 := 0) qX4_pass_33 kX4_451 rfl (by decide +kernel) (c := 4) (by assumption) (by decide) rfl rfl rfl rfl rfl rfl ?_
    refine c_X4_lostAll hM' (by rw [wA_s]; exact (sWalk_ok hO l).1.S5.1) (by rw [wA_s]; exact (sWalk_ok hO l).1.S5.2) ?_
    show zR E _ _ X 36 _ _ _ _ _ _ _
    rw [wA_s, sWalk_3 hO l]
    refine r_iload_n qX4_pass_36 rfl ?_
    refine r_isub qX4_pass_37 ?_
    refine r_iret qX4_pass_38 rfl rfl rfl rfl ?_
    exact hK1 _ (by first | exact r1 | (rw [wA_n xn]; exact r1)) (by first | exact r2 | (rw [wA_n pn]; exact r2)) (by first | exact rn | rw [wA_s]) (fun r h1 h2 h3 => by first | (rw [wA_n h3]; exact ro r h1 h2) | exact ro r h1 h2)
  · have hv := zb_0.mp hc13; replace hK0 := hK0 hv
    refine r_iconst (v := nI 0) qX4_pass_16 (by decide) ?_
    refine r_iret qX4_pass_17 rfl rfl rfl rfl ?_
    exact hK0 _ ex eo
set_option maxHeartbeats 4000000 in
set_option maxRecDepth 20000 in
theorem c_X4_setLeaky {E : Ev} {g : Sh} {i : Ni} {j : Nj} {K : Kp} {x n d b p s o c : Nat} {t : Int32} {B : Prop} {dB : Decidable B} (hB : zB g i x n d b p s o) (hc : i x 29 = nI c) (hcl : c ≤ 6) (hK0 : ¬ (tv (i n 5) t) → ∀ i' : Ni, i' x = upd (i x) 0 (c3 (tv (i n 5) t) True True) → (∀ r, r ≠ x → i' r = i r) → K (.inl (some (.int (nI 0)))) g i' j) (hK1 : (tv (i n 5) t) → ∀ i' : Ni, i' x = upd (upd (i x) 0 (nI 0)) 29 (nI (if c = 6 then 6 else c + 1)) → i' p = sRem (i p) (i n) c → i' n = upd (i n) (42 + 21 * zn t + 6) (zb B) → (∀ r, r ≠ x → r ≠ p → r ≠ n → i' r = i r) → K (.inl (some (.int (zb (i n (42 + 21 * zn t + 6) = nI 1))))) g i' j) : zCon E mX4_setLeaky [.ref x, .int t, .int (zb B)] g i j K := by
  refine zcon_of (by decide +kernel) rfl rfl (lo := [.ref x, .int t, .int (zb B), zJ]) rfl (fun X => ?_)
  have hB' := hB
  obtain ⟨hW, hR3, hO⟩ := hB
  have w1 := hW.1
  have w2 := hW.2.1
  have nx := hW.nx
  have xn := Ne.symm nx
  have hM' := hW.m hR3
  obtain ⟨px, np⟩ := hW.pp
  have pn := Ne.symm np
  have xp := Ne.symm px
  obtain ⟨w8, w9⟩ := hW.2.2.2.2.2.2.2.1
  obtain ⟨hT, hT8⟩ := hO.T8
  obtain ⟨hBt, hB4⟩ := hO.B4
  refine r_aload_n qX4_setLeaky_0 rfl ?_
  refine r_aload_n qX4_setLeaky_1 rfl ?_
  refine r_iload_n qX4_setLeaky_2 rfl ?_
  refine r_cv1 (cu2 := 0) (su2 := 0) qX4_setLeaky_3 kX4_396 rfl (by decide +kernel) (c := 4) (by assumption) (by decide) rfl rfl rfl rfl rfl rfl ?_
  refine c_X4_hasTube (by first | assumption | omega | rfl | decide) (by first | assumption | omega | rfl | decide) (by first | assumption | omega | rfl | decide) ?_
  show zR E _ _ X 6 _ _ _ _ _ _ _
  refine r_cv1 (cu2 := 0) (su2 := 0) qX4_setLeaky_6 kX4_371 rfl (by decide +kernel) (c := 4) (by assumption) (by decide) rfl rfl rfl rfl rfl rfl ?_
  refine c_X4_passes1 (by first | assumption | omega | rfl | decide) ?_
  show zR E _ _ X 9 _ _ _ _ _ _ _
  generalize hi : wA i x (upd (i x) 0 (c3 (tv (i n 5) t) True True)) = i'
  have ex : i' x = upd (i x) 0 (c3 (tv (i n 5) t) True True) := by rw [← hi, wA_s]
  have eo : ∀ r, r ≠ x → i' r = i r := fun r hr => by rw [← hi]; exact wA_n hr
  clear hi
  refine r_if_ne (t := 14) qX4_setLeaky_9 (by decide) (fun hc9 => ?_) (fun hc9 => ?_)
  · have hv := zb_ne.mp hc9; clear hc9 hK0; replace hK1 := hK1 hv; rw [c3_0 hv trivial trivial] at ex
    have hv1 := hv; clear hv
    obtain ⟨ek, hk⟩ := tv_nat hv1; generalize zn t = k at *; subst ek; have h8 := hO.k8 hk
    refine r_aload_n qX4_setLeaky_14 rfl ?_
    refine r_cv0 (cu2 := 0) (su2 := 0) qX4_setLeaky_15 kX4_384 rfl (by decide +kernel) (c := 4) (by assumption) (by decide) rfl rfl rfl rfl rfl rfl ?_
    refine c_X4_remember hW (c := c) (by rw [ex, pk_un (by decide)]; exact hc) hcl (fun i2 r1 r2 r3 => ?_)
    show zR E _ _ X 18 _ _ _ _ _ _ _
    rw [ex] at r1; rw [eo p px, eo n nx] at r2; have rn : i2 n = i n := by rw [r3 n nx np, eo n nx]
    have ro : ∀ r, r ≠ x → r ≠ p → i2 r = i r := fun r h1 h2 => by rw [r3 r h1 h2]; exact eo r h1
    refine r_aload_n qX4_setLeaky_18 rfl ?_
    refine r_iload_n qX4_setLeaky_19 rfl ?_
    refine r_bipush (v := nI 6) qX4_setLeaky_20 (by decide) ?_
    refine r_cv2 (cu2 := 0) (su2 := 0) qX4_setLeaky_22 kX4_148 rfl (by decide +kernel) (c := 4) (by assumption) (by decide) rfl rfl rfl rfl rfl rfl ?_
    refine c_X4_of (by first | assumption | omega | rfl | decide) (by first | assumption | omega | rfl | decide) ?_
    show zR E _ _ X 25 _ _ _ _ _ _ _
    rw [rn]
    refine r_iconst (v := nI 1) qX4_setLeaky_25 (by decide) ?_
    refine r_icmp_ne (t := 33) qX4_setLeaky_26 (by decide) (fun hc26 => ?_) (fun hc26 => ?_)
    · refine r_iconst (v := nI 0) qX4_setLeaky_33 (by decide) ?_
      refine r_is_4_3 qX4_setLeaky_34 rfl rfl ?_
      refine r_aload_n qX4_setLeaky_35 rfl ?_
      refine r_iload_n qX4_setLeaky_36 rfl ?_
      refine r_bipush (v := nI 6) qX4_setLeaky_37 (by decide) ?_
      refine r_iload_n qX4_setLeaky_39 rfl ?_
      refine r_if_eq (t := 47) qX4_setLeaky_40 (by decide) (fun hc40 => ?_) (fun hc40 => ?_)
      · refine r_iconst (v := nI 0) qX4_setLeaky_47 (by decide) ?_
        refine r_cv3 (cu2 := 0) (su2 := 0) qX4_setLeaky_48 kX4_137 rfl (by decide +kernel) (c := 4) (by assumption) (by decide) rfl rfl rfl rfl rfl rfl ?_
        refine c_X4_set0 (by first | assumption | omega | rfl | decide) (by first | assumption | omega | rfl | decide) ?_
        show zR E _ _ X 51 _ _ _ _ _ _ _
        rw [rn]
        refine r_iload_n qX4_setLeaky_51 rfl ?_
        refine r_iret qX4_setLeaky_52 rfl (by first | decide | exact zb_nar _ | assumption) rfl rfl ?_
        (first | rw [zb_f hc26] at hK1 | rw [zb_t hc26] at hK1); (first | rw [zb_t (zb_ne.mp hc40)] at hK1 | rw [zb_f (zb_0.mp hc40)] at hK1); exact hK1 _ (by first | exact r1 | (rw [wA_n xn]; exact r1)) (by first | exact r2 | (rw [wA_n pn]; exact r2)) (by first | exact rn | rw [wA_s]) (fun r h1 h2 h3 => by first | (rw [wA_n h3]; exact ro r h1 h2) | exact ro r h1 h2)
      · refine r_iconst (v := nI 1) qX4_setLeaky_43 (by decide) ?_
        refine r_goto (t := 48) qX4_setLeaky_44 (by decide) ?_
        refine r_cv3 (cu2 := 0) (su2 := 0) qX4_setLeaky_48 kX4_137 rfl (by decide +kernel) (c := 4) (by assumption) (by decide) rfl rfl rfl rfl rfl rfl ?_
        refine c_X4_set0 (by first | assumption | omega | rfl | decide) (by first | assumption | omega | rfl | decide) ?_
        show zR E _ _ X 51 _ _ _ _ _ _ _
        rw [rn]
        refine r_iload_n qX4_setLeaky_51 rfl ?_
        refine r_iret qX4_setLeaky_52 rfl (by first | decide | exact zb_nar _ | assumption) rfl rfl ?_
        (first | rw [zb_f hc26] at hK1 | rw [zb_t hc26] at hK1); (first | rw [zb_t (zb_ne.mp hc40)] at hK1 | rw [zb_f (zb_0.mp hc40)] at hK1); exact hK1 _ (by first | exact r1 | (rw [wA_n xn]; exact r1)) (by first | exact r2 | (rw [wA_n pn]; exact r2)) (by first | exact rn | rw [wA_s]) (fun r h1 h2 h3 => by first | (rw [wA_n h3]; exact ro r h1 h2) | exact ro r h1 h2)
    · refine r_iconst (v := nI 1) qX4_setLeaky_29 (by decide) ?_
      refine r_goto (t := 34) qX4_setLeaky_30 (by decide) ?_
      refine r_is_4_3 qX4_setLeaky_34 rfl rfl ?_
      refine r_aload_n qX4_setLeaky_35 rfl ?_
      refine r_iload_n qX4_setLeaky_36 rfl ?_
      refine r_bipush (v := nI 6) qX4_setLeaky_37 (by decide) ?_
      refine r_iload_n qX4_setLeaky_39 rfl ?_
      refine r_if_eq (t := 47) qX4_setLeaky_40 (by decide) (fun hc40 => ?_) (fun hc40 => ?_)
      · refine r_iconst (v := nI 0) qX4_setLeaky_47 (by decide) ?_
        refine r_cv3 (cu2 := 0) (su2 := 0) qX4_setLeaky_48 kX4_137 rfl (by decide +kernel) (c := 4) (by assumption) (by decide) rfl rfl rfl rfl rfl rfl ?_
        refine c_X4_set0 (by first | assumption | omega | rfl | decide) (by first | assumption | omega | rfl | decide) ?_
        show zR E _ _ X 51 _ _ _ _ _ _ _
        rw [rn]
        refine r_iload_n qX4_setLeaky_51 rfl ?_
        refine r_iret qX4_setLeaky_52 rfl (by first | decide | exact zb_nar _ | assumption) rfl rfl ?_
        (first | rw [zb_f hc26] at hK1 | rw [zb_t hc26] at hK1); (first | rw [zb_t (zb_ne.mp hc40)] at hK1 | rw [zb_f (zb_0.mp hc40)] at hK1); exact hK1 _ (by first | exact r1 | (rw [wA_n xn]; exact r1)) (by first | exact r2 | (rw [wA_n pn]; exact r2)) (by first | exact rn | rw [wA_s]) (fun r h1 h2 h3 => by first | (rw [wA_n h3]; exact ro r h1 h2) | exact ro r h1 h2)
      · refine r_iconst (v := nI 1) qX4_setLeaky_43 (by decide) ?_
        refine r_goto (t := 48) qX4_setLeaky_44 (by decide) ?_
        refine r_cv3 (cu2 := 0) (su2 := 0) qX4_setLeaky_48 kX4_137 rfl (by decide +kernel) (c := 4) (by assumption) (by decide) rfl rfl rfl rfl rfl rfl ?_
        refine c_X4_set0 (by first | assumption | omega | rfl | decide) (by first | assumption | omega | rfl | decide) ?_
        show zR E _ _ X 51 _ _ _ _ _ _ _
        rw [rn]
        refine r_iload_n qX4_setLeaky_51 rfl ?_
        refine r_iret qX4_setLeaky_52 rfl (by first | decide | exact zb_nar _ | assumption) rfl rfl ?_
        (first | rw [zb_f hc26] at hK1 | rw [zb_t hc26] at hK1); (first | rw [zb_t (zb_ne.mp hc40)] at hK1 | rw [zb_f (zb_0.mp hc40)] at hK1); exact hK1 _ (by first | exact r1 | (rw [wA_n xn]; exact r1)) (by first | exact r2 | (rw [wA_n pn]; exact r2)) (by first | exact rn | rw [wA_s]) (fun r h1 h2 h3 => by first | (rw [wA_n h3]; exact ro r h1 h2) | exact ro r h1 h2)
  · have hv := zb_0.mp hc9; replace hK0 := hK0 hv
    refine r_iconst (v := nI 0) qX4_setLeaky_12 (by decide) ?_
    refine r_iret qX4_setLeaky_13 rfl (by first | decide | exact zb_nar _ | assumption) rfl rfl ?_
    exact hK0 _ ex eo

