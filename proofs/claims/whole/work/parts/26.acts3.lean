/-! ===== THE MODEL: save, restore, undo ===== -/
theorem zW.ss {g : Sh} {x n d b p s o : Nat} (h : zW g x n d b p s o) : s ≠ x ∧ n ≠ s ∧ p ≠ s := by
  obtain ⟨w1, -, -, -, -, -, -, -, -, -, -, ⟨w8, -⟩, -, -, -, w9, -, -, -, -, w10, -⟩ := h
  refine ⟨?_, w9, w10⟩
  rintro rfl
  omega
set_option maxHeartbeats 4000000 in
set_option maxRecDepth 20000 in
theorem c_X4_save {E : Ev} {g : Sh} {i : Ni} {j : Nj} {K : Kp} {x n d b p s o : Nat} {v : Int32} (hB : zB g i x n d b p s o) (hK0 : ¬ (0 ≤ v.toInt ∧ v.toInt ≤ 1) → ∀ i' : Ni, i' x = upd (i x) 0 (c3 (0 ≤ v.toInt ∧ v.toInt ≤ 1) True True) → (∀ r, r ≠ x → i' r = i r) → K (.inl (some (.int (nI 0)))) g i' j) (hK1 : (0 ≤ v.toInt ∧ v.toInt ≤ 1) → ∀ i' : Ni, i' x = upd (upd (i x) 0 (nI 0)) 31 (i x 31 ||| (nI 1 <<< (v &&& 31))) → i' s = yput (i s) (i n) (210 * zn v) 210 → (∀ r, r ≠ x → r ≠ s → i' r = i r) → K (.inl (some (.int (i n 2)))) g i' j) : zCon E mX4_save [.ref x, .int v] g i j K := by
  refine zcon_of (by decide +kernel) rfl rfl (lo := [.ref x, .int v, zJ]) rfl (fun X => ?_)
  have hB' := hB
  obtain ⟨hW, hR3, hO⟩ := hB
  have w1 := hW.1
  have w2 := hW.2.1
  have nx := hW.nx
  have xn := Ne.symm nx
  have hM' := hW.m hR3
  obtain ⟨px, np⟩ := hW.pp
  have pn := Ne.symm np
  have xp := Ne.symm px
  obtain ⟨w8, w9⟩ := hW.2.2.2.2.2.2.2.1
  obtain ⟨hT, hT8⟩ := hO.T8
  obtain ⟨hBt, hB4⟩ := hO.B4
  obtain ⟨sx, ns, ps⟩ := hW.ss
  have sn := Ne.symm ns
  have sp := Ne.symm ps
  have xs := Ne.symm sx
  have w6 := hW.2.2.2.2.2.1
  have w5 := hW.2.2.2.2.1
  obtain ⟨ws1, ws2⟩ := hW.2.2.2.2.2.2.2.2.2.2.2.1
  obtain ⟨wp1, wp2⟩ := hW.2.2.2.2.2.2.2.2.2.2.1
  have KL : ∀ (i' : Ni) (k : Nat), k ≤ 1 → i' x = upd (i x) 0 (nI 0) → (∀ r, r ≠ x → i' r = i r) → (∀ i' : Ni, i' x = upd (upd (i x) 0 (nI 0)) 31 (i x 31 ||| (nI 1 <<< (nI k &&& 31))) → i' s = yput (i s) (i n) (210 * k) 210 → (∀ r, r ≠ x → r ≠ s → i' r = i r) → K (.inl (some (.int (i n 2)))) g i' j) → ∀ q m : Nat, q = 210 - m → m ≤ 210 → zR E mX4_save (zZ E mX4_save K) X 18 [.ref x, .int (nI k), .int (nI m)] [] g (wA i' s (yput (i s) (i n) (210 * k) m)) j 0 0 := by
    intro i' k hk1 ex eo hK q
    induction q with
    | zero =>
      intro m hm hm2
      obtain rfl : m = 210 := by omega
      refine r_iload_n qX4_save_18 rfl ?_
      refine r_sipush (v := nI 210) qX4_save_19 (by decide) ?_
      refine r_icmp_ge (t := 49) qX4_save_22 (by decide) (fun hc22 => ?_) (fun hc22 => absurd hc22 (fun h => h (nI_le (by omega) (by omega))))
      refine r_aload_n qX4_save_49 rfl ?_
      refine r_dup qX4_save_50 rfl ?_
      refine r_geti qX4_save_51 fX4_460 rfl (by assumption) ?_
      rw [wA_n xs, ex, pk_un (by omega)]
      refine r_iconst (v := nI 1) qX4_save_54 (by decide) ?_
      refine r_iload_n qX4_save_55 rfl ?_
      refine r_ishl qX4_save_56 ?_
      refine r_ior qX4_save_57 ?_
      refine r_puti qX4_save_58 fX4_460 (Or.inl rfl) rfl rfl rfl (by assumption) ?_
      refine r_aload_n qX4_save_61 rfl ?_
      refine r_getr qX4_save_62 fX4_17 rfl (by assumption) (by first | assumption | rfl) ?_
      refine r_iconst (v := nI 2) qX4_save_65 (by decide) ?_
      refine r_ialdN qX4_save_66 (by assumption) (by assumption) (by omega) rfl ?_
      rw [wA_n nx, wA_n ns, eo n nx]
      refine r_iret qX4_save_67 rfl rfl rfl rfl ?_
      exact hK _ (by rw [wA_s, wA_n xs, ex]) (by rw [wA_n sx, wA_s]) (fun r h1 h2 => by rw [wA_n h1, wA_n h2]; exact eo r h1)
    | succ q ih =>
      intro m hm hm2
      refine r_iload_n qX4_save_18 rfl ?_
      refine r_sipush (v := nI 210) qX4_save_19 (by decide) ?_
      refine r_icmp_ge (t := 49) qX4_save_22 (by decide) (fun hc22 => absurd hc22 (nI_ge (by omega) (by omega))) (fun hc22 => ?_)
      refine r_aload_n qX4_save_25 rfl ?_
      refine r_getr qX4_save_26 fX4_109 rfl (by assumption) (by first | assumption | rfl) ?_
      refine r_sipush (v := nI 210) qX4_save_29 (by decide) ?_
      refine r_iload_n qX4_save_32 rfl ?_
      first | with_reducible refine r_imulN qX4_save_33 ?_ | refine r_imul qX4_save_33 ?_
      refine r_iload_n qX4_save_34 rfl ?_
      first | with_reducible refine r_iaddN qX4_save_35 ?_ | refine r_iadd qX4_save_35 ?_
      refine r_aload_n qX4_save_36 rfl ?_
      refine r_getr qX4_save_37 fX4_17 rfl (by assumption) (by first | assumption | rfl) ?_
      refine r_iload_n qX4_save_40 rfl ?_
      refine r_ialdN qX4_save_41 (by assumption) (by assumption) (by omega) rfl ?_
      rw [wA_n ns, eo n nx]
      refine r_iastN qX4_save_42 (by assumption) (by assumption) (by omega) rfl ?_
      simp only [wA_s, wA_wA]; rw [yput_s]
      refine r_ii_3_2 qX4_save_43 rfl rfl (nI_inc m) ?_
      refine r_goto (t := 18) qX4_save_46 (by decide) ?_
      exact ih (m + 1) (by omega) (by omega)
  refine r_aload_n qX4_save_0 rfl ?_
  refine r_iload_n qX4_save_1 rfl ?_
  refine r_i2l qX4_save_2 ?_
  refine r_lconst (v := 0) qX4_save_3 (by decide) ?_
  refine r_lconst (v := 1) qX4_save_4 (by decide) ?_
  refine r_cs3 (cu2 := 0) (su2 := 0) qX4_save_5 kX4_276 rfl (by decide +kernel) rfl rfl rfl rfl rfl ?_
  refine c_X4_in ?_
  show zR E _ _ X 8 _ _ _ _ _ _ _
  rw [zb_c (show ((0 : Int64).toInt ≤ v.toInt64.toInt ∧ v.toInt64.toInt ≤ (1 : Int64).toInt) ↔ (0 ≤ v.toInt ∧ v.toInt ≤ 1) by rw [Int32.toInt_toInt64]; exact Iff.rfl)]
  refine r_cv1 (cu2 := 0) (su2 := 0) qX4_save_8 kX4_371 rfl (by decide +kernel) (c := 4) (by assumption) (by decide) rfl rfl rfl rfl rfl rfl ?_
  refine c_X4_passes1 (by first | assumption | omega | rfl | decide) ?_
  show zR E _ _ X 11 _ _ _ _ _ _ _
  generalize hi : wA i x (upd (i x) 0 (c3 (0 ≤ v.toInt ∧ v.toInt ≤ 1) True True)) = i'
  have ex : i' x = upd (i x) 0 (c3 (0 ≤ v.toInt ∧ v.toInt ≤ 1) True True) := by rw [← hi, wA_s]
  have eo : ∀ r, r ≠ x → i' r = i r := fun r hr => by rw [← hi]; exact wA_n hr
  clear hi
  refine r_if_ne (t := 16) qX4_save_11 (by decide) (fun hc11 => ?_) (fun hc11 => ?_)
  · have hv := zb_ne.mp hc11; replace hK1 := hK1 hv; rw [c3_0 hv trivial trivial] at ex
    obtain ⟨e, hk⟩ := nn_nat (b := 1) hv; clear hv hc11 hK0; generalize zn v = k at *; subst e
    refine r_iconst (v := nI 0) qX4_save_16 (by decide) ?_
    refine r_is_3_2 qX4_save_17 rfl rfl ?_
    have z := KL i' k hk ex eo hK1 210 0 (by omega) (by omega); rw [yput_0, wA_id (eo s sx)] at z; exact z
  · have hv := zb_0.mp hc11; replace hK0 := hK0 hv
    refine r_iconst (v := nI 0) qX4_save_14 (by decide) ?_
    refine r_iret qX4_save_15 rfl rfl rfl rfl ?_
    exact hK0 _ ex eo
set_option maxHeartbeats 4000000 in
set_option maxRecDepth 20000 in
theorem c_X4_restore {E : Ev} {g : Sh} {i : Ni} {j : Nj} {K : Kp} {x n d b p s o c : Nat} {v : Int32} (hB : zB g i x n d b p s o) (hc : i x 29 = nI c) (hcl : c ≤ 6) (hK0 : ¬ ((0 ≤ v.toInt ∧ v.toInt ≤ 1) ∧ ((0 ≤ v.toInt ∧ v.toInt ≤ 1) ∧ (i x 31 >>> (v &&& 31)) &&& nI 1 = nI 1)) → ∀ i' : Ni, i' x = upd (i x) 0 (c3 (0 ≤ v.toInt ∧ v.toInt ≤ 1) ((0 ≤ v.toInt ∧ v.toInt ≤ 1) ∧ (i x 31 >>> (v &&& 31)) &&& nI 1 = nI 1) True) → (∀ r, r ≠ x → i' r = i r) → K (.inl (some (.int (nI 0)))) g i' j) (hK1 : ((0 ≤ v.toInt ∧ v.toInt ≤ 1) ∧ ((0 ≤ v.toInt ∧ v.toInt ≤ 1) ∧ (i x 31 >>> (v &&& 31)) &&& nI 1 = nI 1)) → ∀ i' : Ni, i' x = upd (upd (i x) 0 (nI 0)) 29 (nI (if c = 6 then 6 else c + 1)) → i' p = sRem (i p) (i n) c → i' n = (fun a => i s (210 * zn v + a)) → (∀ r, r ≠ x → r ≠ p → r ≠ n → i' r = i r) → K (.inl (some (.int (i s (210 * zn v + 2))))) g i' j) : zCon E mX4_restore [.ref x, .int v] g i j K := by
  refine zcon_of (by decide +kernel) rfl rfl (lo := [.ref x, .int v, zJ, zJ]) rfl (fun X => ?_)
  have hB' := hB
  obtain ⟨hW, hR3, hO⟩ := hB
  have w1 := hW.1
  have w2 := hW.2.1
  have nx := hW.nx
  have xn := Ne.symm nx
  have hM' := hW.m hR3
  obtain ⟨px, np⟩ := hW.pp
  have pn := Ne.symm np
  have xp := Ne.symm px
  obtain ⟨w8, w9⟩ := hW.2.2.2.2.2.2.2.1
  obtain ⟨hT, hT8⟩ := hO.T8
  obtain ⟨hBt, hB4⟩ := hO.B4
  obtain ⟨sx, ns, ps⟩ := hW.ss
  have sn := Ne.symm ns
  have sp := Ne.symm ps
  have xs := Ne.symm sx
  have w6 := hW.2.2.2.2.2.1
  have w5 := hW.2.2.2.2.1
  obtain ⟨ws1, ws2⟩ := hW.2.2.2.2.2.2.2.2.2.2.2.1
  obtain ⟨wp1, wp2⟩ := hW.2.2.2.2.2.2.2.2.2.2.1
  have KL : ∀ (i2 : Ni) (k : Nat), k ≤ 1 → i2 x = upd (upd (i x) 0 (nI 0)) 29 (nI (if c = 6 then 6 else c + 1)) → i2 p = sRem (i p) (i n) c → i2 n = i n → (∀ r, r ≠ x → r ≠ p → i2 r = i r) →
      (∀ i' : Ni, i' x = upd (upd (i x) 0 (nI 0)) 29 (nI (if c = 6 then 6 else c + 1)) → i' p = sRem (i p) (i n) c → i' n = (fun a => i s (210 * k + a)) → (∀ r, r ≠ x → r ≠ p → r ≠ n → i' r = i r) → K (.inl (some (.int (i s (210 * k + 2))))) g i' j) → ∀ q m : Nat, ∀ bb : Int32, q = 210 - m → m ≤ 210 → zR E mX4_restore (zZ E mX4_restore K) X 45 [.ref x, .int (nI k), .int bb, .int (nI m)] [] g (wA i2 n (ycp (fun a => i s (210 * k + a)) (i n) m)) j 0 0 := by
    intro i2 k hk1 r1 r2 rn ro hK q
    induction q with
    | zero =>
      intro m bb hm hm2
      obtain rfl : m = 210 := by omega
      refine r_iload_n qX4_restore_45 rfl ?_
      refine r_sipush (v := nI 210) qX4_restore_46 (by decide) ?_
      refine r_icmp_ge (t := 76) qX4_restore_49 (by decide) (fun hc49 => ?_) (fun hc49 => absurd hc49 (fun h => h (nI_le (by omega) (by omega))))
      refine r_ext (r := n) (f := fun a => i s (210 * k + a)) w8 (fun a ha => by rw [wA_s, ycp, if_pos (by omega)]) ?_; simp only [wA_wA]
      refine r_aload_n qX4_restore_76 rfl ?_
      refine r_getr qX4_restore_77 fX4_17 rfl (by assumption) (by first | assumption | rfl) ?_
      refine r_iconst (v := nI 2) qX4_restore_80 (by decide) ?_
      refine r_ialdN qX4_restore_81 (by assumption) (by assumption) (by omega) rfl ?_
      rw [wA_s]
      refine r_iret qX4_restore_82 rfl rfl rfl rfl ?_
      exact hK _ (by rw [wA_n xn]; exact r1) (by rw [wA_n pn]; exact r2) (by rw [wA_s]) (fun r h1 h2 h3 => by rw [wA_n h3]; exact ro r h1 h2)
    | succ q ih =>
      intro m bb hm hm2
      refine r_iload_n qX4_restore_45 rfl ?_
      refine r_sipush (v := nI 210) qX4_restore_46 (by decide) ?_
      refine r_icmp_ge (t := 76) qX4_restore_49 (by decide) (fun hc49 => absurd hc49 (nI_ge (by omega) (by omega))) (fun hc49 => ?_)
      refine r_aload_n qX4_restore_52 rfl ?_
      refine r_getr qX4_restore_53 fX4_17 rfl (by assumption) (by first | assumption | rfl) ?_
      refine r_iload_n qX4_restore_56 rfl ?_
      refine r_aload_n qX4_restore_57 rfl ?_
      refine r_getr qX4_restore_58 fX4_109 rfl (by assumption) (by first | assumption | rfl) ?_
      refine r_sipush (v := nI 210) qX4_restore_61 (by decide) ?_
      refine r_iload_n qX4_restore_64 rfl ?_
      first | with_reducible refine r_imulN qX4_restore_65 ?_ | refine r_imul qX4_restore_65 ?_
      refine r_iload_n qX4_restore_66 rfl ?_
      first | with_reducible refine r_iaddN qX4_restore_67 ?_ | refine r_iadd qX4_restore_67 ?_
      refine r_ialdN qX4_restore_68 (by assumption) (by assumption) (by omega) rfl ?_
      rw [wA_n sn, ro s sx sp]
      refine r_iastN qX4_restore_69 (by assumption) (by assumption) (by omega) rfl ?_
      simp only [wA_s, wA_wA]; rw [ycp_s (f := fun a => i s (210 * k + a))]
      refine r_ii_4_3 qX4_restore_70 rfl rfl (nI_inc m) ?_
      refine r_goto (t := 45) qX4_restore_73 (by decide) ?_
      exact ih (m + 1) bb (by omega) (by omega)
  have KP : zR E mX4_restore (zZ E mX4_restore K) X 31 [.ref x, .int v, .int (zb (0 ≤ v.toInt ∧ v.toInt ≤ 1)), zJ] [.int (zb ((0 ≤ v.toInt ∧ v.toInt ≤ 1) ∧ (i x 31 >>> (v &&& 31)) &&& nI 1 = nI 1)), .int (zb (0 ≤ v.toInt ∧ v.toInt ≤ 1)), .ref x] g i j 0 0 := by
    refine r_cv2 (cu2 := 0) (su2 := 0) qX4_restore_31 kX4_409 rfl (by decide +kernel) (c := 4) (by assumption) (by decide) rfl rfl rfl rfl rfl rfl ?_
    refine c_X4_passes2 (by first | assumption | omega | rfl | decide) ?_
    show zR E _ _ X 34 _ _ _ _ _ _ _
    generalize hi : wA i x (upd (i x) 0 (c3 (0 ≤ v.toInt ∧ v.toInt ≤ 1) ((0 ≤ v.toInt ∧ v.toInt ≤ 1) ∧ (i x 31 >>> (v &&& 31)) &&& nI 1 = nI 1) True)) = i'
    have ex : i' x = upd (i x) 0 (c3 (0 ≤ v.toInt ∧ v.toInt ≤ 1) ((0 ≤ v.toInt ∧ v.toInt ≤ 1) ∧ (i x 31 >>> (v &&& 31)) &&& nI 1 = nI 1) True) := by rw [← hi, wA_s]
    have eo : ∀ r, r ≠ x → i' r = i r := fun r hr => by rw [← hi]; exact wA_n hr
    clear hi
    refine r_if_ne (t := 39) qX4_restore_34 (by decide) (fun hc34 => ?_) (fun hc34 => ?_)
    · have hv := zb_ne.mp hc34; replace hK1 := hK1 hv; rw [c3_0 hv.1 hv.2 trivial] at ex
      obtain ⟨e, hk⟩ := nn_nat (b := 1) hv.1; generalize zb (0 ≤ v.toInt ∧ v.toInt ≤ 1) = bb; clear hv hc34 hK0; generalize zn v = k at *; subst e
      refine r_aload_n qX4_restore_39 rfl ?_
      refine r_cv0 (cu2 := 0) (su2 := 0) qX4_restore_40 kX4_384 rfl (by decide +kernel) (c := 4) (by assumption) (by decide) rfl rfl rfl rfl rfl rfl ?_
      refine c_X4_remember hW (c := c) (by rw [ex, pk_un (by decide)]; exact hc) hcl (fun i2 r1 r2 r3 => ?_)
      show zR E _ _ X 43 _ _ _ _ _ _ _
      rw [ex] at r1; rw [eo p px, eo n nx] at r2; have rn : i2 n = i n := by rw [r3 n nx np, eo n nx]
      have ro : ∀ r, r ≠ x → r ≠ p → i2 r = i r := fun r h1 h2 => by rw [r3 r h1 h2]; exact eo r h1
      refine r_iconst (v := nI 0) qX4_restore_43 (by decide) ?_
      refine r_is_4_3 qX4_restore_44 rfl rfl ?_
      have z := KL i2 k hk r1 r2 rn ro hK1 210 0 bb (by omega) (by omega); rw [ycp_0, wA_id rn] at z; exact z
    · have hv := zb_0.mp hc34; replace hK0 := hK0 hv
      refine r_iconst (v := nI 0) qX4_restore_37 (by decide) ?_
      refine r_iret qX4_restore_38 rfl rfl rfl rfl ?_
      exact hK0 _ ex eo
  refine r_iload_n qX4_restore_0 rfl ?_
  refine r_i2l qX4_restore_1 ?_
  refine r_lconst (v := 0) qX4_restore_2 (by decide) ?_
  refine r_lconst (v := 1) qX4_restore_3 (by decide) ?_
  refine r_cs3 (cu2 := 0) (su2 := 0) qX4_restore_4 kX4_276 rfl (by decide +kernel) rfl rfl rfl rfl rfl ?_
  refine c_X4_in ?_
  show zR E _ _ X 7 _ _ _ _ _ _ _
  rw [zb_c (show ((0 : Int64).toInt ≤ v.toInt64.toInt ∧ v.toInt64.toInt ≤ (1 : Int64).toInt) ↔ (0 ≤ v.toInt ∧ v.toInt ≤ 1) by rw [Int32.toInt_toInt64]; exact Iff.rfl)]
  refine r_is_4_2 qX4_restore_7 rfl rfl ?_
  refine r_aload_n qX4_restore_8 rfl ?_
  refine r_iload_n qX4_restore_9 rfl ?_
  refine r_iload_n qX4_restore_10 rfl ?_
  refine r_if_eq (t := 30) qX4_restore_11 (by decide) (fun hc11 => ?_) (fun hc11 => ?_)
  · refine r_iconst (v := nI 0) qX4_restore_30 (by decide) ?_
    first | (rw [zb_f (p := (0 ≤ v.toInt ∧ v.toInt ≤ 1) ∧ (i x 31 >>> (v &&& 31)) &&& nI 1 = nI 1) (fun h => zb_0.mp hc11 h.1)] at KP; exact KP) | (rw [zb_f (p := (0 ≤ v.toInt ∧ v.toInt ≤ 1) ∧ (i x 31 >>> (v &&& 31)) &&& nI 1 = nI 1) (fun h => hc23 h.2)] at KP; exact KP) | (rw [zb_t (p := (0 ≤ v.toInt ∧ v.toInt ≤ 1) ∧ (i x 31 >>> (v &&& 31)) &&& nI 1 = nI 1) ⟨zb_ne.mp hc11, hc23⟩] at KP; exact KP)
  · refine r_aload_n qX4_restore_14 rfl ?_
    refine r_geti qX4_restore_15 fX4_460 rfl (by assumption) ?_
    refine r_iload_n qX4_restore_18 rfl ?_
    refine r_ishr qX4_restore_19 ?_
    refine r_iconst (v := nI 1) qX4_restore_20 (by decide) ?_
    refine r_iand qX4_restore_21 ?_
    refine r_iconst (v := nI 1) qX4_restore_22 (by decide) ?_
    refine r_icmp_ne (t := 30) qX4_restore_23 (by decide) (fun hc23 => ?_) (fun hc23 => ?_)
    · refine r_iconst (v := nI 0) qX4_restore_30 (by decide) ?_
      first | (rw [zb_f (p := (0 ≤ v.toInt ∧ v.toInt ≤ 1) ∧ (i x 31 >>> (v &&& 31)) &&& nI 1 = nI 1) (fun h => zb_0.mp hc11 h.1)] at KP; exact KP) | (rw [zb_f (p := (0 ≤ v.toInt ∧ v.toInt ≤ 1) ∧ (i x 31 >>> (v &&& 31)) &&& nI 1 = nI 1) (fun h => hc23 h.2)] at KP; exact KP) | (rw [zb_t (p := (0 ≤ v.toInt ∧ v.toInt ≤ 1) ∧ (i x 31 >>> (v &&& 31)) &&& nI 1 = nI 1) ⟨zb_ne.mp hc11, hc23⟩] at KP; exact KP)
    · refine r_iconst (v := nI 1) qX4_restore_26 (by decide) ?_
      refine r_goto (t := 31) qX4_restore_27 (by decide) ?_
      first | (rw [zb_f (p := (0 ≤ v.toInt ∧ v.toInt ≤ 1) ∧ (i x 31 >>> (v &&& 31)) &&& nI 1 = nI 1) (fun h => zb_0.mp hc11 h.1)] at KP; exact KP) | (rw [zb_f (p := (0 ≤ v.toInt ∧ v.toInt ≤ 1) ∧ (i x 31 >>> (v &&& 31)) &&& nI 1 = nI 1) (fun h => hc23 h.2)] at KP; exact KP) | (rw [zb_t (p := (0 ≤ v.toInt ∧ v.toInt ≤ 1) ∧ (i x 31 >>> (v &&& 31)) &&& nI 1 = nI 1) ⟨zb_ne.mp hc11, hc23⟩] at KP; exact KP)
set_option maxHeartbeats 4000000 in
set_option maxRecDepth 20000 in
theorem c_X4_undo {E : Ev} {g : Sh} {i : Ni} {j : Nj} {K : Kp} {x n d b p s o c : Nat} (hB : zB g i x n d b p s o) (hc : i x 29 = nI c) (hcl : c ≤ 6) (hK0 : ¬ (0 < c) → ∀ i' : Ni, i' x = upd (i x) 0 (c3 (0 < c) True True) → (∀ r, r ≠ x → i' r = i r) → K (.inl (some (.int (nI 0)))) g i' j) (hK1 : 0 < c → ∀ i' : Ni, i' x = upd (upd (i x) 0 (nI 0)) 29 (nI (c - 1)) → i' n = (fun a => i p (210 * (c - 1) + a)) → (∀ r, r ≠ x → r ≠ n → i' r = i r) → K (.inl (some (.int (nI (c - 1))))) g i' j) : zCon E mX4_undo [.ref x] g i j K := by
  refine zcon_of (by decide +kernel) rfl rfl (lo := [.ref x, zJ]) rfl (fun X => ?_)
  have hB' := hB
  obtain ⟨hW, hR3, hO⟩ := hB
  have w1 := hW.1
  have w2 := hW.2.1
  have nx := hW.nx
  have xn := Ne.symm nx
  have hM' := hW.m hR3
  obtain ⟨px, np⟩ := hW.pp
  have pn := Ne.symm np
  have xp := Ne.symm px
  obtain ⟨w8, w9⟩ := hW.2.2.2.2.2.2.2.1
  obtain ⟨hT, hT8⟩ := hO.T8
  obtain ⟨hBt, hB4⟩ := hO.B4
  obtain ⟨sx, ns, ps⟩ := hW.ss
  have sn := Ne.symm ns
  have sp := Ne.symm ps
  have xs := Ne.symm sx
  have w6 := hW.2.2.2.2.2.1
  have w5 := hW.2.2.2.2.1
  obtain ⟨ws1, ws2⟩ := hW.2.2.2.2.2.2.2.2.2.2.2.1
  obtain ⟨wp1, wp2⟩ := hW.2.2.2.2.2.2.2.2.2.2.1
  have KL : ∀ (i2 : Ni) (k : Nat), k ≤ 5 → i2 x = upd (upd (i x) 0 (nI 0)) 29 (nI k) → (∀ r, r ≠ x → i2 r = i r) →
      (∀ i' : Ni, i' x = upd (upd (i x) 0 (nI 0)) 29 (nI k) → i' n = (fun a => i p (210 * k + a)) → (∀ r, r ≠ x → r ≠ n → i' r = i r) → K (.inl (some (.int (nI k)))) g i' j) → ∀ q m : Nat, q = 210 - m → m ≤ 210 → zR E mX4_undo (zZ E mX4_undo K) X 33 [.ref x, .int (nI m)] [] g (wA i2 n (ycp (fun a => i p (210 * k + a)) (i n) m)) j 0 0 := by
    intro i2 k hk1 r1 ro hK q
    have r29 : i2 x 29 = nI k := by rw [r1, pk_us]
    induction q with
    | zero =>
      intro m hm hm2
      obtain rfl : m = 210 := by omega
      refine r_iload_n qX4_undo_33 rfl ?_
      refine r_sipush (v := nI 210) qX4_undo_34 (by decide) ?_
      refine r_icmp_ge (t := 67) qX4_undo_37 (by decide) (fun hc37 => ?_) (fun hc37 => absurd hc37 (fun h => h (nI_le (by omega) (by omega))))
      refine r_ext (r := n) (f := fun a => i p (210 * k + a)) w8 (fun a ha => by rw [wA_s, ycp, if_pos (by omega)]) ?_; simp only [wA_wA]
      refine r_aload_n qX4_undo_67 rfl ?_
      refine r_geti qX4_undo_68 fX4_368 rfl (by assumption) ?_
      rw [wA_n xn, r29]
      refine r_iret qX4_undo_71 rfl rfl rfl rfl ?_
      exact hK _ (by rw [wA_n xn]; exact r1) (by rw [wA_s]) (fun r h1 h3 => by rw [wA_n h3]; exact ro r h1)
    | succ q ih =>
      intro m hm hm2
      refine r_iload_n qX4_undo_33 rfl ?_
      refine r_sipush (v := nI 210) qX4_undo_34 (by decide) ?_
      refine r_icmp_ge (t := 67) qX4_undo_37 (by decide) (fun hc37 => absurd hc37 (nI_ge (by omega) (by omega))) (fun hc37 => ?_)
      refine r_aload_n qX4_undo_40 rfl ?_
      refine r_getr qX4_undo_41 fX4_17 rfl (by assumption) (by first | assumption | rfl) ?_
      refine r_iload_n qX4_undo_44 rfl ?_
      refine r_aload_n qX4_undo_45 rfl ?_
      refine r_getr qX4_undo_46 fX4_106 rfl (by assumption) (by first | assumption | rfl) ?_
      refine r_sipush (v := nI 210) qX4_undo_49 (by decide) ?_
      refine r_aload_n qX4_undo_52 rfl ?_
      refine r_geti qX4_undo_53 fX4_368 rfl (by assumption) ?_
      rw [wA_n xn, r29]
      first | with_reducible refine r_imulN qX4_undo_56 ?_ | refine r_imul qX4_undo_56 ?_
      refine r_iload_n qX4_undo_57 rfl ?_
      first | with_reducible refine r_iaddN qX4_undo_58 ?_ | refine r_iadd qX4_undo_58 ?_
      refine r_ialdN qX4_undo_59 (by assumption) (by assumption) (by omega) rfl ?_
      rw [wA_n pn, ro p px]
      refine r_iastN qX4_undo_60 (by assumption) (by assumption) (by omega) rfl ?_
      simp only [wA_s, wA_wA]; rw [ycp_s (f := fun a => i p (210 * k + a))]
      refine r_ii_2_1 qX4_undo_61 rfl rfl (nI_inc m) ?_
      refine r_goto (t := 33) qX4_undo_64 (by decide) ?_
      exact ih (m + 1) (by omega) (by omega)
  have KP : zR E mX4_undo (zZ E mX4_undo K) X 13 [.ref x, zJ] [.int (zb (0 < c)), .ref x] g i j 0 0 := by
    refine r_cv1 (cu2 := 0) (su2 := 0) qX4_undo_13 kX4_371 rfl (by decide +kernel) (c := 4) (by assumption) (by decide) rfl rfl rfl rfl rfl rfl ?_
    refine c_X4_passes1 (by first | assumption | omega | rfl | decide) ?_
    show zR E _ _ X 16 _ _ _ _ _ _ _
    generalize hi : wA i x (upd (i x) 0 (c3 (0 < c) True True)) = i'
    have ex : i' x = upd (i x) 0 (c3 (0 < c) True True) := by rw [← hi, wA_s]
    have eo : ∀ r, r ≠ x → i' r = i r := fun r hr => by rw [← hi]; exact wA_n hr
    clear hi
    refine r_if_ne (t := 21) qX4_undo_16 (by decide) (fun hc16 => ?_) (fun hc16 => ?_)
    · have hv := zb_ne.mp hc16; replace hK1 := hK1 hv; rw [c3_0 hv trivial trivial] at ex
      refine r_aload_n qX4_undo_21 rfl ?_
      refine r_dup qX4_undo_22 rfl ?_
      refine r_geti qX4_undo_23 fX4_368 rfl (by assumption) ?_
      rw [ex, pk_un (by omega), hc]
      refine r_iconst (v := nI 1) qX4_undo_26 (by decide) ?_
      refine r_isub qX4_undo_27 ?_
      rw [nI_sub (by omega)]
      refine r_puti qX4_undo_28 fX4_368 (Or.inl rfl) rfl rfl rfl (by assumption) ?_
      refine r_iconst (v := nI 0) qX4_undo_31 (by decide) ?_
      refine r_is_2_1 qX4_undo_32 rfl rfl ?_
      have z := KL (wA i' x (upd (i' x) 29 (nI (c - 1)))) (c - 1) (by omega) (by rw [wA_s, ex]) (fun r hr => by rw [wA_n hr]; exact eo r hr) hK1 210 0 (by omega) (by omega); rw [ycp_0, wA_id (by rw [wA_n nx]; exact eo n nx)] at z; exact z
    · have hv := zb_0.mp hc16; replace hK0 := hK0 hv
      refine r_iconst (v := nI 0) qX4_undo_19 (by decide) ?_
      refine r_iret qX4_undo_20 rfl rfl rfl rfl ?_
      exact hK0 _ ex eo
  refine r_aload_n qX4_undo_0 rfl ?_
  refine r_aload_n qX4_undo_1 rfl ?_
  refine r_geti qX4_undo_2 fX4_368 rfl (by assumption) ?_
  rw [hc]
  refine r_if_le (t := 12) qX4_undo_5 (by decide) (fun hc5 => ?_) (fun hc5 => ?_)
  · refine r_iconst (v := nI 0) qX4_undo_12 (by decide) ?_
    first | (rw [zb_f (p := 0 < c) (fun h => nI_nle h (by omega) hc5)] at KP; exact KP) | (rw [zb_t (p := 0 < c) (by rcases Nat.eq_zero_or_pos c with h | h; subst h; exact absurd (nI_le (Nat.le_refl 0) (by omega)) hc5; exact h)] at KP; exact KP)
  · refine r_iconst (v := nI 1) qX4_undo_8 (by decide) ?_
    refine r_goto (t := 13) qX4_undo_9 (by decide) ?_
    first | (rw [zb_f (p := 0 < c) (fun h => nI_nle h (by omega) hc5)] at KP; exact KP) | (rw [zb_t (p := 0 < c) (by rcases Nat.eq_zero_or_pos c with h | h; subst h; exact absurd (nI_le (Nat.le_refl 0) (by omega)) hc5; exact h)] at KP; exact KP)

