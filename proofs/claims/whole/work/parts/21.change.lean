set_option maxHeartbeats 4000000 in
set_option maxRecDepth 20000 in
theorem c_X4_startDraft {E : Ev} {g : Sh} {i : Ni} {j : Nj} {K : Kp} {x n d b p s o : Nat} (hW : zW g x n d b p s o) (hK : K (.inl none) (wR g x 3 d) (wA i d (i n)) j) : zCon E mX4_startDraft [.ref x] g i j K := by
  refine zcon_of (by decide +kernel) rfl rfl (lo := [.ref x, zJ]) rfl (fun X => ?_)
  obtain ⟨w1, w2, w3, w4, w5, w6, w7, ⟨w8, w9⟩, ⟨w10, w11⟩, -, -, -, -, wnd, -⟩ := hW
  have K2 : ∀ q m : Nat, q = 210 - m → m ≤ 210 → zR E mX4_startDraft (zZ E mX4_startDraft K) X 2 [.ref x, .int (nI m)] [] g (wA i d (ycp (i n) (i d) m)) j 0 0 := by
    intro q
    induction q with
    | zero =>
      intro m hm hm2
      obtain rfl : m = 210 := by omega
      refine r_iload_n qX4_startDraft_2 rfl ?_
      refine r_sipush (v := nI 210) qX4_startDraft_3 (by decide) ?_
      refine r_icmp_ge (t := 27) qX4_startDraft_6 (by decide) (fun hc6 => ?_) (fun hc6 => absurd hc6 (fun h => h (nI_le (by omega) (by omega))))
      refine r_ext (r := d) (f := i n) w10 (fun k hk => by rw [wA_s, ycp, if_pos (by omega)]) ?_; simp only [wA_wA]
      refine r_aload_n qX4_startDraft_27 rfl ?_
      refine r_aload_n qX4_startDraft_28 rfl ?_
      refine r_getr qX4_startDraft_29 fX4_21 rfl (by assumption) (by first | assumption | rfl) ?_
      refine r_putr qX4_startDraft_32 fX4_24 (Or.inl rfl) rfl (by assumption) ?_
      refine r_vret qX4_startDraft_35 rfl rfl rfl ?_
      exact hK
    | succ q ih =>
      intro m hm hm2
      refine r_iload_n qX4_startDraft_2 rfl ?_
      refine r_sipush (v := nI 210) qX4_startDraft_3 (by decide) ?_
      refine r_icmp_ge (t := 27) qX4_startDraft_6 (by decide) (fun hc6 => absurd hc6 (nI_ge (by omega) (by omega))) (fun hc6 => ?_)
      refine r_aload_n qX4_startDraft_9 rfl ?_
      refine r_getr qX4_startDraft_10 fX4_21 rfl (by assumption) (by first | assumption | rfl) ?_
      refine r_iload_n qX4_startDraft_13 rfl ?_
      refine r_aload_n qX4_startDraft_14 rfl ?_
      refine r_getr qX4_startDraft_15 fX4_17 rfl (by assumption) (by first | assumption | rfl) ?_
      refine r_iload_n qX4_startDraft_18 rfl ?_
      refine r_ialdN qX4_startDraft_19 (by assumption) (by assumption) (by omega) rfl ?_
      rw [wA_n wnd]
      refine r_iastN qX4_startDraft_20 (by assumption) (by assumption) (by omega) rfl ?_
      simp only [wA_s, wA_wA]; rw [ycp_s]
      refine r_ii_2_1 qX4_startDraft_21 rfl rfl (nI_inc m) ?_
      refine r_goto (t := 2) qX4_startDraft_24 (by decide) ?_
      exact ih (m + 1) (by omega) (by omega)
  refine r_iconst (v := nI 0) qX4_startDraft_0 (by decide) ?_
  refine r_is_2_1 qX4_startDraft_1 rfl rfl ?_
  have z := K2 210 0 (by omega) (by omega); rw [ycp_0, wA_self] at z; exact z
set_option maxHeartbeats 4000000 in
set_option maxRecDepth 20000 in
theorem c_X4_endDraft {E : Ev} {g : Sh} {i : Ni} {j : Nj} {K : Kp} {x n : Nat} {v : Int32} (h1 : gT g x = 5) (h2 : gR g x 1 = n) (hK : K (.inl (some (.int v))) (wR g x 3 n) i j) : zCon E mX4_endDraft [.ref x, .int v] g i j K := by
  refine zcon_of (by decide +kernel) rfl rfl (lo := [.ref x, .int v]) rfl (fun X => ?_)
  refine r_aload_n qX4_endDraft_0 rfl ?_
  refine r_aload_n qX4_endDraft_1 rfl ?_
  refine r_getr qX4_endDraft_2 fX4_17 rfl (by assumption) (by first | assumption | rfl) ?_
  refine r_putr qX4_endDraft_5 fX4_24 (Or.inl rfl) rfl (by assumption) ?_
  refine r_iload_n qX4_endDraft_8 rfl ?_
  refine r_iret qX4_endDraft_9 rfl rfl rfl rfl ?_
  exact hK
set_option maxHeartbeats 4000000 in
set_option maxRecDepth 20000 in
theorem c_X4_remember {E : Ev} {g : Sh} {i : Ni} {j : Nj} {K : Kp} {x n d b p s o c : Nat} (hW : zW g x n d b p s o) (hc : i x 29 = nI c) (hcl : c ≤ 6) (hK : ∀ i' : Ni, i' x = upd (i x) 29 (nI (if c = 6 then 6 else c + 1)) → i' p = sRem (i p) (i n) c → (∀ r, r ≠ x → r ≠ p → i' r = i r) → K (.inl none) g i' j) : zCon E mX4_remember [.ref x] g i j K := by
  refine zcon_of (by decide +kernel) rfl rfl (lo := [.ref x, zJ]) rfl (fun X => ?_)
  have nx := hW.nx
  obtain ⟨w1, w2, w3, w4, w5, w6, w7, ⟨w8, w9⟩, ⟨w10, w11⟩, -, ⟨w12, w13⟩, -, -, wnd, wnp, -⟩ := hW
  have px : p ≠ x := by rintro rfl; omega
  have xp : x ≠ p := fun h => px h.symm
  have K52 : ∀ (P : Nat → Int32) (i0 : Ni) (e : Nat), e ≤ 5 → i0 x = upd (i x) 29 (nI e) → i0 p = P → i0 n = i n → (∀ r, r ≠ x → r ≠ p → i0 r = i r) → e + 1 = (if c = 6 then 6 else c + 1) → sRem (i p) (i n) c = yput P (i n) (210 * e) 210 →
      ∀ q m : Nat, q = 210 - m → m ≤ 210 → zR E mX4_remember (zZ E mX4_remember K) X 52 [.ref x, .int (nI m)] [] g (wA i0 p (yput P (i n) (210 * e) m)) j 0 0 := by
    intro P i0 e he ex ep en er ee es q
    induction q with
    | zero =>
      intro m hm hm2
      obtain rfl : m = 210 := by omega
      refine r_iload_n qX4_remember_52 rfl ?_
      refine r_sipush (v := nI 210) qX4_remember_53 (by decide) ?_
      refine r_icmp_ge (t := 86) qX4_remember_56 (by decide) (fun hc56 => ?_) (fun hc56 => absurd hc56 (fun h => h (nI_le (by omega) (by omega))))
      refine r_aload_n qX4_remember_86 rfl ?_
      refine r_dup qX4_remember_87 rfl ?_
      refine r_geti qX4_remember_88 fX4_368 rfl (by assumption) ?_
      rw [wA_n xp, ex, pk_us]
      refine r_iconst (v := nI 1) qX4_remember_91 (by decide) ?_
      first | with_reducible refine r_iaddN qX4_remember_92 ?_ | refine r_iadd qX4_remember_92 ?_
      refine r_puti qX4_remember_93 fX4_368 (Or.inl rfl) rfl rfl rfl (by assumption) ?_
      refine r_vret qX4_remember_96 rfl rfl rfl ?_
      refine hK _ (by rw [wA_s, wA_n xp, ex, yup_twice, ee]) (by rw [wA_n px, wA_s, es]) (fun r h1 h2 => by rw [wA_n h1, wA_n h2]; exact er r h1 h2)
    | succ q ih =>
      intro m hm hm2
      refine r_iload_n qX4_remember_52 rfl ?_
      refine r_sipush (v := nI 210) qX4_remember_53 (by decide) ?_
      refine r_icmp_ge (t := 86) qX4_remember_56 (by decide) (fun hc56 => absurd hc56 (nI_ge (by omega) (by omega))) (fun hc56 => ?_)
      refine r_aload_n qX4_remember_59 rfl ?_
      refine r_getr qX4_remember_60 fX4_106 rfl (by assumption) (by first | assumption | rfl) ?_
      refine r_sipush (v := nI 210) qX4_remember_63 (by decide) ?_
      refine r_aload_n qX4_remember_66 rfl ?_
      refine r_geti qX4_remember_67 fX4_368 rfl (by assumption) ?_
      rw [wA_n xp, ex, pk_us]
      first | with_reducible refine r_imulN qX4_remember_70 ?_ | refine r_imul qX4_remember_70 ?_
      refine r_iload_n qX4_remember_71 rfl ?_
      first | with_reducible refine r_iaddN qX4_remember_72 ?_ | refine r_iadd qX4_remember_72 ?_
      refine r_aload_n qX4_remember_73 rfl ?_
      refine r_getr qX4_remember_74 fX4_17 rfl (by assumption) (by first | assumption | rfl) ?_
      refine r_iload_n qX4_remember_77 rfl ?_
      refine r_ialdN qX4_remember_78 (by assumption) (by assumption) (by omega) rfl ?_
      rw [wA_n wnp, en]
      refine r_iastN qX4_remember_79 (by assumption) (by assumption) (by omega) rfl ?_
      simp only [wA_s, wA_wA]; rw [yput_s]
      refine r_ii_2_1 qX4_remember_80 rfl rfl (nI_inc m) ?_
      refine r_goto (t := 52) qX4_remember_83 (by decide) ?_
      exact ih (m + 1) (by omega) (by omega)
  have K11 : c = 6 → ∀ q m : Nat, q = 1050 - m → m ≤ 1050 → zR E mX4_remember (zZ E mX4_remember K) X 11 [.ref x, .int (nI m)] [] g (wA i p (ydn (i p) m)) j 0 0 := by
    intro h6 q
    induction q with
    | zero =>
      intro m hm hm2
      obtain rfl : m = 1050 := by omega
      refine r_iload_n qX4_remember_11 rfl ?_
      refine r_sipush (v := nI 1050) qX4_remember_12 (by decide) ?_
      refine r_icmp_ge (t := 40) qX4_remember_15 (by decide) (fun hc15 => ?_) (fun hc15 => absurd hc15 (fun h => h (nI_le (by omega) (by omega))))
      refine r_aload_n qX4_remember_40 rfl ?_
      refine r_dup qX4_remember_41 rfl ?_
      refine r_geti qX4_remember_42 fX4_368 rfl (by assumption) ?_
      rw [wA_n xp, hc, h6]
      refine r_iconst (v := nI 1) qX4_remember_45 (by decide) ?_
      refine r_isub qX4_remember_46 ?_
      rw [nI_sub (by omega)]
      refine r_puti qX4_remember_47 fX4_368 (Or.inl rfl) rfl rfl rfl (by assumption) ?_
      refine r_iconst (v := nI 0) qX4_remember_50 (by decide) ?_
      refine r_is_2_1 qX4_remember_51 rfl rfl ?_
      have z := K52 (ydn (i p) 1050) (wA (wA i p (ydn (i p) 1050)) x (upd (wA i p (ydn (i p) 1050) x) 29 (nI (6 - 1)))) 5 (by omega) (by rw [wA_s, wA_n xp]) (by rw [wA_n px, wA_s]) (by rw [wA_n nx, wA_n wnp]) (fun r a1 a2 => by rw [wA_n a1, wA_n a2]) (by rw [if_pos h6]) (by rw [sRem, if_pos h6]) 210 0 (by omega) (by omega); rw [yput_0] at z; have z2 : wA (wA (wA i p (ydn (i p) 1050)) x (upd (wA i p (ydn (i p) 1050) x) 29 (nI (6 - 1)))) p (ydn (i p) 1050) = wA (wA i p (ydn (i p) 1050)) x (upd (wA i p (ydn (i p) 1050) x) 29 (nI (6 - 1))) := wA_id (by rw [wA_n px, wA_s]); rw [z2] at z; exact z
    | succ q ih =>
      intro m hm hm2
      refine r_iload_n qX4_remember_11 rfl ?_
      refine r_sipush (v := nI 1050) qX4_remember_12 (by decide) ?_
      refine r_icmp_ge (t := 40) qX4_remember_15 (by decide) (fun hc15 => absurd hc15 (nI_ge (by omega) (by omega))) (fun hc15 => ?_)
      refine r_aload_n qX4_remember_18 rfl ?_
      refine r_getr qX4_remember_19 fX4_106 rfl (by assumption) (by first | assumption | rfl) ?_
      refine r_iload_n qX4_remember_22 rfl ?_
      refine r_aload_n qX4_remember_23 rfl ?_
      refine r_getr qX4_remember_24 fX4_106 rfl (by assumption) (by first | assumption | rfl) ?_
      refine r_iload_n qX4_remember_27 rfl ?_
      refine r_sipush (v := nI 210) qX4_remember_28 (by decide) ?_
      first | with_reducible refine r_iaddN qX4_remember_31 ?_ | refine r_iadd qX4_remember_31 ?_
      refine r_ialdN qX4_remember_32 (by assumption) (by assumption) (by omega) rfl ?_
      rw [wA_s]
      refine r_iastN qX4_remember_33 (by assumption) (by assumption) (by omega) rfl ?_
      simp only [wA_s, wA_wA]; rw [ydn_s]
      refine r_ii_2_1 qX4_remember_34 rfl rfl (nI_inc m) ?_
      refine r_goto (t := 11) qX4_remember_37 (by decide) ?_
      exact ih (m + 1) (by omega) (by omega)
  refine r_aload_n qX4_remember_0 rfl ?_
  refine r_geti qX4_remember_1 fX4_368 rfl (by assumption) ?_
  refine r_bipush (v := nI 6) qX4_remember_4 (by decide) ?_
  rw [hc]
  refine r_icmp_ne (t := 50) qX4_remember_6 (by decide) (fun hc6 => ?_) (fun hc6 => ?_)
  · have hn6 : c ≠ 6 := fun h => hc6 (congrArg nI h)
    refine r_iconst (v := nI 0) qX4_remember_50 (by decide) ?_
    refine r_is_2_1 qX4_remember_51 rfl rfl ?_
    have z := K52 (i p) i c (by omega) (yup_same hc).symm rfl rfl (fun r _ _ => rfl) (by rw [if_neg hn6]) (by rw [sRem, if_neg hn6]) 210 0 (by omega) (by omega); rw [yput_0, wA_self] at z; exact z
  · have h6 : c = 6 := (nI_eq (by omega) (by omega)).mp hc6
    refine r_iconst (v := nI 0) qX4_remember_9 (by decide) ?_
    refine r_is_2_1 qX4_remember_10 rfl rfl ?_
    have z := K11 h6 1050 0 (by omega) (by omega); rw [ydn_0, wA_self] at z; exact z

