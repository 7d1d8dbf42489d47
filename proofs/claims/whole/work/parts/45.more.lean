set_option maxHeartbeats 4000000 in
set_option maxRecDepth 20000 in
theorem c_X4_startMore {E : Ev} {g : Sh} {i : Ni} {j : Nj} {K : Kp} {x n d b p s o L t r w m : Nat} (hW : zW g x n d b p s o) (hM : zM g x r) (hP : zPs i j x b L t) (h0 : i x 12 = 0) (hw : w < 210) (hKy : ¬ i r w = nI m → ∀ (i' : Ni) (j' : Nj), zTok (i' x) (j' x) (i b) L (sNext (i b) L t) → zFr x i' i j' j → K (.inl (some (.int (nI 1)))) g i' j') (hKn : i r w = nI m → K (.inl (some (.int (nI 0)))) g (zBad i x (nI 5) (nI t)) j) : zCon E mX4_startMore [.ref x, .int (nI w), .int (nI m)] g i j K := by
  refine zcon_of (by decide +kernel) rfl rfl (lo := [.ref x, .int (nI w), .int (nI m)]) rfl (fun X => ?_)
  obtain ⟨h1, h2, h3, h4⟩ := hM
  obtain ⟨p1, p2, p3, p4, p5⟩ := id hP
  obtain ⟨z8, z6, z7, z9, z11, z10⟩ := id p5
  by_cases hf : i r w = nI m
  · skip
    have hK := hKn hf
    refine r_aload_n qX4_startMore_0 rfl ?_
    refine r_aload_n qX4_startMore_1 rfl ?_
    refine r_getr qX4_startMore_2 fX4_24 rfl (by assumption) (by first | assumption | rfl) ?_
    refine r_iload_n qX4_startMore_5 rfl ?_
    refine r_ialdN qX4_startMore_6 (by assumption) (by assumption) (by omega) rfl ?_
    refine r_iload_n qX4_startMore_7 rfl ?_
    refine r_icmp_ne (t := 15) qX4_startMore_8 (by decide) (fun hc8 => absurd hc8 (fun h => h hf)) (fun hc8 => ?_)
    refine r_iconst (v := nI 1) qX4_startMore_11 (by decide) ?_
    refine r_goto (t := 16) qX4_startMore_12 (by decide) ?_
    refine r_iconst (v := nI 5) qX4_startMore_16 (by decide) ?_
    refine r_cv2 (cu2 := 0) (su2 := 0) qX4_startMore_17 kX4_283 rfl (by decide +kernel) (c := 4) (by assumption) (by decide) rfl rfl rfl rfl rfl rfl ?_
    refine c_X4_requireNot (P := True) h1 ?_; rw [if_pos ⟨h0, trivial⟩, z8]
    show zR E _ _ X 20 _ _ _ _ _ _ _
    refine r_aload_n qX4_startMore_20 rfl ?_
    refine r_cv0 (cu2 := 0) (su2 := 0) qX4_startMore_21 kX4_269 rfl (by decide +kernel) (c := 4) (by assumption) (by decide) rfl rfl rfl rfl rfl rfl ?_
    refine c_X4_isGood (by first | assumption | omega | rfl | decide) ?_
    show zR E _ _ X 24 _ _ _ _ _ _ _
    rw [zBad_12, zb_f (p := nI 5 = 0) (by decide)]
    refine r_if_eq (t := 31) qX4_startMore_24 (by decide) (fun hc24 => ?_) (fun hc24 => absurd hc24 (by decide))
    refine r_aload_n qX4_startMore_31 rfl ?_
    refine r_cv0 (cu2 := 0) (su2 := 0) qX4_startMore_32 kX4_269 rfl (by decide +kernel) (c := 4) (by assumption) (by decide) rfl rfl rfl rfl rfl rfl ?_
    refine c_X4_isGood (by first | assumption | omega | rfl | decide) ?_
    show zR E _ _ X 35 _ _ _ _ _ _ _
    rw [zBad_12, zb_f (p := nI 5 = 0) (by decide)]
    refine r_iret qX4_startMore_35 rfl (by first | decide | exact zb_nar _ | assumption) rfl rfl ?_
    exact hK
  · skip
    refine r_aload_n qX4_startMore_0 rfl ?_
    refine r_aload_n qX4_startMore_1 rfl ?_
    refine r_getr qX4_startMore_2 fX4_24 rfl (by assumption) (by first | assumption | rfl) ?_
    refine r_iload_n qX4_startMore_5 rfl ?_
    refine r_ialdN qX4_startMore_6 (by assumption) (by assumption) (by omega) rfl ?_
    refine r_iload_n qX4_startMore_7 rfl ?_
    refine r_icmp_ne (t := 15) qX4_startMore_8 (by decide) (fun hc8 => ?_) (fun hc8 => absurd hc8 (hf))
    refine r_iconst (v := nI 0) qX4_startMore_15 (by decide) ?_
    refine r_iconst (v := nI 5) qX4_startMore_16 (by decide) ?_
    refine r_cv2 (cu2 := 0) (su2 := 0) qX4_startMore_17 kX4_283 rfl (by decide +kernel) (c := 4) (by assumption) (by decide) rfl rfl rfl rfl rfl rfl ?_
    refine c_X4_requireNot (P := False) h1 ?_; rw [if_neg (fun h => h.2)]
    show zR E _ _ X 20 _ _ _ _ _ _ _
    refine r_aload_n qX4_startMore_20 rfl ?_
    refine r_cv0 (cu2 := 0) (su2 := 0) qX4_startMore_21 kX4_269 rfl (by decide +kernel) (c := 4) (by assumption) (by decide) rfl rfl rfl rfl rfl rfl ?_
    refine c_X4_isGood (by first | assumption | omega | rfl | decide) ?_
    show zR E _ _ X 24 _ _ _ _ _ _ _
    rw [zb_t (p := i x 12 = 0) h0]
    refine r_if_eq (t := 31) qX4_startMore_24 (by decide) (fun hc24 => absurd hc24 (by decide)) (fun hc24 => ?_)
    refine r_aload_n qX4_startMore_27 rfl ?_
    refine r_cv0 (cu2 := 0) (su2 := 0) qX4_startMore_28 kX4_253 rfl (by decide +kernel) (c := 4) (by assumption) (by decide) rfl rfl rfl rfl rfl rfl ?_
    refine c_next hW hP (fun i2 j2 a1 a2 => ?_)
    show zR E _ _ X 31 _ _ _ _ _ _ _
    refine r_aload_n qX4_startMore_31 rfl ?_
    refine r_cv0 (cu2 := 0) (su2 := 0) qX4_startMore_32 kX4_269 rfl (by decide +kernel) (c := 4) (by assumption) (by decide) rfl rfl rfl rfl rfl rfl ?_
    refine c_X4_isGood (by first | assumption | omega | rfl | decide) ?_
    show zR E _ _ X 35 _ _ _ _ _ _ _
    rw [zb_t (p := i2 x 12 = 0) (a2.e12.trans h0)]
    refine r_iret qX4_startMore_35 rfl (by first | decide | exact zb_nar _ | assumption) rfl rfl ?_
    exact hKy hf i2 j2 a1 a2

