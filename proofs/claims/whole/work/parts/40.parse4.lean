abbrev isSemi (B : Nat → Int32) (L t : Nat) : Prop := sKind B L t = 3 ∧ sVal B L t = nI 59
set_option maxHeartbeats 4000000 in
set_option maxRecDepth 20000 in
theorem c_X4_takeEnd {E : Ev} {g : Sh} {i : Ni} {j : Nj} {K : Kp} {x n d b p s o L t : Nat} {P : Prop} {dP : Decidable P} (hW : zW g x n d b p s o) (hP : zPs i j x b L t) (h0 : i x 12 = 0) (hKy : isSemi (i b) L t → ¬ P → ∀ (i' : Ni) (j' : Nj), zTok (i' x) (j' x) (i b) L (sNext (i b) L t) → zFr x i' i j' j → K (.inl none) g i' j') (hKn : ¬ (isSemi (i b) L t ∧ ¬ P) → K (.inl none) g (zBad i x (if isSemi (i b) L t then nI 6 else nI 1) (nI t)) j) : zCon E mX4_takeEnd [.ref x, .int (zb P)] g i j K := by
  refine zcon_of (by decide +kernel) rfl rfl (lo := [.ref x, .int (zb P)]) rfl (fun X => ?_)
  have w1 := hW.1
  obtain ⟨p1, p2, p3, p4, p5⟩ := id hP
  obtain ⟨z8, z6, z7, z9, z11, z10⟩ := id p5
  have hk4 := sKind_lt (i b) L t
  have K30b : ¬ isSemi (i b) L t → zR E mX4_takeEnd (zZ E mX4_takeEnd K) X 30 [.ref x, .int (zb P)] [] g (zBad i x (nI 1) (nI t)) j 0 0 := by
    intro hn
    have hK := hKn (fun h => hn h.1)
    rw [if_neg hn] at hK
    refine r_aload_n qX4_takeEnd_30 rfl ?_
    refine r_iload_n qX4_takeEnd_31 rfl ?_
    refine r_bipush (v := nI 6) qX4_takeEnd_32 (by decide) ?_
    refine r_cv2 (cu2 := 0) (su2 := 0) qX4_takeEnd_34 kX4_283 rfl (by decide +kernel) (c := 4) (by assumption) (by decide) rfl rfl rfl rfl rfl rfl ?_
    refine c_X4_requireNot w1 ?_; rw [zBad_12, if_neg (fun h => absurd h.1 (by decide))]
    show zR E _ _ X 37 _ _ _ _ _ _ _
    refine r_aload_n qX4_takeEnd_37 rfl ?_
    refine r_cv0 (cu2 := 0) (su2 := 0) qX4_takeEnd_38 kX4_269 rfl (by decide +kernel) (c := 4) (by assumption) (by decide) rfl rfl rfl rfl rfl rfl ?_
    refine c_X4_isGood (by first | assumption | omega | rfl | decide) ?_
    show zR E _ _ X 41 _ _ _ _ _ _ _
    rw [zBad_12, zb_f (p := nI 1 = 0) (by decide)]
    refine r_if_eq (t := 48) qX4_takeEnd_41 (by decide) (fun hc41 => ?_) (fun hc41 => absurd hc41 (by decide))
    refine r_vret qX4_takeEnd_48 rfl rfl rfl ?_
    exact hK
  have K30g : isSemi (i b) L t → zR E mX4_takeEnd (zZ E mX4_takeEnd K) X 30 [.ref x, .int (zb P)] [] g i j 0 0 := by
    intro hg
    by_cases hp : P
    · skip
      have hK := hKn (fun h => h.2 hp)
      rw [if_pos hg] at hK
      refine r_aload_n qX4_takeEnd_30 rfl ?_
      refine r_iload_n qX4_takeEnd_31 rfl ?_
      refine r_bipush (v := nI 6) qX4_takeEnd_32 (by decide) ?_
      refine r_cv2 (cu2 := 0) (su2 := 0) qX4_takeEnd_34 kX4_283 rfl (by decide +kernel) (c := 4) (by assumption) (by decide) rfl rfl rfl rfl rfl rfl ?_
      refine c_X4_requireNot w1 ?_; rw [if_pos ⟨h0, hp⟩, z8]
      show zR E _ _ X 37 _ _ _ _ _ _ _
      refine r_aload_n qX4_takeEnd_37 rfl ?_
      refine r_cv0 (cu2 := 0) (su2 := 0) qX4_takeEnd_38 kX4_269 rfl (by decide +kernel) (c := 4) (by assumption) (by decide) rfl rfl rfl rfl rfl rfl ?_
      refine c_X4_isGood (by first | assumption | omega | rfl | decide) ?_
      show zR E _ _ X 41 _ _ _ _ _ _ _
      rw [zBad_12, zb_f (p := nI 6 = 0) (by decide)]
      refine r_if_eq (t := 48) qX4_takeEnd_41 (by decide) (fun hc41 => ?_) (fun hc41 => absurd hc41 (by decide))
      refine r_vret qX4_takeEnd_48 rfl rfl rfl ?_
      exact hK
    · skip
      refine r_aload_n qX4_takeEnd_30 rfl ?_
      refine r_iload_n qX4_takeEnd_31 rfl ?_
      refine r_bipush (v := nI 6) qX4_takeEnd_32 (by decide) ?_
      refine r_cv2 (cu2 := 0) (su2 := 0) qX4_takeEnd_34 kX4_283 rfl (by decide +kernel) (c := 4) (by assumption) (by decide) rfl rfl rfl rfl rfl rfl ?_
      refine c_X4_requireNot w1 ?_; rw [if_neg (fun h => hp h.2)]
      show zR E _ _ X 37 _ _ _ _ _ _ _
      refine r_aload_n qX4_takeEnd_37 rfl ?_
      refine r_cv0 (cu2 := 0) (su2 := 0) qX4_takeEnd_38 kX4_269 rfl (by decide +kernel) (c := 4) (by assumption) (by decide) rfl rfl rfl rfl rfl rfl ?_
      refine c_X4_isGood (by first | assumption | omega | rfl | decide) ?_
      show zR E _ _ X 41 _ _ _ _ _ _ _
      rw [zb_t (p := i x 12 = 0) h0]
      refine r_if_eq (t := 48) qX4_takeEnd_41 (by decide) (fun hc41 => absurd hc41 (by decide)) (fun hc41 => ?_)
      refine r_aload_n qX4_takeEnd_44 rfl ?_
      refine r_cv0 (cu2 := 0) (su2 := 0) qX4_takeEnd_45 kX4_253 rfl (by decide +kernel) (c := 4) (by assumption) (by decide) rfl rfl rfl rfl rfl rfl ?_
      refine c_next hW hP (fun i2 j2 a1 a2 => ?_)
      show zR E _ _ X 48 _ _ _ _ _ _ _
      refine r_vret qX4_takeEnd_48 rfl rfl rfl ?_
      exact hKy hg hp i2 j2 a1 a2
  refine r_aload_n qX4_takeEnd_0 rfl ?_
  refine r_cv0 (cu2 := 0) (su2 := 0) qX4_takeEnd_1 kX4_269 rfl (by decide +kernel) (c := 4) (by assumption) (by decide) rfl rfl rfl rfl rfl rfl ?_
  refine c_X4_isGood (by first | assumption | omega | rfl | decide) ?_
  show zR E _ _ X 4 _ _ _ _ _ _ _
  rw [zb_t (p := i x 12 = 0) h0]
  refine r_if_ne (t := 8) qX4_takeEnd_4 (by decide) (fun hc4 => ?_) (fun hc4 => absurd hc4 (by decide))
  refine r_aload_n qX4_takeEnd_8 rfl ?_
  refine r_geti qX4_takeEnd_9 fX4_235 rfl (by assumption) ?_
  refine r_iconst (v := nI 3) qX4_takeEnd_12 (by decide) ?_
  rw [z7]
  refine r_icmp_ne (t := 25) qX4_takeEnd_13 (by decide) (fun hc13 => ?_) (fun hc13 => ?_)
  · refine r_aload_n qX4_takeEnd_25 rfl ?_
    refine r_iconst (v := nI 1) qX4_takeEnd_26 (by decide) ?_
    refine r_cv1 (cu2 := 0) (su2 := 0) qX4_takeEnd_27 kX4_273 rfl (by decide +kernel) (c := 4) (by assumption) (by decide) rfl rfl rfl rfl rfl rfl ?_
    refine c_X4_fault w1 h0 ?_; rw [z8]
    show zR E _ _ X 30 _ _ _ _ _ _ _
    first | exact K30b (fun h => hc13 (congrArg nI h.1)) | exact K30b (fun h => hc22 h.2) | exact K30g ⟨(nI_eq (by omega) (by omega)).mp hc13, hc22⟩
  · refine r_aload_n qX4_takeEnd_16 rfl ?_
    refine r_geti qX4_takeEnd_17 fX4_232 rfl (by assumption) ?_
    refine r_bipush (v := nI 59) qX4_takeEnd_20 (by decide) ?_
    rw [z11]
    refine r_icmp_eq (t := 30) qX4_takeEnd_22 (by decide) (fun hc22 => ?_) (fun hc22 => ?_)
    · first | exact K30b (fun h => hc13 (congrArg nI h.1)) | exact K30b (fun h => hc22 h.2) | exact K30g ⟨(nI_eq (by omega) (by omega)).mp hc13, hc22⟩
    · refine r_aload_n qX4_takeEnd_25 rfl ?_
      refine r_iconst (v := nI 1) qX4_takeEnd_26 (by decide) ?_
      refine r_cv1 (cu2 := 0) (su2 := 0) qX4_takeEnd_27 kX4_273 rfl (by decide +kernel) (c := 4) (by assumption) (by decide) rfl rfl rfl rfl rfl rfl ?_
      refine c_X4_fault w1 h0 ?_; rw [z8]
      show zR E _ _ X 30 _ _ _ _ _ _ _
      first | exact K30b (fun h => hc13 (congrArg nI h.1)) | exact K30b (fun h => hc22 h.2) | exact K30g ⟨(nI_eq (by omega) (by omega)).mp hc13, hc22⟩

