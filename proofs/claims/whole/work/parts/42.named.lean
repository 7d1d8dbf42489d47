/-! ===== THE MODEL TAKES A KNOWN NAME ===== -/
set_option maxHeartbeats 4000000 in
set_option maxRecDepth 20000 in
theorem c_takeSpirit {E : Ev} {g : Sh} {i : Ni} {j : Nj} {K : Kp} {x n d b p s o r L t S : Nat} (hW : zW g x n d b p s o) (hM : zM g x r) (hP : zPs i j x b L t) (h0 : i x 12 = 0) (hS : i r 3 = nI S) (hS5 : S ≤ 5) (hKy : sKind (i b) L t = 1 → ¬ sUntil (fSp (i r) (i b) L t) 0 S = -1 → ∀ (i' : Ni) (j' : Nj), zTok (i' x) (j' x) (i b) L (sNext (i b) L t) → zFr x i' i j' j → K (.inl (some (.int (jmax (nI 0) (sUntil (fSp (i r) (i b) L t) 0 S))))) g i' j') (hKn : ¬ (sKind (i b) L t = 1 ∧ ¬ sUntil (fSp (i r) (i b) L t) 0 S = -1) → ∀ w : Int32, K (.inl (some (.int w))) g (zBad i x (if sKind (i b) L t = 1 then nI 4 else nI 1) (nI t)) j) : zCon E mX4_takeNamed [.ref x, .int (nI 1)] g i j K := by
  refine zcon_of (by decide +kernel) rfl rfl (lo := [.ref x, .int (nI 1), zJ]) rfl (fun X => ?_)
  have w1 := hW.1
  obtain ⟨p1, p2, p3, p4, p5⟩ := id hP
  obtain ⟨z8, z6, z7, z9, z11, z10⟩ := id p5
  have hk4 := sKind_lt (i b) L t
  have K25 : ∀ v : Int32, v = sUntil (fSp (i r) (i b) L t) 0 S → zR E mX4_takeNamed (zZ E mX4_takeNamed K) X 25 [.ref x, .int (nI 1), .int v] [] g i j 0 0 := by
    intro v hv
    rw [← hv] at hKy hKn
    by_cases hk : sKind (i b) L t = 1
    · skip
      by_cases h1 : v = -1
      · skip
        have hK := hKn (fun h => h.2 h1)
        rw [if_pos hk] at hK
        refine r_aload_n qX4_takeNamed_25 rfl ?_
        refine r_aload_n qX4_takeNamed_26 rfl ?_
        refine r_geti qX4_takeNamed_27 fX4_235 rfl (by assumption) ?_
        refine r_iconst (v := nI 1) qX4_takeNamed_30 (by decide) ?_
        rw [z7, hk]
        refine r_icmp_eq (t := 38) qX4_takeNamed_31 (by decide) (fun hc31 => ?_) (fun hc31 => absurd hc31 (fun h => h rfl))
        refine r_iconst (v := nI 0) qX4_takeNamed_38 (by decide) ?_
        refine r_iconst (v := nI 1) qX4_takeNamed_39 (by decide) ?_
        refine r_cv2 (cu2 := 0) (su2 := 0) qX4_takeNamed_40 kX4_283 rfl (by decide +kernel) (c := 4) (by assumption) (by decide) rfl rfl rfl rfl rfl rfl ?_
        refine c_X4_requireNot (P := False) w1 ?_; rw [if_neg (fun h => h.2)]
        show zR E _ _ X 43 _ _ _ _ _ _ _
        refine r_aload_n qX4_takeNamed_43 rfl ?_
        refine r_iload_n qX4_takeNamed_44 rfl ?_
        refine r_iconst (v := (-1)) qX4_takeNamed_45 (by decide) ?_
        refine r_icmp_ne (t := 53) qX4_takeNamed_46 (by decide) (fun hc46 => absurd hc46 (fun h => h h1)) (fun hc46 => ?_)
        refine r_iconst (v := nI 1) qX4_takeNamed_49 (by decide) ?_
        refine r_goto (t := 54) qX4_takeNamed_50 (by decide) ?_
        refine r_iconst (v := nI 4) qX4_takeNamed_54 (by decide) ?_
        refine r_cv2 (cu2 := 0) (su2 := 0) qX4_takeNamed_55 kX4_283 rfl (by decide +kernel) (c := 4) (by assumption) (by decide) rfl rfl rfl rfl rfl rfl ?_
        refine c_X4_requireNot (P := True) w1 ?_; rw [if_pos ⟨h0, trivial⟩, z8]
        show zR E _ _ X 58 _ _ _ _ _ _ _
        refine r_aload_n qX4_takeNamed_58 rfl ?_
        refine r_cv0 (cu2 := 0) (su2 := 0) qX4_takeNamed_59 kX4_269 rfl (by decide +kernel) (c := 4) (by assumption) (by decide) rfl rfl rfl rfl rfl rfl ?_
        refine c_X4_isGood (by first | assumption | omega | rfl | decide) ?_
        show zR E _ _ X 62 _ _ _ _ _ _ _
        rw [zBad_12, zb_f (p := nI 4 = 0) (by decide)]
        refine r_if_eq (t := 69) qX4_takeNamed_62 (by decide) (fun hc62 => ?_) (fun hc62 => absurd hc62 (by decide))
        refine r_iconst (v := nI 0) qX4_takeNamed_69 (by decide) ?_
        refine r_iload_n qX4_takeNamed_70 rfl ?_
        refine r_mmax qX4_takeNamed_71 kX4_201 rfl rfl rfl rfl ?_
        refine r_iret qX4_takeNamed_74 rfl rfl rfl rfl ?_
        exact hK _
      · skip
        refine r_aload_n qX4_takeNamed_25 rfl ?_
        refine r_aload_n qX4_takeNamed_26 rfl ?_
        refine r_geti qX4_takeNamed_27 fX4_235 rfl (by assumption) ?_
        refine r_iconst (v := nI 1) qX4_takeNamed_30 (by decide) ?_
        rw [z7, hk]
        refine r_icmp_eq (t := 38) qX4_takeNamed_31 (by decide) (fun hc31 => ?_) (fun hc31 => absurd hc31 (fun h => h rfl))
        refine r_iconst (v := nI 0) qX4_takeNamed_38 (by decide) ?_
        refine r_iconst (v := nI 1) qX4_takeNamed_39 (by decide) ?_
        refine r_cv2 (cu2 := 0) (su2 := 0) qX4_takeNamed_40 kX4_283 rfl (by decide +kernel) (c := 4) (by assumption) (by decide) rfl rfl rfl rfl rfl rfl ?_
        refine c_X4_requireNot (P := False) w1 ?_; rw [if_neg (fun h => h.2)]
        show zR E _ _ X 43 _ _ _ _ _ _ _
        refine r_aload_n qX4_takeNamed_43 rfl ?_
        refine r_iload_n qX4_takeNamed_44 rfl ?_
        refine r_iconst (v := (-1)) qX4_takeNamed_45 (by decide) ?_
        refine r_icmp_ne (t := 53) qX4_takeNamed_46 (by decide) (fun hc46 => ?_) (fun hc46 => absurd hc46 (h1))
        refine r_iconst (v := nI 0) qX4_takeNamed_53 (by decide) ?_
        refine r_iconst (v := nI 4) qX4_takeNamed_54 (by decide) ?_
        refine r_cv2 (cu2 := 0) (su2 := 0) qX4_takeNamed_55 kX4_283 rfl (by decide +kernel) (c := 4) (by assumption) (by decide) rfl rfl rfl rfl rfl rfl ?_
        refine c_X4_requireNot (P := False) w1 ?_; rw [if_neg (fun h => h.2)]
        show zR E _ _ X 58 _ _ _ _ _ _ _
        refine r_aload_n qX4_takeNamed_58 rfl ?_
        refine r_cv0 (cu2 := 0) (su2 := 0) qX4_takeNamed_59 kX4_269 rfl (by decide +kernel) (c := 4) (by assumption) (by decide) rfl rfl rfl rfl rfl rfl ?_
        refine c_X4_isGood (by first | assumption | omega | rfl | decide) ?_
        show zR E _ _ X 62 _ _ _ _ _ _ _
        rw [zb_t (p := i x 12 = 0) h0]
        refine r_if_eq (t := 69) qX4_takeNamed_62 (by decide) (fun hc62 => absurd hc62 (by decide)) (fun hc62 => ?_)
        refine r_aload_n qX4_takeNamed_65 rfl ?_
        refine r_cv0 (cu2 := 0) (su2 := 0) qX4_takeNamed_66 kX4_253 rfl (by decide +kernel) (c := 4) (by assumption) (by decide) rfl rfl rfl rfl rfl rfl ?_
        refine c_next hW hP (fun i2 j2 a1 a2 => ?_)
        show zR E _ _ X 69 _ _ _ _ _ _ _
        refine r_iconst (v := nI 0) qX4_takeNamed_69 (by decide) ?_
        refine r_iload_n qX4_takeNamed_70 rfl ?_
        refine r_mmax qX4_takeNamed_71 kX4_201 rfl rfl rfl rfl ?_
        refine r_iret qX4_takeNamed_74 rfl rfl rfl rfl ?_
        exact hKy hk h1 i2 j2 a1 a2
    · skip
      have hK := hKn (fun h => hk h.1)
      rw [if_neg hk] at hK
      have hn : ¬ nI (sKind (i b) L t) = nI 1 := fun h => hk ((nI_eq (by omega) (by omega)).mp h)
      by_cases h1 : v = -1
      · skip
        refine r_aload_n qX4_takeNamed_25 rfl ?_
        refine r_aload_n qX4_takeNamed_26 rfl ?_
        refine r_geti qX4_takeNamed_27 fX4_235 rfl (by assumption) ?_
        refine r_iconst (v := nI 1) qX4_takeNamed_30 (by decide) ?_
        rw [z7]
        refine r_icmp_eq (t := 38) qX4_takeNamed_31 (by decide) (fun hc31 => absurd hc31 (hn)) (fun hc31 => ?_)
        refine r_iconst (v := nI 1) qX4_takeNamed_34 (by decide) ?_
        refine r_goto (t := 39) qX4_takeNamed_35 (by decide) ?_
        refine r_iconst (v := nI 1) qX4_takeNamed_39 (by decide) ?_
        refine r_cv2 (cu2 := 0) (su2 := 0) qX4_takeNamed_40 kX4_283 rfl (by decide +kernel) (c := 4) (by assumption) (by decide) rfl rfl rfl rfl rfl rfl ?_
        refine c_X4_requireNot (P := True) w1 ?_; rw [if_pos ⟨h0, trivial⟩, z8]
        show zR E _ _ X 43 _ _ _ _ _ _ _
        refine r_aload_n qX4_takeNamed_43 rfl ?_
        refine r_iload_n qX4_takeNamed_44 rfl ?_
        refine r_iconst (v := (-1)) qX4_takeNamed_45 (by decide) ?_
        refine r_icmp_ne (t := 53) qX4_takeNamed_46 (by decide) (fun hc46 => absurd hc46 (fun h => h h1)) (fun hc46 => ?_)
        refine r_iconst (v := nI 1) qX4_takeNamed_49 (by decide) ?_
        refine r_goto (t := 54) qX4_takeNamed_50 (by decide) ?_
        refine r_iconst (v := nI 4) qX4_takeNamed_54 (by decide) ?_
        refine r_cv2 (cu2 := 0) (su2 := 0) qX4_takeNamed_55 kX4_283 rfl (by decide +kernel) (c := 4) (by assumption) (by decide) rfl rfl rfl rfl rfl rfl ?_
        refine c_X4_requireNot (P := True) w1 ?_; rw [zBad_12, if_neg (fun h => absurd h.1 (by decide))]
        show zR E _ _ X 58 _ _ _ _ _ _ _
        refine r_aload_n qX4_takeNamed_58 rfl ?_
        refine r_cv0 (cu2 := 0) (su2 := 0) qX4_takeNamed_59 kX4_269 rfl (by decide +kernel) (c := 4) (by assumption) (by decide) rfl rfl rfl rfl rfl rfl ?_
        refine c_X4_isGood (by first | assumption | omega | rfl | decide) ?_
        show zR E _ _ X 62 _ _ _ _ _ _ _
        rw [zBad_12, zb_f (p := nI 1 = 0) (by decide)]
        refine r_if_eq (t := 69) qX4_takeNamed_62 (by decide) (fun hc62 => ?_) (fun hc62 => absurd hc62 (by decide))
        refine r_iconst (v := nI 0) qX4_takeNamed_69 (by decide) ?_
        refine r_iload_n qX4_takeNamed_70 rfl ?_
        refine r_mmax qX4_takeNamed_71 kX4_201 rfl rfl rfl rfl ?_
        refine r_iret qX4_takeNamed_74 rfl rfl rfl rfl ?_
        exact hK _
      · skip
        refine r_aload_n qX4_takeNamed_25 rfl ?_
        refine r_aload_n qX4_takeNamed_26 rfl ?_
        refine r_geti qX4_takeNamed_27 fX4_235 rfl (by assumption) ?_
        refine r_iconst (v := nI 1) qX4_takeNamed_30 (by decide) ?_
        rw [z7]
        refine r_icmp_eq (t := 38) qX4_takeNamed_31 (by decide) (fun hc31 => absurd hc31 (hn)) (fun hc31 => ?_)
        refine r_iconst (v := nI 1) qX4_takeNamed_34 (by decide) ?_
        refine r_goto (t := 39) qX4_takeNamed_35 (by decide) ?_
        refine r_iconst (v := nI 1) qX4_takeNamed_39 (by decide) ?_
        refine r_cv2 (cu2 := 0) (su2 := 0) qX4_takeNamed_40 kX4_283 rfl (by decide +kernel) (c := 4) (by assumption) (by decide) rfl rfl rfl rfl rfl rfl ?_
        refine c_X4_requireNot (P := True) w1 ?_; rw [if_pos ⟨h0, trivial⟩, z8]
        show zR E _ _ X 43 _ _ _ _ _ _ _
        refine r_aload_n qX4_takeNamed_43 rfl ?_
        refine r_iload_n qX4_takeNamed_44 rfl ?_
        refine r_iconst (v := (-1)) qX4_takeNamed_45 (by decide) ?_
        refine r_icmp_ne (t := 53) qX4_takeNamed_46 (by decide) (fun hc46 => ?_) (fun hc46 => absurd hc46 (h1))
        refine r_iconst (v := nI 0) qX4_takeNamed_53 (by decide) ?_
        refine r_iconst (v := nI 4) qX4_takeNamed_54 (by decide) ?_
        refine r_cv2 (cu2 := 0) (su2 := 0) qX4_takeNamed_55 kX4_283 rfl (by decide +kernel) (c := 4) (by assumption) (by decide) rfl rfl rfl rfl rfl rfl ?_
        refine c_X4_requireNot (P := False) w1 ?_; rw [zBad_12, if_neg (fun h => h.2)]
        show zR E _ _ X 58 _ _ _ _ _ _ _
        refine r_aload_n qX4_takeNamed_58 rfl ?_
        refine r_cv0 (cu2 := 0) (su2 := 0) qX4_takeNamed_59 kX4_269 rfl (by decide +kernel) (c := 4) (by assumption) (by decide) rfl rfl rfl rfl rfl rfl ?_
        refine c_X4_isGood (by first | assumption | omega | rfl | decide) ?_
        show zR E _ _ X 62 _ _ _ _ _ _ _
        rw [zBad_12, zb_f (p := nI 1 = 0) (by decide)]
        refine r_if_eq (t := 69) qX4_takeNamed_62 (by decide) (fun hc62 => ?_) (fun hc62 => absurd hc62 (by decide))
        refine r_iconst (v := nI 0) qX4_takeNamed_69 (by decide) ?_
        refine r_iload_n qX4_takeNamed_70 rfl ?_
        refine r_mmax qX4_takeNamed_71 kX4_201 rfl rfl rfl rfl ?_
        refine r_iret qX4_takeNamed_74 rfl rfl rfl rfl ?_
        exact hK _
  refine r_aload_n qX4_takeNamed_0 rfl ?_
  refine r_cv0 (cu2 := 0) (su2 := 0) qX4_takeNamed_1 kX4_269 rfl (by decide +kernel) (c := 4) (by assumption) (by decide) rfl rfl rfl rfl rfl rfl ?_
  refine c_X4_isGood (by first | assumption | omega | rfl | decide) ?_
  show zR E _ _ X 4 _ _ _ _ _ _ _
  rw [zb_t h0]
  refine r_if_ne (t := 9) qX4_takeNamed_4 (by decide) (fun hc4 => ?_) (fun hc4 => absurd hc4 (by decide))
  refine r_iload_n qX4_takeNamed_9 rfl ?_
  refine r_if_eq (t := 20) qX4_takeNamed_10 (by decide) (fun hc10 => absurd hc10 (by decide)) (fun hc10 => ?_)
  refine r_aload_n qX4_takeNamed_13 rfl ?_
  refine r_cv0 (cu2 := 0) (su2 := 0) qX4_takeNamed_14 kX4_287 rfl (by decide +kernel) (c := 4) (by assumption) (by decide) rfl rfl rfl rfl rfl rfl ?_
  refine c_X4_spiritHere hM hP hS hS5 ?_
  show zR E _ _ X 17 _ _ _ _ _ _ _
  refine r_goto (t := 24) qX4_takeNamed_17 (by decide) ?_
  refine r_is_3_2 qX4_takeNamed_24 rfl rfl ?_
  exact K25 _ rfl
set_option maxHeartbeats 4000000 in
set_option maxRecDepth 20000 in
theorem c_takeBath {E : Ev} {g : Sh} {i : Ni} {j : Nj} {K : Kp} {x n d b p s o r L t S : Nat} (hW : zW g x n d b p s o) (hM : zM g x r) (hP : zPs i j x b L t) (h0 : i x 12 = 0) (hS : i r 4 = nI S) (hS5 : S ≤ 5) (hKy : sKind (i b) L t = 1 → ¬ sUntil (fBa (i r) (i b) L t) 0 S = -1 → ∀ (i' : Ni) (j' : Nj), zTok (i' x) (j' x) (i b) L (sNext (i b) L t) → zFr x i' i j' j → K (.inl (some (.int (jmax (nI 0) (sUntil (fBa (i r) (i b) L t) 0 S))))) g i' j') (hKn : ¬ (sKind (i b) L t = 1 ∧ ¬ sUntil (fBa (i r) (i b) L t) 0 S = -1) → ∀ w : Int32, K (.inl (some (.int w))) g (zBad i x (if sKind (i b) L t = 1 then nI 4 else nI 1) (nI t)) j) : zCon E mX4_takeNamed [.ref x, .int (nI 0)] g i j K := by
  refine zcon_of (by decide +kernel) rfl rfl (lo := [.ref x, .int (nI 0), zJ]) rfl (fun X => ?_)
  have w1 := hW.1
  obtain ⟨p1, p2, p3, p4, p5⟩ := id hP
  obtain ⟨z8, z6, z7, z9, z11, z10⟩ := id p5
  have hk4 := sKind_lt (i b) L t
  have K25 : ∀ v : Int32, v = sUntil (fBa (i r) (i b) L t) 0 S → zR E mX4_takeNamed (zZ E mX4_takeNamed K) X 25 [.ref x, .int (nI 0), .int v] [] g i j 0 0 := by
    intro v hv
    rw [← hv] at hKy hKn
    by_cases hk : sKind (i b) L t = 1
    · skip
      by_cases h1 : v = -1
      · skip
        have hK := hKn (fun h => h.2 h1)
        rw [if_pos hk] at hK
        refine r_aload_n qX4_takeNamed_25 rfl ?_
        refine r_aload_n qX4_takeNamed_26 rfl ?_
        refine r_geti qX4_takeNamed_27 fX4_235 rfl (by assumption) ?_
        refine r_iconst (v := nI 1) qX4_takeNamed_30 (by decide) ?_
        rw [z7, hk]
        refine r_icmp_eq (t := 38) qX4_takeNamed_31 (by decide) (fun hc31 => ?_) (fun hc31 => absurd hc31 (fun h => h rfl))
        refine r_iconst (v := nI 0) qX4_takeNamed_38 (by decide) ?_
        refine r_iconst (v := nI 1) qX4_takeNamed_39 (by decide) ?_
        refine r_cv2 (cu2 := 0) (su2 := 0) qX4_takeNamed_40 kX4_283 rfl (by decide +kernel) (c := 4) (by assumption) (by decide) rfl rfl rfl rfl rfl rfl ?_
        refine c_X4_requireNot (P := False) w1 ?_; rw [if_neg (fun h => h.2)]
        show zR E _ _ X 43 _ _ _ _ _ _ _
        refine r_aload_n qX4_takeNamed_43 rfl ?_
        refine r_iload_n qX4_takeNamed_44 rfl ?_
        refine r_iconst (v := (-1)) qX4_takeNamed_45 (by decide) ?_
        refine r_icmp_ne (t := 53) qX4_takeNamed_46 (by decide) (fun hc46 => absurd hc46 (fun h => h h1)) (fun hc46 => ?_)
        refine r_iconst (v := nI 1) qX4_takeNamed_49 (by decide) ?_
        refine r_goto (t := 54) qX4_takeNamed_50 (by decide) ?_
        refine r_iconst (v := nI 4) qX4_takeNamed_54 (by decide) ?_
        refine r_cv2 (cu2 := 0) (su2 := 0) qX4_takeNamed_55 kX4_283 rfl (by decide +kernel) (c := 4) (by assumption) (by decide) rfl rfl rfl rfl rfl rfl ?_
        refine c_X4_requireNot (P := True) w1 ?_; rw [if_pos ⟨h0, trivial⟩, z8]
        show zR E _ _ X 58 _ _ _ _ _ _ _
        refine r_aload_n qX4_takeNamed_58 rfl ?_
        refine r_cv0 (cu2 := 0) (su2 := 0) qX4_takeNamed_59 kX4_269 rfl (by decide +kernel) (c := 4) (by assumption) (by decide) rfl rfl rfl rfl rfl rfl ?_
        refine c_X4_isGood (by first | assumption | omega | rfl | decide) ?_
        show zR E _ _ X 62 _ _ _ _ _ _ _
        rw [zBad_12, zb_f (p := nI 4 = 0) (by decide)]
        refine r_if_eq (t := 69) qX4_takeNamed_62 (by decide) (fun hc62 => ?_) (fun hc62 => absurd hc62 (by decide))
        refine r_iconst (v := nI 0) qX4_takeNamed_69 (by decide) ?_
        refine r_iload_n qX4_takeNamed_70 rfl ?_
        refine r_mmax qX4_takeNamed_71 kX4_201 rfl rfl rfl rfl ?_
        refine r_iret qX4_takeNamed_74 rfl rfl rfl rfl ?_
        exact hK _
      · skip
        refine r_aload_n qX4_takeNamed_25 rfl ?_
        refine r_aload_n qX4_takeNamed_26 rfl ?_
        refine r_geti qX4_takeNamed_27 fX4_235 rfl (by assumption) ?_
        refine r_iconst (v := nI 1) qX4_takeNamed_30 (by decide) ?_
        rw [z7, hk]
        refine r_icmp_eq (t := 38) qX4_takeNamed_31 (by decide) (fun hc31 => ?_) (fun hc31 => absurd hc31 (fun h => h rfl))
        refine r_iconst (v := nI 0) qX4_takeNamed_38 (by decide) ?_
        refine r_iconst (v := nI 1) qX4_takeNamed_39 (by decide) ?_
        refine r_cv2 (cu2 := 0) (su2 := 0) qX4_takeNamed_40 kX4_283 rfl (by decide +kernel) (c := 4) (by assumption) (by decide) rfl rfl rfl rfl rfl rfl ?_
        refine c_X4_requireNot (P := False) w1 ?_; rw [if_neg (fun h => h.2)]
        show zR E _ _ X 43 _ _ _ _ _ _ _
        refine r_aload_n qX4_takeNamed_43 rfl ?_
        refine r_iload_n qX4_takeNamed_44 rfl ?_
        refine r_iconst (v := (-1)) qX4_takeNamed_45 (by decide) ?_
        refine r_icmp_ne (t := 53) qX4_takeNamed_46 (by decide) (fun hc46 => ?_) (fun hc46 => absurd hc46 (h1))
        refine r_iconst (v := nI 0) qX4_takeNamed_53 (by decide) ?_
        refine r_iconst (v := nI 4) qX4_takeNamed_54 (by decide) ?_
        refine r_cv2 (cu2 := 0) (su2 := 0) qX4_takeNamed_55 kX4_283 rfl (by decide +kernel) (c := 4) (by assumption) (by decide) rfl rfl rfl rfl rfl rfl ?_
        refine c_X4_requireNot (P := False) w1 ?_; rw [if_neg (fun h => h.2)]
        show zR E _ _ X 58 _ _ _ _ _ _ _
        refine r_aload_n qX4_takeNamed_58 rfl ?_
        refine r_cv0 (cu2 := 0) (su2 := 0) qX4_takeNamed_59 kX4_269 rfl (by decide +kernel) (c := 4) (by assumption) (by decide) rfl rfl rfl rfl rfl rfl ?_
        refine c_X4_isGood (by first | assumption | omega | rfl | decide) ?_
        show zR E _ _ X 62 _ _ _ _ _ _ _
        rw [zb_t (p := i x 12 = 0) h0]
        refine r_if_eq (t := 69) qX4_takeNamed_62 (by decide) (fun hc62 => absurd hc62 (by decide)) (fun hc62 => ?_)
        refine r_aload_n qX4_takeNamed_65 rfl ?_
        refine r_cv0 (cu2 := 0) (su2 := 0) qX4_takeNamed_66 kX4_253 rfl (by decide +kernel) (c := 4) (by assumption) (by decide) rfl rfl rfl rfl rfl rfl ?_
        refine c_next hW hP (fun i2 j2 a1 a2 => ?_)
        show zR E _ _ X 69 _ _ _ _ _ _ _
        refine r_iconst (v := nI 0) qX4_takeNamed_69 (by decide) ?_
        refine r_iload_n qX4_takeNamed_70 rfl ?_
        refine r_mmax qX4_takeNamed_71 kX4_201 rfl rfl rfl rfl ?_
        refine r_iret qX4_takeNamed_74 rfl rfl rfl rfl ?_
        exact hKy hk h1 i2 j2 a1 a2
    · skip
      have hK := hKn (fun h => hk h.1)
      rw [if_neg hk] at hK
      have hn : ¬ nI (sKind (i b) L t) = nI 1 := fun h => hk ((nI_eq (by omega) (by omega)).mp h)
      by_cases h1 : v = -1
      · skip
        refine r_aload_n qX4_takeNamed_25 rfl ?_
        refine r_aload_n qX4_takeNamed_26 rfl ?_
        refine r_geti qX4_takeNamed_27 fX4_235 rfl (by assumption) ?_
        refine r_iconst (v := nI 1) qX4_takeNamed_30 (by decide) ?_
        rw [z7]
        refine r_icmp_eq (t := 38) qX4_takeNamed_31 (by decide) (fun hc31 => absurd hc31 (hn)) (fun hc31 => ?_)
        refine r_iconst (v := nI 1) qX4_takeNamed_34 (by decide) ?_
        refine r_goto (t := 39) qX4_takeNamed_35 (by decide) ?_
        refine r_iconst (v := nI 1) qX4_takeNamed_39 (by decide) ?_
        refine r_cv2 (cu2 := 0) (su2 := 0) qX4_takeNamed_40 kX4_283 rfl (by decide +kernel) (c := 4) (by assumption) (by decide) rfl rfl rfl rfl rfl rfl ?_
        refine c_X4_requireNot (P := True) w1 ?_; rw [if_pos ⟨h0, trivial⟩, z8]
        show zR E _ _ X 43 _ _ _ _ _ _ _
        refine r_aload_n qX4_takeNamed_43 rfl ?_
        refine r_iload_n qX4_takeNamed_44 rfl ?_
        refine r_iconst (v := (-1)) qX4_takeNamed_45 (by decide) ?_
        refine r_icmp_ne (t := 53) qX4_takeNamed_46 (by decide) (fun hc46 => absurd hc46 (fun h => h h1)) (fun hc46 => ?_)
        refine r_iconst (v := nI 1) qX4_takeNamed_49 (by decide) ?_
        refine r_goto (t := 54) qX4_takeNamed_50 (by decide) ?_
        refine r_iconst (v := nI 4) qX4_takeNamed_54 (by decide) ?_
        refine r_cv2 (cu2 := 0) (su2 := 0) qX4_takeNamed_55 kX4_283 rfl (by decide +kernel) (c := 4) (by assumption) (by decide) rfl rfl rfl rfl rfl rfl ?_
        refine c_X4_requireNot (P := True) w1 ?_; rw [zBad_12, if_neg (fun h => absurd h.1 (by decide))]
        show zR E _ _ X 58 _ _ _ _ _ _ _
        refine r_aload_n qX4_takeNamed_58 rfl ?_
        refine r_cv0 (cu2 := 0) (su2 := 0) qX4_takeNamed_59 kX4_269 rfl (by decide +kernel) (c := 4) (by assumption) (by decide) rfl rfl rfl rfl rfl rfl ?_
        refine c_X4_isGood (by first | assumption | omega | rfl | decide) ?_
        show zR E _ _ X 62 _ _ _ _ _ _ _
        rw [zBad_12, zb_f (p := nI 1 = 0) (by decide)]
        refine r_if_eq (t := 69) qX4_takeNamed_62 (by decide) (fun hc62 => ?_) (fun hc62 => absurd hc62 (by decide))
        refine r_iconst (v := nI 0) qX4_takeNamed_69 (by decide) ?_
        refine r_iload_n qX4_takeNamed_70 rfl ?_
        refine r_mmax qX4_takeNamed_71 kX4_201 rfl rfl rfl rfl ?_
        refine r_iret qX4_takeNamed_74 rfl rfl rfl rfl ?_
        exact hK _
      · skip
        refine r_aload_n qX4_takeNamed_25 rfl ?_
        refine r_aload_n qX4_takeNamed_26 rfl ?_
        refine r_geti qX4_takeNamed_27 fX4_235 rfl (by assumption) ?_
        refine r_iconst (v := nI 1) qX4_takeNamed_30 (by decide) ?_
        rw [z7]
        refine r_icmp_eq (t := 38) qX4_takeNamed_31 (by decide) (fun hc31 => absurd hc31 (hn)) (fun hc31 => ?_)
        refine r_iconst (v := nI 1) qX4_takeNamed_34 (by decide) ?_
        refine r_goto (t := 39) qX4_takeNamed_35 (by decide) ?_
        refine r_iconst (v := nI 1) qX4_takeNamed_39 (by decide) ?_
        refine r_cv2 (cu2 := 0) (su2 := 0) qX4_takeNamed_40 kX4_283 rfl (by decide +kernel) (c := 4) (by assumption) (by decide) rfl rfl rfl rfl rfl rfl ?_
        refine c_X4_requireNot (P := True) w1 ?_; rw [if_pos ⟨h0, trivial⟩, z8]
        show zR E _ _ X 43 _ _ _ _ _ _ _
        refine r_aload_n qX4_takeNamed_43 rfl ?_
        refine r_iload_n qX4_takeNamed_44 rfl ?_
        refine r_iconst (v := (-1)) qX4_takeNamed_45 (by decide) ?_
        refine r_icmp_ne (t := 53) qX4_takeNamed_46 (by decide) (fun hc46 => ?_) (fun hc46 => absurd hc46 (h1))
        refine r_iconst (v := nI 0) qX4_takeNamed_53 (by decide) ?_
        refine r_iconst (v := nI 4) qX4_takeNamed_54 (by decide) ?_
        refine r_cv2 (cu2 := 0) (su2 := 0) qX4_takeNamed_55 kX4_283 rfl (by decide +kernel) (c := 4) (by assumption) (by decide) rfl rfl rfl rfl rfl rfl ?_
        refine c_X4_requireNot (P := False) w1 ?_; rw [zBad_12, if_neg (fun h => h.2)]
        show zR E _ _ X 58 _ _ _ _ _ _ _
        refine r_aload_n qX4_takeNamed_58 rfl ?_
        refine r_cv0 (cu2 := 0) (su2 := 0) qX4_takeNamed_59 kX4_269 rfl (by decide +kernel) (c := 4) (by assumption) (by decide) rfl rfl rfl rfl rfl rfl ?_
        refine c_X4_isGood (by first | assumption | omega | rfl | decide) ?_
        show zR E _ _ X 62 _ _ _ _ _ _ _
        rw [zBad_12, zb_f (p := nI 1 = 0) (by decide)]
        refine r_if_eq (t := 69) qX4_takeNamed_62 (by decide) (fun hc62 => ?_) (fun hc62 => absurd hc62 (by decide))
        refine r_iconst (v := nI 0) qX4_takeNamed_69 (by decide) ?_
        refine r_iload_n qX4_takeNamed_70 rfl ?_
        refine r_mmax qX4_takeNamed_71 kX4_201 rfl rfl rfl rfl ?_
        refine r_iret qX4_takeNamed_74 rfl rfl rfl rfl ?_
        exact hK _
  refine r_aload_n qX4_takeNamed_0 rfl ?_
  refine r_cv0 (cu2 := 0) (su2 := 0) qX4_takeNamed_1 kX4_269 rfl (by decide +kernel) (c := 4) (by assumption) (by decide) rfl rfl rfl rfl rfl rfl ?_
  refine c_X4_isGood (by first | assumption | omega | rfl | decide) ?_
  show zR E _ _ X 4 _ _ _ _ _ _ _
  rw [zb_t h0]
  refine r_if_ne (t := 9) qX4_takeNamed_4 (by decide) (fun hc4 => ?_) (fun hc4 => absurd hc4 (by decide))
  refine r_iload_n qX4_takeNamed_9 rfl ?_
  refine r_if_eq (t := 20) qX4_takeNamed_10 (by decide) (fun hc10 => ?_) (fun hc10 => absurd hc10 (fun h => h nI_0))
  refine r_aload_n qX4_takeNamed_20 rfl ?_
  refine r_cv0 (cu2 := 0) (su2 := 0) qX4_takeNamed_21 kX4_290 rfl (by decide +kernel) (c := 4) (by assumption) (by decide) rfl rfl rfl rfl rfl rfl ?_
  refine c_X4_bathHere hM hP hS hS5 ?_
  show zR E _ _ X 24 _ _ _ _ _ _ _
  refine r_is_3_2 qX4_takeNamed_24 rfl rfl ?_
  exact K25 _ rfl

