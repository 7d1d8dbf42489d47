/-! ===== NAMES FOUND ===== -/
def fSp (N B : Nat → Int32) (L t k : Nat) : Bool := decide (sKind B L t = 1 ∧ N (10 + 4 * k + 1) = nI (sLtr B L t) ∧ (N (10 + 4 * k + 0)).toInt64 = sSpl B L t)
def fBa (N B : Nat → Int32) (L t k : Nat) : Bool := decide (sKind B L t = 1 ∧ N (30 + 3 * k + 1) = nI (sLtr B L t) ∧ (N (30 + 3 * k + 0)).toInt64 = sSpl B L t)
set_option maxHeartbeats 4000000 in
set_option maxRecDepth 20000 in
theorem c_X4_spiritHere {E : Ev} {g : Sh} {i : Ni} {j : Nj} {K : Kp} {x r b L t S : Nat} (hM : zM g x r) (hP : zPs i j x b L t) (hS : i r 3 = nI S) (hS5 : S ≤ 5) (hK : K (.inl (some (.int (sUntil (fSp (i r) (i b) L t) 0 S)))) g i j) : zCon E mX4_spiritHere [.ref x] g i j K := by
  refine zcon_of (by decide +kernel) rfl rfl (lo := [.ref x, zJ]) rfl (fun X => ?_)
  have hM' := hM
  obtain ⟨h1, h2, h3, h4⟩ := hM
  obtain ⟨p1, p2, p3, p4, p5⟩ := id hP
  obtain ⟨z8, z6, z7, z9, z11, z10⟩ := id p5
  have hk4 := sKind_lt (i b) L t
  have K2 : ∀ q p : Nat, p + q = S → (∀ v, v = sUntil (fSp (i r) (i b) L t) p q → v = sUntil (fSp (i r) (i b) L t) 0 S) → zR E mX4_spiritHere (zZ E mX4_spiritHere K) X 2 [.ref x, .int (nI p)] [] g i j 0 0 := by
    intro q
    induction q with
    | zero =>
      intro p hp hu
      obtain rfl : p = S := by omega
      have e := hu _ rfl
      rw [sUntil] at e
      refine r_iload_n qX4_spiritHere_2 rfl ?_
      refine r_aload_n qX4_spiritHere_3 rfl ?_
      refine r_getr qX4_spiritHere_4 fX4_24 rfl (by assumption) (by first | assumption | rfl) ?_
      refine r_iconst (v := nI 3) qX4_spiritHere_7 (by decide) ?_
      refine r_ialdN qX4_spiritHere_8 (by assumption) (by assumption) (by omega) rfl ?_
      rw [hS]
      refine r_icmp_ge (t := 56) qX4_spiritHere_9 (by decide) (fun hc9 => ?_) (fun hc9 => absurd hc9 (fun h => h (nI_le (by omega) (by omega))))
      refine r_iconst (v := (-1)) qX4_spiritHere_56 (by decide) ?_
      refine r_iret qX4_spiritHere_57 rfl rfl rfl rfl ?_
      rw [e]; exact hK
    | succ q ih =>
      intro p hp hu
      refine r_iload_n qX4_spiritHere_2 rfl ?_
      refine r_aload_n qX4_spiritHere_3 rfl ?_
      refine r_getr qX4_spiritHere_4 fX4_24 rfl (by assumption) (by first | assumption | rfl) ?_
      refine r_iconst (v := nI 3) qX4_spiritHere_7 (by decide) ?_
      refine r_ialdN qX4_spiritHere_8 (by assumption) (by assumption) (by omega) rfl ?_
      rw [hS]
      refine r_icmp_ge (t := 56) qX4_spiritHere_9 (by decide) (fun hc9 => absurd hc9 (nI_ge (by omega) (by omega))) (fun hc9 => ?_)
      refine r_aload_n qX4_spiritHere_12 rfl ?_
      refine r_geti qX4_spiritHere_13 fX4_235 rfl (by assumption) ?_
      refine r_iconst (v := nI 1) qX4_spiritHere_16 (by decide) ?_
      rw [z7]
      refine r_icmp_ne (t := 50) qX4_spiritHere_17 (by decide) (fun hc17 => ?_) (fun hc17 => ?_)
      · refine r_ii_2_1 qX4_spiritHere_50 rfl rfl (nI_inc p) ?_
        refine r_goto (t := 2) qX4_spiritHere_53 (by decide) ?_
        first | exact ih (p + 1) (by omega) (fun v hv => hu v (hv.trans (sUntil_n (fun h => hc17 (congrArg nI (of_decide_eq_true h).1))).symm)) | exact ih (p + 1) (by omega) (fun v hv => hu v (hv.trans (sUntil_n (fun h => hc30 (of_decide_eq_true h).2.1)).symm)) | exact ih (p + 1) (by omega) (fun v hv => hu v (hv.trans (sUntil_n (fun h => hc45 ((lg_cmp_eq _ _).mpr (of_decide_eq_true h).2.2))).symm))
      · refine r_aload_n qX4_spiritHere_20 rfl ?_
        refine r_iload_n qX4_spiritHere_21 rfl ?_
        refine r_iconst (v := nI 1) qX4_spiritHere_22 (by decide) ?_
        refine r_cv2 (cu2 := 0) (su2 := 0) qX4_spiritHere_23 kX4_152 rfl (by decide +kernel) (c := 4) (by assumption) (by decide) rfl rfl rfl rfl rfl rfl ?_
        refine c_X4_ofSpirit hM' (by omega) ?_
        show zR E _ _ X 26 _ _ _ _ _ _ _
        refine r_aload_n qX4_spiritHere_26 rfl ?_
        refine r_geti qX4_spiritHere_27 fX4_226 rfl (by assumption) ?_
        rw [z9]
        refine r_icmp_ne (t := 50) qX4_spiritHere_30 (by decide) (fun hc30 => ?_) (fun hc30 => ?_)
        · refine r_ii_2_1 qX4_spiritHere_50 rfl rfl (nI_inc p) ?_
          refine r_goto (t := 2) qX4_spiritHere_53 (by decide) ?_
          first | exact ih (p + 1) (by omega) (fun v hv => hu v (hv.trans (sUntil_n (fun h => hc17 (congrArg nI (of_decide_eq_true h).1))).symm)) | exact ih (p + 1) (by omega) (fun v hv => hu v (hv.trans (sUntil_n (fun h => hc30 (of_decide_eq_true h).2.1)).symm)) | exact ih (p + 1) (by omega) (fun v hv => hu v (hv.trans (sUntil_n (fun h => hc45 ((lg_cmp_eq _ _).mpr (of_decide_eq_true h).2.2))).symm))
        · refine r_aload_n qX4_spiritHere_33 rfl ?_
          refine r_iload_n qX4_spiritHere_34 rfl ?_
          refine r_iconst (v := nI 0) qX4_spiritHere_35 (by decide) ?_
          refine r_cv2 (cu2 := 0) (su2 := 0) qX4_spiritHere_36 kX4_152 rfl (by decide +kernel) (c := 4) (by assumption) (by decide) rfl rfl rfl rfl rfl rfl ?_
          refine c_X4_ofSpirit hM' (by omega) ?_
          show zR E _ _ X 39 _ _ _ _ _ _ _
          refine r_i2l qX4_spiritHere_39 ?_
          refine r_aload_n qX4_spiritHere_40 rfl ?_
          refine r_getl qX4_spiritHere_41 fX4_229 rfl (by assumption) ?_
          rw [z10]
          refine r_lcmp qX4_spiritHere_44 ?_
          refine r_if_ne (t := 50) qX4_spiritHere_45 (by decide) (fun hc45 => ?_) (fun hc45 => ?_)
          · refine r_ii_2_1 qX4_spiritHere_50 rfl rfl (nI_inc p) ?_
            refine r_goto (t := 2) qX4_spiritHere_53 (by decide) ?_
            first | exact ih (p + 1) (by omega) (fun v hv => hu v (hv.trans (sUntil_n (fun h => hc17 (congrArg nI (of_decide_eq_true h).1))).symm)) | exact ih (p + 1) (by omega) (fun v hv => hu v (hv.trans (sUntil_n (fun h => hc30 (of_decide_eq_true h).2.1)).symm)) | exact ih (p + 1) (by omega) (fun v hv => hu v (hv.trans (sUntil_n (fun h => hc45 ((lg_cmp_eq _ _).mpr (of_decide_eq_true h).2.2))).symm))
          · refine r_iload_n qX4_spiritHere_48 rfl ?_
            refine r_iret qX4_spiritHere_49 rfl rfl rfl rfl ?_
            have e := hu (nI p) (sUntil_y (decide_eq_true ⟨(nI_eq (by omega) (by omega)).mp hc17, hc30, (lg_cmp_eq _ _).mp hc45⟩)).symm; rw [e]; exact hK
  refine r_iconst (v := nI 0) qX4_spiritHere_0 (by decide) ?_
  refine r_is_2_1 qX4_spiritHere_1 rfl rfl ?_
  exact K2 S 0 (by omega) (fun v hv => hv)
set_option maxHeartbeats 4000000 in
set_option maxRecDepth 20000 in
theorem c_X4_bathHere {E : Ev} {g : Sh} {i : Ni} {j : Nj} {K : Kp} {x r b L t S : Nat} (hM : zM g x r) (hP : zPs i j x b L t) (hS : i r 4 = nI S) (hS5 : S ≤ 5) (hK : K (.inl (some (.int (sUntil (fBa (i r) (i b) L t) 0 S)))) g i j) : zCon E mX4_bathHere [.ref x] g i j K := by
  refine zcon_of (by decide +kernel) rfl rfl (lo := [.ref x, zJ]) rfl (fun X => ?_)
  have hM' := hM
  obtain ⟨h1, h2, h3, h4⟩ := hM
  obtain ⟨p1, p2, p3, p4, p5⟩ := id hP
  obtain ⟨z8, z6, z7, z9, z11, z10⟩ := id p5
  have hk4 := sKind_lt (i b) L t
  have K2 : ∀ q p : Nat, p + q = S → (∀ v, v = sUntil (fBa (i r) (i b) L t) p q → v = sUntil (fBa (i r) (i b) L t) 0 S) → zR E mX4_bathHere (zZ E mX4_bathHere K) X 2 [.ref x, .int (nI p)] [] g i j 0 0 := by
    intro q
    induction q with
    | zero =>
      intro p hp hu
      obtain rfl : p = S := by omega
      have e := hu _ rfl
      rw [sUntil] at e
      refine r_iload_n qX4_bathHere_2 rfl ?_
      refine r_aload_n qX4_bathHere_3 rfl ?_
      refine r_getr qX4_bathHere_4 fX4_24 rfl (by assumption) (by first | assumption | rfl) ?_
      refine r_iconst (v := nI 4) qX4_bathHere_7 (by decide) ?_
      refine r_ialdN qX4_bathHere_8 (by assumption) (by assumption) (by omega) rfl ?_
      rw [hS]
      refine r_icmp_ge (t := 56) qX4_bathHere_9 (by decide) (fun hc9 => ?_) (fun hc9 => absurd hc9 (fun h => h (nI_le (by omega) (by omega))))
      refine r_iconst (v := (-1)) qX4_bathHere_56 (by decide) ?_
      refine r_iret qX4_bathHere_57 rfl rfl rfl rfl ?_
      rw [e]; exact hK
    | succ q ih =>
      intro p hp hu
      refine r_iload_n qX4_bathHere_2 rfl ?_
      refine r_aload_n qX4_bathHere_3 rfl ?_
      refine r_getr qX4_bathHere_4 fX4_24 rfl (by assumption) (by first | assumption | rfl) ?_
      refine r_iconst (v := nI 4) qX4_bathHere_7 (by decide) ?_
      refine r_ialdN qX4_bathHere_8 (by assumption) (by assumption) (by omega) rfl ?_
      rw [hS]
      refine r_icmp_ge (t := 56) qX4_bathHere_9 (by decide) (fun hc9 => absurd hc9 (nI_ge (by omega) (by omega))) (fun hc9 => ?_)
      refine r_aload_n qX4_bathHere_12 rfl ?_
      refine r_geti qX4_bathHere_13 fX4_235 rfl (by assumption) ?_
      refine r_iconst (v := nI 1) qX4_bathHere_16 (by decide) ?_
      rw [z7]
      refine r_icmp_ne (t := 50) qX4_bathHere_17 (by decide) (fun hc17 => ?_) (fun hc17 => ?_)
      · refine r_ii_2_1 qX4_bathHere_50 rfl rfl (nI_inc p) ?_
        refine r_goto (t := 2) qX4_bathHere_53 (by decide) ?_
        first | exact ih (p + 1) (by omega) (fun v hv => hu v (hv.trans (sUntil_n (fun h => hc17 (congrArg nI (of_decide_eq_true h).1))).symm)) | exact ih (p + 1) (by omega) (fun v hv => hu v (hv.trans (sUntil_n (fun h => hc30 (of_decide_eq_true h).2.1)).symm)) | exact ih (p + 1) (by omega) (fun v hv => hu v (hv.trans (sUntil_n (fun h => hc45 ((lg_cmp_eq _ _).mpr (of_decide_eq_true h).2.2))).symm))
      · refine r_aload_n qX4_bathHere_20 rfl ?_
        refine r_iload_n qX4_bathHere_21 rfl ?_
        refine r_iconst (v := nI 1) qX4_bathHere_22 (by decide) ?_
        refine r_cv2 (cu2 := 0) (su2 := 0) qX4_bathHere_23 kX4_166 rfl (by decide +kernel) (c := 4) (by assumption) (by decide) rfl rfl rfl rfl rfl rfl ?_
        refine c_X4_ofBath hM' (by omega) ?_
        show zR E _ _ X 26 _ _ _ _ _ _ _
        refine r_aload_n qX4_bathHere_26 rfl ?_
        refine r_geti qX4_bathHere_27 fX4_226 rfl (by assumption) ?_
        rw [z9]
        refine r_icmp_ne (t := 50) qX4_bathHere_30 (by decide) (fun hc30 => ?_) (fun hc30 => ?_)
        · refine r_ii_2_1 qX4_bathHere_50 rfl rfl (nI_inc p) ?_
          refine r_goto (t := 2) qX4_bathHere_53 (by decide) ?_
          first | exact ih (p + 1) (by omega) (fun v hv => hu v (hv.trans (sUntil_n (fun h => hc17 (congrArg nI (of_decide_eq_true h).1))).symm)) | exact ih (p + 1) (by omega) (fun v hv => hu v (hv.trans (sUntil_n (fun h => hc30 (of_decide_eq_true h).2.1)).symm)) | exact ih (p + 1) (by omega) (fun v hv => hu v (hv.trans (sUntil_n (fun h => hc45 ((lg_cmp_eq _ _).mpr (of_decide_eq_true h).2.2))).symm))
        · refine r_aload_n qX4_bathHere_33 rfl ?_
          refine r_iload_n qX4_bathHere_34 rfl ?_
          refine r_iconst (v := nI 0) qX4_bathHere_35 (by decide) ?_
          refine r_cv2 (cu2 := 0) (su2 := 0) qX4_bathHere_36 kX4_166 rfl (by decide +kernel) (c := 4) (by assumption) (by decide) rfl rfl rfl rfl rfl rfl ?_
          refine c_X4_ofBath hM' (by omega) ?_
          show zR E _ _ X 39 _ _ _ _ _ _ _
          refine r_i2l qX4_bathHere_39 ?_
          refine r_aload_n qX4_bathHere_40 rfl ?_
          refine r_getl qX4_bathHere_41 fX4_229 rfl (by assumption) ?_
          rw [z10]
          refine r_lcmp qX4_bathHere_44 ?_
          refine r_if_ne (t := 50) qX4_bathHere_45 (by decide) (fun hc45 => ?_) (fun hc45 => ?_)
          · refine r_ii_2_1 qX4_bathHere_50 rfl rfl (nI_inc p) ?_
            refine r_goto (t := 2) qX4_bathHere_53 (by decide) ?_
            first | exact ih (p + 1) (by omega) (fun v hv => hu v (hv.trans (sUntil_n (fun h => hc17 (congrArg nI (of_decide_eq_true h).1))).symm)) | exact ih (p + 1) (by omega) (fun v hv => hu v (hv.trans (sUntil_n (fun h => hc30 (of_decide_eq_true h).2.1)).symm)) | exact ih (p + 1) (by omega) (fun v hv => hu v (hv.trans (sUntil_n (fun h => hc45 ((lg_cmp_eq _ _).mpr (of_decide_eq_true h).2.2))).symm))
          · refine r_iload_n qX4_bathHere_48 rfl ?_
            refine r_iret qX4_bathHere_49 rfl rfl rfl rfl ?_
            have e := hu (nI p) (sUntil_y (decide_eq_true ⟨(nI_eq (by omega) (by omega)).mp hc17, hc30, (lg_cmp_eq _ _).mp hc45⟩)).symm; rw [e]; exact hK
  refine r_iconst (v := nI 0) qX4_bathHere_0 (by decide) ?_
  refine r_is_2_1 qX4_bathHere_1 rfl rfl ?_
  exact K2 S 0 (by omega) (fun v hv => hv)

