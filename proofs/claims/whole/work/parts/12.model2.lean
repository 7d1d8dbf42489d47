set_option maxHeartbeats 4000000 in
set_option maxRecDepth 20000 in
theorem c_X4_around {E : Ev} {g : Sh} {i : Ni} {j : Nj} {K : Kp} {x r k : Nat} (hM : zM g x r) (hO : zOk (i r)) (hk : k < zn (i r 5)) (hK : K (.inl (some (.int (sAround (i r) k)))) g i j) : zCon E mX4_around [.ref x, .int (nI k)] g i j K := by
  refine zcon_of (by decide +kernel) rfl rfl (lo := [.ref x, .int (nI k), zJ]) rfl (fun X => ?_)
  have hM' := hM
  obtain ⟨h1, h2, h3, h4⟩ := hM
  have h8 := hO.k8 hk
  have hb := hO.bath hk
  refine r_aload_n qX4_around_0 rfl ?_
  refine r_getr qX4_around_1 fX4_24 rfl (by assumption) (by first | assumption | rfl) ?_
  refine r_bipush (v := nI 6) qX4_around_4 (by decide) ?_
  refine r_ialdN qX4_around_6 (by assumption) (by assumption) (by omega) rfl ?_
  refine r_iload_n qX4_around_7 rfl ?_
  refine r_icmp_ne (t := 15) qX4_around_8 (by decide) (fun hc8 => ?_) (fun hc8 => ?_)
  · refine r_aload_n qX4_around_15 rfl ?_
    refine r_iload_n qX4_around_16 rfl ?_
    refine r_bipush (v := nI 7) qX4_around_17 (by decide) ?_
    refine r_cv2 (cu2 := 0) (su2 := 0) qX4_around_19 kX4_148 rfl (by decide +kernel) (c := 4) (by assumption) (by decide) rfl rfl rfl rfl rfl rfl ?_
    refine c_X4_of (by first | assumption | omega | rfl | decide) (by first | assumption | omega | rfl | decide) ?_
    show zR E _ _ X 22 _ _ _ _ _ _ _
    refine r_is_3_2 qX4_around_22 rfl rfl ?_
    refine r_bipush (v := nI 10) qX4_around_23 (by decide) ?_
    refine r_iload_n qX4_around_25 rfl ?_
    refine r_iconst (v := (-1)) qX4_around_26 (by decide) ?_
    refine r_icmp_ne (t := 39) qX4_around_27 (by decide) (fun hc27 => ?_) (fun hc27 => ?_)
    · obtain ⟨b, hb1, hb2⟩ := hb.resolve_left hc27; rw [hb1]
      refine r_aload_n qX4_around_39 rfl ?_
      refine r_iload_n qX4_around_40 rfl ?_
      refine r_iconst (v := nI 2) qX4_around_41 (by decide) ?_
      refine r_cv2 (cu2 := 0) (su2 := 0) qX4_around_42 kX4_166 rfl (by decide +kernel) (c := 4) (by assumption) (by decide) rfl rfl rfl rfl rfl rfl ?_
      refine c_X4_ofBath (by first | assumption | omega | rfl | decide) (by first | assumption | omega | rfl | decide) ?_
      show zR E _ _ X 45 _ _ _ _ _ _ _
      first | with_reducible refine r_imulN qX4_around_45 ?_ | refine r_imul qX4_around_45 ?_
      refine r_iret qX4_around_46 rfl rfl rfl rfl ?_
      first | (rw [sAround, if_neg hc8, if_pos hc27] at hK; exact hK) | (rw [sAround, if_neg hc8, if_neg hc27, hb1, zn_nI (by omega)] at hK; exact hK)
    · refine r_aload_n qX4_around_30 rfl ?_
      refine r_getr qX4_around_31 fX4_24 rfl (by assumption) (by first | assumption | rfl) ?_
      refine r_iconst (v := nI 0) qX4_around_34 (by decide) ?_
      refine r_ialdN qX4_around_35 (by assumption) (by assumption) (by omega) rfl ?_
      refine r_goto (t := 45) qX4_around_36 (by decide) ?_
      first | with_reducible refine r_imulN qX4_around_45 ?_ | refine r_imul qX4_around_45 ?_
      refine r_iret qX4_around_46 rfl rfl rfl rfl ?_
      first | (rw [sAround, if_neg hc8, if_pos hc27] at hK; exact hK) | (rw [sAround, if_neg hc8, if_neg hc27, hb1, zn_nI (by omega)] at hK; exact hK)
  · refine r_sipush (v := nI 370) qX4_around_11 (by decide) ?_
    refine r_iret qX4_around_14 rfl rfl rfl rfl ?_
    rw [sAround, if_pos hc8] at hK; exact hK
set_option maxHeartbeats 4000000 in
set_option maxRecDepth 20000 in
theorem c_X4_isStill {E : Ev} {g : Sh} {i : Ni} {j : Nj} {K : Kp} {x r k : Nat} (hM : zM g x r) (hO : zOk (i r)) (hk : k < zn (i r 5)) (hK : K (.inl (some (.int (zb (i r (42 + 21 * k + 5) = sAround (i r) k))))) g i j) : zCon E mX4_isStill [.ref x, .int (nI k)] g i j K := by
  refine zcon_of (by decide +kernel) rfl rfl (lo := [.ref x, .int (nI k)]) rfl (fun X => ?_)
  have hM' := hM
  obtain ⟨h1, h2, h3, h4⟩ := hM
  have h8 := hO.k8 hk
  refine r_aload_n qX4_isStill_0 rfl ?_
  refine r_iload_n qX4_isStill_1 rfl ?_
  refine r_iconst (v := nI 5) qX4_isStill_2 (by decide) ?_
  refine r_cv2 (cu2 := 0) (su2 := 0) qX4_isStill_3 kX4_148 rfl (by decide +kernel) (c := 4) (by assumption) (by decide) rfl rfl rfl rfl rfl rfl ?_
  refine c_X4_of (by first | assumption | omega | rfl | decide) (by first | assumption | omega | rfl | decide) ?_
  show zR E _ _ X 6 _ _ _ _ _ _ _
  refine r_aload_n qX4_isStill_6 rfl ?_
  refine r_iload_n qX4_isStill_7 rfl ?_
  refine r_cv1 (cu2 := 0) (su2 := 0) qX4_isStill_8 kX4_169 rfl (by decide +kernel) (c := 4) (by assumption) (by decide) rfl rfl rfl rfl rfl rfl ?_
  refine c_X4_around (by first | assumption | omega | rfl | decide) (by first | assumption | omega | rfl | decide) (by first | assumption | omega | rfl | decide) ?_
  show zR E _ _ X 11 _ _ _ _ _ _ _
  refine r_icmp_ne (t := 18) qX4_isStill_11 (by decide) (fun hc11 => ?_) (fun hc11 => ?_)
  · refine r_iconst (v := nI 0) qX4_isStill_18 (by decide) ?_
    refine r_iret qX4_isStill_19 rfl (by first | decide | exact zb_nar _ | assumption) rfl rfl ?_
    first | (rw [zb_f hc11] at hK; exact hK) | (rw [zb_t hc11] at hK; exact hK)
  · refine r_iconst (v := nI 1) qX4_isStill_14 (by decide) ?_
    refine r_goto (t := 19) qX4_isStill_15 (by decide) ?_
    refine r_iret qX4_isStill_19 rfl (by first | decide | exact zb_nar _ | assumption) rfl rfl ?_
    first | (rw [zb_f hc11] at hK; exact hK) | (rw [zb_t hc11] at hK; exact hK)
set_option maxHeartbeats 4000000 in
set_option maxRecDepth 20000 in
theorem c_X4_degreesOf {E : Ev} {g : Sh} {i : Ni} {j : Nj} {K : Kp} {x r k p : Nat} (hM : zM g x r) (hk : k < 8) (hp : p < 6) (hK : K (.inl (some (.int (sDeg (i r) k p)))) g i j) : zCon E mX4_degreesOf [.ref x, .int (nI k), .int (nI p)] g i j K := by
  refine zcon_of (by decide +kernel) rfl rfl (lo := [.ref x, .int (nI k), .int (nI p)]) rfl (fun X => ?_)
  have hM' := hM
  obtain ⟨h1, h2, h3, h4⟩ := hM
  refine r_aload_n qX4_degreesOf_0 rfl ?_
  refine r_iload_n qX4_degreesOf_1 rfl ?_
  refine r_bipush (v := nI 9) qX4_degreesOf_2 (by decide) ?_
  refine r_iconst (v := nI 2) qX4_degreesOf_4 (by decide) ?_
  refine r_iload_n qX4_degreesOf_5 rfl ?_
  first | with_reducible refine r_imulN qX4_degreesOf_6 ?_ | refine r_imul qX4_degreesOf_6 ?_
  first | with_reducible refine r_iaddN qX4_degreesOf_7 ?_ | refine r_iadd qX4_degreesOf_7 ?_
  refine r_cv2 (cu2 := 0) (su2 := 0) qX4_degreesOf_8 kX4_148 rfl (by decide +kernel) (c := 4) (by assumption) (by decide) rfl rfl rfl rfl rfl rfl ?_
  refine c_X4_of (by first | assumption | omega | rfl | decide) (by first | assumption | omega | rfl | decide) ?_
  show zR E _ _ X 11 _ _ _ _ _ _ _
  refine r_iret qX4_degreesOf_11 rfl rfl rfl rfl ?_
  exact hK
set_option maxHeartbeats 4000000 in
set_option maxRecDepth 20000 in
theorem c_X4_heightOf {E : Ev} {g : Sh} {i : Ni} {j : Nj} {K : Kp} {x r k p : Nat} (hM : zM g x r) (hk : k < 8) (hp : p < 6) (hK : K (.inl (some (.int (sHgt (i r) k p)))) g i j) : zCon E mX4_heightOf [.ref x, .int (nI k), .int (nI p)] g i j K := by
  refine zcon_of (by decide +kernel) rfl rfl (lo := [.ref x, .int (nI k), .int (nI p)]) rfl (fun X => ?_)
  have hM' := hM
  obtain ⟨h1, h2, h3, h4⟩ := hM
  refine r_aload_n qX4_heightOf_0 rfl ?_
  refine r_iload_n qX4_heightOf_1 rfl ?_
  refine r_bipush (v := nI 9) qX4_heightOf_2 (by decide) ?_
  refine r_iconst (v := nI 2) qX4_heightOf_4 (by decide) ?_
  refine r_iload_n qX4_heightOf_5 rfl ?_
  first | with_reducible refine r_imulN qX4_heightOf_6 ?_ | refine r_imul qX4_heightOf_6 ?_
  first | with_reducible refine r_iaddN qX4_heightOf_7 ?_ | refine r_iadd qX4_heightOf_7 ?_
  refine r_iconst (v := nI 1) qX4_heightOf_8 (by decide) ?_
  first | with_reducible refine r_iaddN qX4_heightOf_9 ?_ | refine r_iadd qX4_heightOf_9 ?_
  refine r_cv2 (cu2 := 0) (su2 := 0) qX4_heightOf_10 kX4_148 rfl (by decide +kernel) (c := 4) (by assumption) (by decide) rfl rfl rfl rfl rfl rfl ?_
  refine c_X4_of (by first | assumption | omega | rfl | decide) (by first | assumption | omega | rfl | decide) ?_
  show zR E _ _ X 13 _ _ _ _ _ _ _
  refine r_iret qX4_heightOf_13 rfl rfl rfl rfl ?_
  exact hK
set_option maxHeartbeats 4000000 in
set_option maxRecDepth 20000 in
theorem c_X4_hasDegrees {E : Ev} {g : Sh} {i : Ni} {j : Nj} {K : Kp} {x r k : Nat} {v : Int32} (hM : zM g x r) (hO : zOk (i r)) (hk : k < zn (i r 5)) (hK : K (.inl (some (.int (zb (sHas (sDeg (i r) k) v (sMany (i r) k) = true))))) g i j) : zCon E mX4_hasDegrees [.ref x, .int (nI k), .int v] g i j K := by
  refine zcon_of (by decide +kernel) rfl rfl (lo := [.ref x, .int (nI k), .int v, zJ, zJ]) rfl (fun X => ?_)
  have hM' := hM
  obtain ⟨h1, h2, h3, h4⟩ := hM
  have h8 := hO.k8 hk
  obtain ⟨hm, hm6⟩ := hO.many hk
  generalize hmm : sMany (i r) k = m at *
  have K5 : ∀ n p : Nat, n = m - p → p ≤ m → zR E mX4_hasDegrees (zZ E mX4_hasDegrees K) X 5 [.ref x, .int (nI k), .int v, .int (zb (sHas (sDeg (i r) k) v p = true)), .int (nI p)] [] g i j 0 0 := by
    intro n
    induction n with
    | zero =>
      intro p hp hpm
      obtain rfl : p = m := by omega
      refine r_iload qX4_hasDegrees_5 rfl ?_
      refine r_aload_n qX4_hasDegrees_7 rfl ?_
      refine r_iload_n qX4_hasDegrees_8 rfl ?_
      refine r_bipush (v := nI 8) qX4_hasDegrees_9 (by decide) ?_
      refine r_cv2 (cu2 := 0) (su2 := 0) qX4_hasDegrees_11 kX4_148 rfl (by decide +kernel) (c := 4) (by assumption) (by decide) rfl rfl rfl rfl rfl rfl ?_
      refine c_X4_of (by first | assumption | omega | rfl | decide) (by first | assumption | omega | rfl | decide) ?_
      show zR E _ _ X 14 _ _ _ _ _ _ _
      rw [hm]
      refine r_icmp_ge (t := 44) qX4_hasDegrees_14 (by decide) (fun hc14 => ?_) (fun hc14 => absurd hc14 (fun h => h (nI_le (Nat.le_refl _) (by omega))))
      refine r_iload_n qX4_hasDegrees_44 rfl ?_
      refine r_iret qX4_hasDegrees_45 rfl (by first | decide | exact zb_nar _ | assumption) rfl rfl ?_
      exact hK
    | succ n ih =>
      intro p hp hpm
      have hpl : p < m := by omega
      refine r_iload qX4_hasDegrees_5 rfl ?_
      refine r_aload_n qX4_hasDegrees_7 rfl ?_
      refine r_iload_n qX4_hasDegrees_8 rfl ?_
      refine r_bipush (v := nI 8) qX4_hasDegrees_9 (by decide) ?_
      refine r_cv2 (cu2 := 0) (su2 := 0) qX4_hasDegrees_11 kX4_148 rfl (by decide +kernel) (c := 4) (by assumption) (by decide) rfl rfl rfl rfl rfl rfl ?_
      refine c_X4_of (by first | assumption | omega | rfl | decide) (by first | assumption | omega | rfl | decide) ?_
      show zR E _ _ X 14 _ _ _ _ _ _ _
      rw [hm]
      refine r_icmp_ge (t := 44) qX4_hasDegrees_14 (by decide) (fun hc14 => absurd hc14 (nI_ge hpl (by omega))) (fun hc14 => ?_)
      refine r_iload_n qX4_hasDegrees_17 rfl ?_
      refine r_if_ne (t := 32) qX4_hasDegrees_18 (by decide) (fun hc18 => ?_) (fun hc18 => ?_)
      · refine r_iconst (v := nI 1) qX4_hasDegrees_32 (by decide) ?_
        refine r_goto (t := 37) qX4_hasDegrees_33 (by decide) ?_
        refine r_is_5_3 qX4_hasDegrees_37 rfl rfl ?_
        refine r_ii_5_4 qX4_hasDegrees_38 rfl rfl (nI_inc p) ?_
        refine r_goto (t := 5) qX4_hasDegrees_41 (by decide) ?_
        first | exact (by have z := ih (p + 1) (by omega) (by omega); rwa [zb_t (sHas_l (zb_ne.mp hc18))] at z) | exact (by have z := ih (p + 1) (by omega) (by omega); rwa [zb_t (sHas_r hc29)] at z) | exact (by have z := ih (p + 1) (by omega) (by omega); rwa [zb_f (sHas_n (zb_0.mp hc18) hc29)] at z)
      · refine r_aload_n qX4_hasDegrees_21 rfl ?_
        refine r_iload_n qX4_hasDegrees_22 rfl ?_
        refine r_iload qX4_hasDegrees_23 rfl ?_
        refine r_cv2 (cu2 := 0) (su2 := 0) qX4_hasDegrees_25 kX4_172 rfl (by decide +kernel) (c := 4) (by assumption) (by decide) rfl rfl rfl rfl rfl rfl ?_
        refine c_X4_degreesOf (by first | assumption | omega | rfl | decide) (by first | assumption | omega | rfl | decide) (by first | assumption | omega | rfl | decide) ?_
        show zR E _ _ X 28 _ _ _ _ _ _ _
        refine r_iload_n qX4_hasDegrees_28 rfl ?_
        refine r_icmp_ne (t := 36) qX4_hasDegrees_29 (by decide) (fun hc29 => ?_) (fun hc29 => ?_)
        · refine r_iconst (v := nI 0) qX4_hasDegrees_36 (by decide) ?_
          refine r_is_5_3 qX4_hasDegrees_37 rfl rfl ?_
          refine r_ii_5_4 qX4_hasDegrees_38 rfl rfl (nI_inc p) ?_
          refine r_goto (t := 5) qX4_hasDegrees_41 (by decide) ?_
          first | exact (by have z := ih (p + 1) (by omega) (by omega); rwa [zb_t (sHas_l (zb_ne.mp hc18))] at z) | exact (by have z := ih (p + 1) (by omega) (by omega); rwa [zb_t (sHas_r hc29)] at z) | exact (by have z := ih (p + 1) (by omega) (by omega); rwa [zb_f (sHas_n (zb_0.mp hc18) hc29)] at z)
        · refine r_iconst (v := nI 1) qX4_hasDegrees_32 (by decide) ?_
          refine r_goto (t := 37) qX4_hasDegrees_33 (by decide) ?_
          refine r_is_5_3 qX4_hasDegrees_37 rfl rfl ?_
          refine r_ii_5_4 qX4_hasDegrees_38 rfl rfl (nI_inc p) ?_
          refine r_goto (t := 5) qX4_hasDegrees_41 (by decide) ?_
          first | exact (by have z := ih (p + 1) (by omega) (by omega); rwa [zb_t (sHas_l (zb_ne.mp hc18))] at z) | exact (by have z := ih (p + 1) (by omega) (by omega); rwa [zb_t (sHas_r hc29)] at z) | exact (by have z := ih (p + 1) (by omega) (by omega); rwa [zb_f (sHas_n (zb_0.mp hc18) hc29)] at z)
  refine r_iconst (v := nI 0) qX4_hasDegrees_0 (by decide) ?_
  refine r_is_5_3 qX4_hasDegrees_1 rfl rfl ?_
  refine r_iconst (v := nI 0) qX4_hasDegrees_2 (by decide) ?_
  refine r_is_5_4 qX4_hasDegrees_3 rfl rfl ?_
  exact K5 m 0 (by omega) (by omega)
set_option maxHeartbeats 4000000 in
set_option maxRecDepth 20000 in
theorem c_X4_hasHeight {E : Ev} {g : Sh} {i : Ni} {j : Nj} {K : Kp} {x r k : Nat} {v : Int32} (hM : zM g x r) (hO : zOk (i r)) (hk : k < zn (i r 5)) (hK : K (.inl (some (.int (zb (sHas (sHgt (i r) k) v (sMany (i r) k) = true))))) g i j) : zCon E mX4_hasHeight [.ref x, .int (nI k), .int v] g i j K := by
  refine zcon_of (by decide +kernel) rfl rfl (lo := [.ref x, .int (nI k), .int v, zJ, zJ]) rfl (fun X => ?_)
  have hM' := hM
  obtain ⟨h1, h2, h3, h4⟩ := hM
  have h8 := hO.k8 hk
  obtain ⟨hm, hm6⟩ := hO.many hk
  generalize hmm : sMany (i r) k = m at *
  have K5 : ∀ n p : Nat, n = m - p → p ≤ m → zR E mX4_hasHeight (zZ E mX4_hasHeight K) X 5 [.ref x, .int (nI k), .int v, .int (zb (sHas (sHgt (i r) k) v p = true)), .int (nI p)] [] g i j 0 0 := by
    intro n
    induction n with
    | zero =>
      intro p hp hpm
      obtain rfl : p = m := by omega
      refine r_iload qX4_hasHeight_5 rfl ?_
      refine r_aload_n qX4_hasHeight_7 rfl ?_
      refine r_iload_n qX4_hasHeight_8 rfl ?_
      refine r_bipush (v := nI 8) qX4_hasHeight_9 (by decide) ?_
      refine r_cv2 (cu2 := 0) (su2 := 0) qX4_hasHeight_11 kX4_148 rfl (by decide +kernel) (c := 4) (by assumption) (by decide) rfl rfl rfl rfl rfl rfl ?_
      refine c_X4_of (by first | assumption | omega | rfl | decide) (by first | assumption | omega | rfl | decide) ?_
      show zR E _ _ X 14 _ _ _ _ _ _ _
      rw [hm]
      refine r_icmp_ge (t := 44) qX4_hasHeight_14 (by decide) (fun hc14 => ?_) (fun hc14 => absurd hc14 (fun h => h (nI_le (Nat.le_refl _) (by omega))))
      refine r_iload_n qX4_hasHeight_44 rfl ?_
      refine r_iret qX4_hasHeight_45 rfl (by first | decide | exact zb_nar _ | assumption) rfl rfl ?_
      exact hK
    | succ n ih =>
      intro p hp hpm
      have hpl : p < m := by omega
      refine r_iload qX4_hasHeight_5 rfl ?_
      refine r_aload_n qX4_hasHeight_7 rfl ?_
      refine r_iload_n qX4_hasHeight_8 rfl ?_
      refine r_bipush (v := nI 8) qX4_hasHeight_9 (by decide) ?_
      refine r_cv2 (cu2 := 0) (su2 := 0) qX4_hasHeight_11 kX4_148 rfl (by decide +kernel) (c := 4) (by assumption) (by decide) rfl rfl rfl rfl rfl rfl ?_
      refine c_X4_of (by first | assumption | omega | rfl | decide) (by first | assumption | omega | rfl | decide) ?_
      show zR E _ _ X 14 _ _ _ _ _ _ _
      rw [hm]
      refine r_icmp_ge (t := 44) qX4_hasHeight_14 (by decide) (fun hc14 => absurd hc14 (nI_ge hpl (by omega))) (fun hc14 => ?_)
      refine r_iload_n qX4_hasHeight_17 rfl ?_
      refine r_if_ne (t := 32) qX4_hasHeight_18 (by decide) (fun hc18 => ?_) (fun hc18 => ?_)
      · refine r_iconst (v := nI 1) qX4_hasHeight_32 (by decide) ?_
        refine r_goto (t := 37) qX4_hasHeight_33 (by decide) ?_
        refine r_is_5_3 qX4_hasHeight_37 rfl rfl ?_
        refine r_ii_5_4 qX4_hasHeight_38 rfl rfl (nI_inc p) ?_
        refine r_goto (t := 5) qX4_hasHeight_41 (by decide) ?_
        first | exact (by have z := ih (p + 1) (by omega) (by omega); rwa [zb_t (sHas_l (zb_ne.mp hc18))] at z) | exact (by have z := ih (p + 1) (by omega) (by omega); rwa [zb_t (sHas_r hc29)] at z) | exact (by have z := ih (p + 1) (by omega) (by omega); rwa [zb_f (sHas_n (zb_0.mp hc18) hc29)] at z)
      · refine r_aload_n qX4_hasHeight_21 rfl ?_
        refine r_iload_n qX4_hasHeight_22 rfl ?_
        refine r_iload qX4_hasHeight_23 rfl ?_
        refine r_cv2 (cu2 := 0) (su2 := 0) qX4_hasHeight_25 kX4_175 rfl (by decide +kernel) (c := 4) (by assumption) (by decide) rfl rfl rfl rfl rfl rfl ?_
        refine c_X4_heightOf (by first | assumption | omega | rfl | decide) (by first | assumption | omega | rfl | decide) (by first | assumption | omega | rfl | decide) ?_
        show zR E _ _ X 28 _ _ _ _ _ _ _
        refine r_iload_n qX4_hasHeight_28 rfl ?_
        refine r_icmp_ne (t := 36) qX4_hasHeight_29 (by decide) (fun hc29 => ?_) (fun hc29 => ?_)
        · refine r_iconst (v := nI 0) qX4_hasHeight_36 (by decide) ?_
          refine r_is_5_3 qX4_hasHeight_37 rfl rfl ?_
          refine r_ii_5_4 qX4_hasHeight_38 rfl rfl (nI_inc p) ?_
          refine r_goto (t := 5) qX4_hasHeight_41 (by decide) ?_
          first | exact (by have z := ih (p + 1) (by omega) (by omega); rwa [zb_t (sHas_l (zb_ne.mp hc18))] at z) | exact (by have z := ih (p + 1) (by omega) (by omega); rwa [zb_t (sHas_r hc29)] at z) | exact (by have z := ih (p + 1) (by omega) (by omega); rwa [zb_f (sHas_n (zb_0.mp hc18) hc29)] at z)
        · refine r_iconst (v := nI 1) qX4_hasHeight_32 (by decide) ?_
          refine r_goto (t := 37) qX4_hasHeight_33 (by decide) ?_
          refine r_is_5_3 qX4_hasHeight_37 rfl rfl ?_
          refine r_ii_5_4 qX4_hasHeight_38 rfl rfl (nI_inc p) ?_
          refine r_goto (t := 5) qX4_hasHeight_41 (by decide) ?_
          first | exact (by have z := ih (p + 1) (by omega) (by omega); rwa [zb_t (sHas_l (zb_ne.mp hc18))] at z) | exact (by have z := ih (p + 1) (by omega) (by omega); rwa [zb_t (sHas_r hc29)] at z) | exact (by have z := ih (p + 1) (by omega) (by omega); rwa [zb_f (sHas_n (zb_0.mp hc18) hc29)] at z)
  refine r_iconst (v := nI 0) qX4_hasHeight_0 (by decide) ?_
  refine r_is_5_3 qX4_hasHeight_1 rfl rfl ?_
  refine r_iconst (v := nI 0) qX4_hasHeight_2 (by decide) ?_
  refine r_is_5_4 qX4_hasHeight_3 rfl rfl ?_
  exact K5 m 0 (by omega) (by omega)
set_option maxHeartbeats 4000000 in
set_option maxRecDepth 20000 in
theorem c_X4_reasonToDip {E : Ev} {g : Sh} {i : Ni} {j : Nj} {K : Kp} {x r k : Nat} {b : Int32} (hM : zM g x r) (hk : k < 8) (hK : K (.inl (some (.int (sDip (i r) k b)))) g i j) : zCon E mX4_reasonToDip [.ref x, .int (nI k), .int b] g i j K := by
  refine zcon_of (by decide +kernel) rfl rfl (lo := [.ref x, .int (nI k), .int b]) rfl (fun X => ?_)
  have hM' := hM
  obtain ⟨h1, h2, h3, h4⟩ := hM
  refine r_aload_n qX4_reasonToDip_0 rfl ?_
  refine r_iload_n qX4_reasonToDip_1 rfl ?_
  refine r_bipush (v := nI 7) qX4_reasonToDip_2 (by decide) ?_
  refine r_cv2 (cu2 := 0) (su2 := 0) qX4_reasonToDip_4 kX4_148 rfl (by decide +kernel) (c := 4) (by assumption) (by decide) rfl rfl rfl rfl rfl rfl ?_
  refine c_X4_of (by first | assumption | omega | rfl | decide) (by first | assumption | omega | rfl | decide) ?_
  show zR E _ _ X 7 _ _ _ _ _ _ _
  refine r_iload_n qX4_reasonToDip_7 rfl ?_
  refine r_icmp_ne (t := 13) qX4_reasonToDip_8 (by decide) (fun hc8 => ?_) (fun hc8 => ?_)
  · refine r_aload_n qX4_reasonToDip_13 rfl ?_
    refine r_getr qX4_reasonToDip_14 fX4_24 rfl (by assumption) (by first | assumption | rfl) ?_
    refine r_bipush (v := nI 6) qX4_reasonToDip_17 (by decide) ?_
    refine r_ialdN qX4_reasonToDip_19 (by assumption) (by assumption) (by omega) rfl ?_
    refine r_iload_n qX4_reasonToDip_20 rfl ?_
    refine r_icmp_ne (t := 28) qX4_reasonToDip_21 (by decide) (fun hc21 => ?_) (fun hc21 => ?_)
    · refine r_iconst (v := nI 0) qX4_reasonToDip_28 (by decide) ?_
      refine r_iret qX4_reasonToDip_29 rfl rfl rfl rfl ?_
      first | (rw [sDip, if_pos hc8] at hK; exact hK) | (rw [sDip, if_neg hc8, if_pos hc21] at hK; exact hK) | (rw [sDip, if_neg hc8, if_neg hc21] at hK; exact hK)
    · refine r_iconst (v := nI 2) qX4_reasonToDip_24 (by decide) ?_
      refine r_goto (t := 29) qX4_reasonToDip_25 (by decide) ?_
      refine r_iret qX4_reasonToDip_29 rfl rfl rfl rfl ?_
      first | (rw [sDip, if_pos hc8] at hK; exact hK) | (rw [sDip, if_neg hc8, if_pos hc21] at hK; exact hK) | (rw [sDip, if_neg hc8, if_neg hc21] at hK; exact hK)
  · refine r_iconst (v := nI 1) qX4_reasonToDip_11 (by decide) ?_
    refine r_iret qX4_reasonToDip_12 rfl rfl rfl rfl ?_
    first | (rw [sDip, if_pos hc8] at hK; exact hK) | (rw [sDip, if_neg hc8, if_pos hc21] at hK; exact hK) | (rw [sDip, if_neg hc8, if_neg hc21] at hK; exact hK)
set_option maxHeartbeats 4000000 in
set_option maxRecDepth 20000 in
theorem c_X4_reasonToMark {E : Ev} {g : Sh} {i : Ni} {j : Nj} {K : Kp} {x r k : Nat} (hM : zM g x r) (hO : zOk (i r)) (hk : k < zn (i r 5)) (hK : K (.inl (some (.int (sMark (i r) k)))) g i j) : zCon E mX4_reasonToMark [.ref x, .int (nI k)] g i j K := by
  refine zcon_of (by decide +kernel) rfl rfl (lo := [.ref x, .int (nI k), zJ]) rfl (fun X => ?_)
  have hM' := hM
  obtain ⟨h1, h2, h3, h4⟩ := hM
  have h8 := hO.k8 hk
  have hb := hO.bath hk
  have hf := hO.f hk
  obtain ⟨hm, hm6⟩ := hO.many hk
  refine r_aload_n qX4_reasonToMark_0 rfl ?_
  refine r_iload_n qX4_reasonToMark_1 rfl ?_
  refine r_bipush (v := nI 7) qX4_reasonToMark_2 (by decide) ?_
  refine r_cv2 (cu2 := 0) (su2 := 0) qX4_reasonToMark_4 kX4_148 rfl (by decide +kernel) (c := 4) (by assumption) (by decide) rfl rfl rfl rfl rfl rfl ?_
  refine c_X4_of (by first | assumption | omega | rfl | decide) (by first | assumption | omega | rfl | decide) ?_
  show zR E _ _ X 7 _ _ _ _ _ _ _
  refine r_is_3_2 qX4_reasonToMark_7 rfl rfl ?_
  refine r_iload_n qX4_reasonToMark_8 rfl ?_
  refine r_iconst (v := (-1)) qX4_reasonToMark_9 (by decide) ?_
  refine r_icmp_ne (t := 15) qX4_reasonToMark_10 (by decide) (fun hc10 => ?_) (fun hc10 => ?_)
  · obtain ⟨b, hb1, hb2⟩ := hb.resolve_left hc10; rw [hb1]
    refine r_aload_n qX4_reasonToMark_15 rfl ?_
    refine r_iload_n qX4_reasonToMark_16 rfl ?_
    refine r_cv1 (cu2 := 0) (su2 := 0) qX4_reasonToMark_17 kX4_178 rfl (by decide +kernel) (c := 4) (by assumption) (by decide) rfl rfl rfl rfl rfl rfl ?_
    refine c_X4_isStill (by first | assumption | omega | rfl | decide) (by first | assumption | omega | rfl | decide) (by first | assumption | omega | rfl | decide) ?_
    show zR E _ _ X 20 _ _ _ _ _ _ _
    refine r_if_eq (t := 34) qX4_reasonToMark_20 (by decide) (fun hc20 => ?_) (fun hc20 => ?_)
    · refine r_iconst (v := nI 2) qX4_reasonToMark_34 (by decide) ?_
      refine r_iret qX4_reasonToMark_35 rfl rfl rfl rfl ?_
      first | (rw [sMark, if_neg hc10, if_pos (Or.inl (zb_0.mp hc20))] at hK; exact hK) | (rw [sMark, if_neg hc10, if_pos (Or.inr hc31)] at hK; exact hK)
    · refine r_aload_n qX4_reasonToMark_23 rfl ?_
      refine r_getr qX4_reasonToMark_24 fX4_24 rfl (by assumption) (by first | assumption | rfl) ?_
      refine r_bipush (v := nI 6) qX4_reasonToMark_27 (by decide) ?_
      refine r_ialdN qX4_reasonToMark_29 (by assumption) (by assumption) (by omega) rfl ?_
      refine r_iload_n qX4_reasonToMark_30 rfl ?_
      refine r_icmp_ne (t := 36) qX4_reasonToMark_31 (by decide) (fun hc31 => ?_) (fun hc31 => ?_)
      · refine r_aload_n qX4_reasonToMark_36 rfl ?_
        refine r_iload_n qX4_reasonToMark_37 rfl ?_
        refine r_aload_n qX4_reasonToMark_38 rfl ?_
        refine r_iload_n qX4_reasonToMark_39 rfl ?_
        refine r_iconst (v := nI 2) qX4_reasonToMark_40 (by decide) ?_
        refine r_cv2 (cu2 := 0) (su2 := 0) qX4_reasonToMark_41 kX4_166 rfl (by decide +kernel) (c := 4) (by assumption) (by decide) rfl rfl rfl rfl rfl rfl ?_
        refine c_X4_ofBath (by first | assumption | omega | rfl | decide) (by first | assumption | omega | rfl | decide) ?_
        show zR E _ _ X 44 _ _ _ _ _ _ _
        refine r_cv2 (cu2 := 0) (su2 := 0) qX4_reasonToMark_44 kX4_182 rfl (by decide +kernel) (c := 4) (by assumption) (by decide) rfl rfl rfl rfl rfl rfl ?_
        refine c_X4_hasDegrees (by first | assumption | omega | rfl | decide) (by first | assumption | omega | rfl | decide) (by first | assumption | omega | rfl | decide) ?_
        show zR E _ _ X 47 _ _ _ _ _ _ _
        refine r_if_eq (t := 52) qX4_reasonToMark_47 (by decide) (fun hc47 => ?_) (fun hc47 => ?_)
        · refine r_aload_n qX4_reasonToMark_52 rfl ?_
          refine r_iload_n qX4_reasonToMark_53 rfl ?_
          refine r_aload_n qX4_reasonToMark_54 rfl ?_
          refine r_iload_n qX4_reasonToMark_55 rfl ?_
          refine r_cv1 (cu2 := 0) (su2 := 0) qX4_reasonToMark_56 kX4_186 rfl (by decide +kernel) (c := 4) (by assumption) (by decide) rfl rfl rfl rfl rfl rfl ?_
          refine c_X4_heightNow (by first | assumption | omega | rfl | decide) (by first | assumption | omega | rfl | decide) ?_
          show zR E _ _ X 59 _ _ _ _ _ _ _
          refine r_cv2 (cu2 := 0) (su2 := 0) qX4_reasonToMark_59 kX4_189 rfl (by decide +kernel) (c := 4) (by assumption) (by decide) rfl rfl rfl rfl rfl rfl ?_
          refine c_X4_hasHeight (by first | assumption | omega | rfl | decide) (by first | assumption | omega | rfl | decide) (by first | assumption | omega | rfl | decide) ?_
          show zR E _ _ X 62 _ _ _ _ _ _ _
          refine r_if_eq (t := 67) qX4_reasonToMark_62 (by decide) (fun hc62 => ?_) (fun hc62 => ?_)
          · refine r_aload_n qX4_reasonToMark_67 rfl ?_
            refine r_iload_n qX4_reasonToMark_68 rfl ?_
            refine r_bipush (v := nI 8) qX4_reasonToMark_69 (by decide) ?_
            refine r_cv2 (cu2 := 0) (su2 := 0) qX4_reasonToMark_71 kX4_148 rfl (by decide +kernel) (c := 4) (by assumption) (by decide) rfl rfl rfl rfl rfl rfl ?_
            refine c_X4_of (by first | assumption | omega | rfl | decide) (by first | assumption | omega | rfl | decide) ?_
            show zR E _ _ X 74 _ _ _ _ _ _ _
            refine r_bipush (v := nI 6) qX4_reasonToMark_74 (by decide) ?_
            rw [hm]
            refine r_icmp_ne (t := 83) qX4_reasonToMark_76 (by decide) (fun hc76 => ?_) (fun hc76 => ?_)
            · refine r_iconst (v := nI 0) qX4_reasonToMark_83 (by decide) ?_
              refine r_iret qX4_reasonToMark_84 rfl rfl rfl rfl ?_
              rw [sMark, if_neg hc10, if_neg (fun h => h.elim (fun h => h (zb_ne.mp hc20)) hc31), hb1, zn_nI (by omega), if_neg (zb_0.mp hc47), if_neg (zb_0.mp hc62)] at hK; first | (rw [if_neg (fun h => hc76 (congrArg nI h))] at hK; exact hK) | (rw [if_pos ((nI_eq (by omega) (by omega)).mp hc76)] at hK; exact hK)
            · refine r_iconst (v := nI 5) qX4_reasonToMark_79 (by decide) ?_
              refine r_goto (t := 84) qX4_reasonToMark_80 (by decide) ?_
              refine r_iret qX4_reasonToMark_84 rfl rfl rfl rfl ?_
              rw [sMark, if_neg hc10, if_neg (fun h => h.elim (fun h => h (zb_ne.mp hc20)) hc31), hb1, zn_nI (by omega), if_neg (zb_0.mp hc47), if_neg (zb_0.mp hc62)] at hK; first | (rw [if_neg (fun h => hc76 (congrArg nI h))] at hK; exact hK) | (rw [if_pos ((nI_eq (by omega) (by omega)).mp hc76)] at hK; exact hK)
          · refine r_iconst (v := nI 4) qX4_reasonToMark_65 (by decide) ?_
            refine r_iret qX4_reasonToMark_66 rfl rfl rfl rfl ?_
            rw [sMark, if_neg hc10, if_neg (fun h => h.elim (fun h => h (zb_ne.mp hc20)) hc31), hb1, zn_nI (by omega), if_neg (zb_0.mp hc47), if_pos (zb_ne.mp hc62)] at hK; exact hK
        · refine r_iconst (v := nI 3) qX4_reasonToMark_50 (by decide) ?_
          refine r_iret qX4_reasonToMark_51 rfl rfl rfl rfl ?_
          rw [sMark, if_neg hc10, if_neg (fun h => h.elim (fun h => h (zb_ne.mp hc20)) hc31), hb1, zn_nI (by omega), if_pos (zb_ne.mp hc47)] at hK; exact hK
      · refine r_iconst (v := nI 2) qX4_reasonToMark_34 (by decide) ?_
        refine r_iret qX4_reasonToMark_35 rfl rfl rfl rfl ?_
        first | (rw [sMark, if_neg hc10, if_pos (Or.inl (zb_0.mp hc20))] at hK; exact hK) | (rw [sMark, if_neg hc10, if_pos (Or.inr hc31)] at hK; exact hK)
  · refine r_iconst (v := nI 1) qX4_reasonToMark_13 (by decide) ?_
    refine r_iret qX4_reasonToMark_14 rfl rfl rfl rfl ?_
    rw [sMark, if_pos hc10] at hK; exact hK
set_option maxHeartbeats 4000000 in
set_option maxRecDepth 20000 in
theorem c_X4_markNow {E : Ev} {g : Sh} {i : Ni} {j : Nj} {K : Kp} {x r k b : Nat} (hM : zM g x r) (hk : zTf (i r) k) (hm : i r (42 + 21 * k + 8) = nI (sMany (i r) k)) (hm6 : sMany (i r) k < 6) (hb : i r (42 + 21 * k + 7) = nI b) (hb4 : b < 4) (hK : K (.inl (some (.int (nI (sMany (i r) k + 1))))) g (wA i r (sPut (i r) k)) j) : zCon E mX4_markNow [.ref x, .int (nI k)] g i j K := by
  refine zcon_of (by decide +kernel) rfl rfl (lo := [.ref x, .int (nI k), zJ]) rfl (fun X => ?_)
  have hM' := hM
  obtain ⟨h1, h2, h3, h4⟩ := hM
  have h8 := hk.1
  have hf2 := hk.up (v := i r (30 + 3 * b + 2)) (w := 42 + 21 * k + (9 + 2 * sMany (i r) k)) (by omega) (by omega)
  rw [sPut, hb, zn_nI (by omega)] at hK
  refine r_aload_n qX4_markNow_0 rfl ?_
  refine r_iload_n qX4_markNow_1 rfl ?_
  refine r_bipush (v := nI 8) qX4_markNow_2 (by decide) ?_
  refine r_cv2 (cu2 := 0) (su2 := 0) qX4_markNow_4 kX4_148 rfl (by decide +kernel) (c := 4) (by assumption) (by decide) rfl rfl rfl rfl rfl rfl ?_
  refine c_X4_of (by first | assumption | omega | rfl | decide) (by first | assumption | omega | rfl | decide) ?_
  show zR E _ _ X 7 _ _ _ _ _ _ _
  rw [hm]
  refine r_is_3_2 qX4_markNow_7 rfl rfl ?_
  refine r_aload_n qX4_markNow_8 rfl ?_
  refine r_iload_n qX4_markNow_9 rfl ?_
  refine r_bipush (v := nI 9) qX4_markNow_10 (by decide) ?_
  refine r_iconst (v := nI 2) qX4_markNow_12 (by decide) ?_
  refine r_iload_n qX4_markNow_13 rfl ?_
  first | with_reducible refine r_imulN qX4_markNow_14 ?_ | refine r_imul qX4_markNow_14 ?_
  first | with_reducible refine r_iaddN qX4_markNow_15 ?_ | refine r_iadd qX4_markNow_15 ?_
  refine r_aload_n qX4_markNow_16 rfl ?_
  refine r_aload_n qX4_markNow_17 rfl ?_
  refine r_iload_n qX4_markNow_18 rfl ?_
  refine r_bipush (v := nI 7) qX4_markNow_19 (by decide) ?_
  refine r_cv2 (cu2 := 0) (su2 := 0) qX4_markNow_21 kX4_148 rfl (by decide +kernel) (c := 4) (by assumption) (by decide) rfl rfl rfl rfl rfl rfl ?_
  refine c_X4_of (by first | assumption | omega | rfl | decide) (by first | assumption | omega | rfl | decide) ?_
  show zR E _ _ X 24 _ _ _ _ _ _ _
  rw [hb]
  refine r_iconst (v := nI 2) qX4_markNow_24 (by decide) ?_
  refine r_cv2 (cu2 := 0) (su2 := 0) qX4_markNow_25 kX4_166 rfl (by decide +kernel) (c := 4) (by assumption) (by decide) rfl rfl rfl rfl rfl rfl ?_
  refine c_X4_ofBath (by first | assumption | omega | rfl | decide) (by first | assumption | omega | rfl | decide) ?_
  show zR E _ _ X 28 _ _ _ _ _ _ _
  refine r_cv3 (cu2 := 0) (su2 := 0) qX4_markNow_28 kX4_137 rfl (by decide +kernel) (c := 4) (by assumption) (by decide) rfl rfl rfl rfl rfl rfl ?_
  refine c_X4_set0 (by first | assumption | omega | rfl | decide) (by first | assumption | omega | rfl | decide) ?_
  show zR E _ _ X 31 _ _ _ _ _ _ _
  refine r_aload_n qX4_markNow_31 rfl ?_
  refine r_iload_n qX4_markNow_32 rfl ?_
  refine r_bipush (v := nI 9) qX4_markNow_33 (by decide) ?_
  refine r_iconst (v := nI 2) qX4_markNow_35 (by decide) ?_
  refine r_iload_n qX4_markNow_36 rfl ?_
  first | with_reducible refine r_imulN qX4_markNow_37 ?_ | refine r_imul qX4_markNow_37 ?_
  first | with_reducible refine r_iaddN qX4_markNow_38 ?_ | refine r_iadd qX4_markNow_38 ?_
  refine r_iconst (v := nI 1) qX4_markNow_39 (by decide) ?_
  first | with_reducible refine r_iaddN qX4_markNow_40 ?_ | refine r_iadd qX4_markNow_40 ?_
  refine r_aload_n qX4_markNow_41 rfl ?_
  refine r_iload_n qX4_markNow_42 rfl ?_
  refine r_cv1 (cu2 := 0) (su2 := 0) qX4_markNow_43 kX4_186 rfl (by decide +kernel) (c := 4) (by assumption) (by decide) rfl rfl rfl rfl rfl rfl ?_
  refine c_X4_heightNow hM' (by rw [wA_s]; exact hf2) ?_
  show zR E _ _ X 46 _ _ _ _ _ _ _
  simp only [wA_s, wA_wA]
  refine r_cv3 (cu2 := 0) (su2 := 0) qX4_markNow_46 kX4_137 rfl (by decide +kernel) (c := 4) (by assumption) (by decide) rfl rfl rfl rfl rfl rfl ?_
  refine c_X4_set0 (by first | assumption | omega | rfl | decide) (by first | assumption | omega | rfl | decide) ?_
  show zR E _ _ X 49 _ _ _ _ _ _ _
  simp only [wA_s, wA_wA]
  refine r_aload_n qX4_markNow_49 rfl ?_
  refine r_iload_n qX4_markNow_50 rfl ?_
  refine r_bipush (v := nI 8) qX4_markNow_51 (by decide) ?_
  refine r_iload_n qX4_markNow_53 rfl ?_
  refine r_iconst (v := nI 1) qX4_markNow_54 (by decide) ?_
  first | with_reducible refine r_iaddN qX4_markNow_55 ?_ | refine r_iadd qX4_markNow_55 ?_
  refine r_cv3 (cu2 := 0) (su2 := 0) qX4_markNow_56 kX4_137 rfl (by decide +kernel) (c := 4) (by assumption) (by decide) rfl rfl rfl rfl rfl rfl ?_
  refine c_X4_set0 (by first | assumption | omega | rfl | decide) (by first | assumption | omega | rfl | decide) ?_
  show zR E _ _ X 59 _ _ _ _ _ _ _
  simp only [wA_s, wA_wA]
  refine r_iload_n qX4_markNow_59 rfl ?_
  refine r_iconst (v := nI 1) qX4_markNow_60 (by decide) ?_
  first | with_reducible refine r_iaddN qX4_markNow_61 ?_ | refine r_iadd qX4_markNow_61 ?_
  refine r_iret qX4_markNow_62 rfl rfl rfl rfl ?_
  exact hK
set_option maxHeartbeats 4000000 in
set_option maxRecDepth 20000 in
theorem c_X4_eraseNow {E : Ev} {g : Sh} {i : Ni} {j : Nj} {K : Kp} {x r k q : Nat} (hM : zM g x r) (hk : k < 8) (hm : i r (42 + 21 * k + 8) = nI (sMany (i r) k)) (hm6 : sMany (i r) k ≤ 6) (hq : q < sMany (i r) k) (hK : K (.inl (some (.int (sHgt (i r) k q)))) g (wA i r (sErase (i r) k q)) j) : zCon E mX4_eraseNow [.ref x, .int (nI k), .int (nI q)] g i j K := by
  refine zcon_of (by decide +kernel) rfl rfl (lo := [.ref x, .int (nI k), .int (nI q), zJ, zJ]) rfl (fun X => ?_)
  have hM' := hM
  obtain ⟨h1, h2, h3, h4⟩ := hM
  have hD : ∀ n : Nat, sDown (i r) k q n (42 + 21 * k + 8) = i r (42 + 21 * k + 8) := by
    intro n
    induction n with
    | zero => rfl
    | succ n ih => rw [sDown, pk_un (by omega), pk_un (by omega), ih]
  rw [sErase] at hK
  generalize hmm : sMany (i r) k = m at *
  have K12 : ∀ n d : Nat, d + n + 1 + q = m → zR E mX4_eraseNow (zZ E mX4_eraseNow K) X 12 [.ref x, .int (nI k), .int (nI q), .int (sHgt (i r) k q), .int (nI (q + 1 + d))] [] g (wA i r (sDown (i r) k q d)) j 0 0 := by
    intro n
    induction n with
    | zero =>
      intro d hd
      obtain rfl : m = d + 1 + q := by omega
      refine r_iload qX4_eraseNow_12 rfl ?_
      refine r_aload_n qX4_eraseNow_14 rfl ?_
      refine r_iload_n qX4_eraseNow_15 rfl ?_
      refine r_bipush (v := nI 8) qX4_eraseNow_16 (by decide) ?_
      refine r_cv2 (cu2 := 0) (su2 := 0) qX4_eraseNow_18 kX4_148 rfl (by decide +kernel) (c := 4) (by assumption) (by decide) rfl rfl rfl rfl rfl rfl ?_
      refine c_X4_of (by first | assumption | omega | rfl | decide) (by first | assumption | omega | rfl | decide) ?_
      show zR E _ _ X 21 _ _ _ _ _ _ _
      simp only [wA_s]; rw [hD, hm]
      refine r_icmp_ge (t := 72) qX4_eraseNow_21 (by decide) (fun hc21 => ?_) (fun hc21 => absurd hc21 (fun h => h (nI_le (by omega) (by omega))))
      refine r_aload_n qX4_eraseNow_72 rfl ?_
      refine r_iload_n qX4_eraseNow_73 rfl ?_
      refine r_bipush (v := nI 8) qX4_eraseNow_74 (by decide) ?_
      refine r_aload_n qX4_eraseNow_76 rfl ?_
      refine r_iload_n qX4_eraseNow_77 rfl ?_
      refine r_bipush (v := nI 8) qX4_eraseNow_78 (by decide) ?_
      refine r_cv2 (cu2 := 0) (su2 := 0) qX4_eraseNow_80 kX4_148 rfl (by decide +kernel) (c := 4) (by assumption) (by decide) rfl rfl rfl rfl rfl rfl ?_
      refine c_X4_of (by first | assumption | omega | rfl | decide) (by first | assumption | omega | rfl | decide) ?_
      show zR E _ _ X 83 _ _ _ _ _ _ _
      simp only [wA_s]; rw [hD, hm]
      refine r_iconst (v := nI 1) qX4_eraseNow_83 (by decide) ?_
      refine r_isub qX4_eraseNow_84 ?_
      rw [nI_sub (by omega)]
      refine r_cv3 (cu2 := 0) (su2 := 0) qX4_eraseNow_85 kX4_137 rfl (by decide +kernel) (c := 4) (by assumption) (by decide) rfl rfl rfl rfl rfl rfl ?_
      refine c_X4_set0 (by first | assumption | omega | rfl | decide) (by first | assumption | omega | rfl | decide) ?_
      show zR E _ _ X 88 _ _ _ _ _ _ _
      simp only [wA_s, wA_wA]
      refine r_iload_n qX4_eraseNow_88 rfl ?_
      refine r_iret qX4_eraseNow_89 rfl rfl rfl rfl ?_
      rw [show d + 1 + q - (q + 1) = d by omega] at hK; exact hK
    | succ n ih =>
      intro d hd
      refine r_iload qX4_eraseNow_12 rfl ?_
      refine r_aload_n qX4_eraseNow_14 rfl ?_
      refine r_iload_n qX4_eraseNow_15 rfl ?_
      refine r_bipush (v := nI 8) qX4_eraseNow_16 (by decide) ?_
      refine r_cv2 (cu2 := 0) (su2 := 0) qX4_eraseNow_18 kX4_148 rfl (by decide +kernel) (c := 4) (by assumption) (by decide) rfl rfl rfl rfl rfl rfl ?_
      refine c_X4_of (by first | assumption | omega | rfl | decide) (by first | assumption | omega | rfl | decide) ?_
      show zR E _ _ X 21 _ _ _ _ _ _ _
      simp only [wA_s]; rw [hD, hm]
      refine r_icmp_ge (t := 72) qX4_eraseNow_21 (by decide) (fun hc21 => absurd hc21 (nI_ge (by omega) (by omega))) (fun hc21 => ?_)
      refine r_aload_n qX4_eraseNow_24 rfl ?_
      refine r_iload_n qX4_eraseNow_25 rfl ?_
      refine r_bipush (v := nI 9) qX4_eraseNow_26 (by decide) ?_
      refine r_iconst (v := nI 2) qX4_eraseNow_28 (by decide) ?_
      refine r_iload qX4_eraseNow_29 rfl ?_
      first | with_reducible refine r_imulN qX4_eraseNow_31 ?_ | refine r_imul qX4_eraseNow_31 ?_
      first | with_reducible refine r_iaddN qX4_eraseNow_32 ?_ | refine r_iadd qX4_eraseNow_32 ?_
      refine r_iconst (v := nI 2) qX4_eraseNow_33 (by decide) ?_
      refine r_isub qX4_eraseNow_34 ?_
      rw [nI_sub (by omega), show 9 + 2 * (q + 1 + d) - 2 = 9 + 2 * (q + d) by omega]
      refine r_aload_n qX4_eraseNow_35 rfl ?_
      refine r_iload_n qX4_eraseNow_36 rfl ?_
      refine r_iload qX4_eraseNow_37 rfl ?_
      refine r_cv2 (cu2 := 0) (su2 := 0) qX4_eraseNow_39 kX4_172 rfl (by decide +kernel) (c := 4) (by assumption) (by decide) rfl rfl rfl rfl rfl rfl ?_
      refine c_X4_degreesOf (by first | assumption | omega | rfl | decide) (by first | assumption | omega | rfl | decide) (by first | assumption | omega | rfl | decide) ?_
      show zR E _ _ X 42 _ _ _ _ _ _ _
      simp only [wA_s]; rw [show q + 1 + d = q + d + 1 by omega]
      refine r_cv3 (cu2 := 0) (su2 := 0) qX4_eraseNow_42 kX4_137 rfl (by decide +kernel) (c := 4) (by assumption) (by decide) rfl rfl rfl rfl rfl rfl ?_
      refine c_X4_set0 (by first | assumption | omega | rfl | decide) (by first | assumption | omega | rfl | decide) ?_
      show zR E _ _ X 45 _ _ _ _ _ _ _
      simp only [wA_s, wA_wA]; rw [show q + d + 1 = q + 1 + d by omega]
      refine r_aload_n qX4_eraseNow_45 rfl ?_
      refine r_iload_n qX4_eraseNow_46 rfl ?_
      refine r_bipush (v := nI 9) qX4_eraseNow_47 (by decide) ?_
      refine r_iconst (v := nI 2) qX4_eraseNow_49 (by decide) ?_
      refine r_iload qX4_eraseNow_50 rfl ?_
      first | with_reducible refine r_imulN qX4_eraseNow_52 ?_ | refine r_imul qX4_eraseNow_52 ?_
      first | with_reducible refine r_iaddN qX4_eraseNow_53 ?_ | refine r_iadd qX4_eraseNow_53 ?_
      refine r_iconst (v := nI 1) qX4_eraseNow_54 (by decide) ?_
      refine r_isub qX4_eraseNow_55 ?_
      rw [nI_sub (by omega), show 9 + 2 * (q + 1 + d) - 1 = 9 + 2 * (q + d) + 1 by omega]
      refine r_aload_n qX4_eraseNow_56 rfl ?_
      refine r_iload_n qX4_eraseNow_57 rfl ?_
      refine r_iload qX4_eraseNow_58 rfl ?_
      refine r_cv2 (cu2 := 0) (su2 := 0) qX4_eraseNow_60 kX4_175 rfl (by decide +kernel) (c := 4) (by assumption) (by decide) rfl rfl rfl rfl rfl rfl ?_
      refine c_X4_heightOf (by first | assumption | omega | rfl | decide) (by first | assumption | omega | rfl | decide) (by first | assumption | omega | rfl | decide) ?_
      show zR E _ _ X 63 _ _ _ _ _ _ _
      simp only [wA_s]; rw [show q + 1 + d = q + d + 1 by omega]
      refine r_cv3 (cu2 := 0) (su2 := 0) qX4_eraseNow_63 kX4_137 rfl (by decide +kernel) (c := 4) (by assumption) (by decide) rfl rfl rfl rfl rfl rfl ?_
      refine c_X4_set0 (by first | assumption | omega | rfl | decide) (by first | assumption | omega | rfl | decide) ?_
      show zR E _ _ X 66 _ _ _ _ _ _ _
      simp only [wA_s, wA_wA]; rw [show q + d + 1 = q + 1 + d by omega]
      refine r_ii_5_4 qX4_eraseNow_66 rfl rfl (nI_inc _) ?_
      refine r_goto (t := 12) qX4_eraseNow_69 (by decide) ?_
      rw [show q + 1 + d + 1 = q + 1 + (d + 1) by omega, show q + 1 + d = q + d + 1 by omega]; exact ih (d + 1) (by omega)
  refine r_aload_n qX4_eraseNow_0 rfl ?_
  refine r_iload_n qX4_eraseNow_1 rfl ?_
  refine r_iload_n qX4_eraseNow_2 rfl ?_
  refine r_cv2 (cu2 := 0) (su2 := 0) qX4_eraseNow_3 kX4_175 rfl (by decide +kernel) (c := 4) (by assumption) (by decide) rfl rfl rfl rfl rfl rfl ?_
  refine c_X4_heightOf (by first | assumption | omega | rfl | decide) (by first | assumption | omega | rfl | decide) (by first | assumption | omega | rfl | decide) ?_
  show zR E _ _ X 6 _ _ _ _ _ _ _
  refine r_is_5_3 qX4_eraseNow_6 rfl rfl ?_
  refine r_iload_n qX4_eraseNow_7 rfl ?_
  refine r_iconst (v := nI 1) qX4_eraseNow_8 (by decide) ?_
  first | with_reducible refine r_iaddN qX4_eraseNow_9 ?_ | refine r_iadd qX4_eraseNow_9 ?_
  refine r_is_5_4 qX4_eraseNow_10 rfl rfl ?_
  have z := K12 (m - (q + 1)) 0 (by omega); rw [sDown, wA_self] at z; exact z

