/-! ===== THE CLASS: A TUBE. Object f, degrees d, heights h of tube k of the row N ===== -/
def zT3 (g : Sh) (u d h : Nat) : Prop := gT g u = 3 ∧ gR g u 1 = d ∧ gR g u 2 = h ∧ gT g d = 11 ∧ gL g d = 6 ∧ gT g h = 11 ∧ gL g h = 6 ∧ d ≠ h
def tH (f d h N : Nat → Int32) (k : Nat) : Prop :=
  f 0 = nI k ∧ f 3 = N (42 + 21 * k + 8) ∧ f 4 = N (42 + 21 * k + 0) ∧ f 6 = N (10 + 4 * zn (N (42 + 21 * k + 0)) + 2) ∧ f 7 = N (42 + 21 * k + 1) ∧ f 8 = N (42 + 21 * k + 2) ∧ f 9 = N (42 + 21 * k + 3) ∧ f 10 = N (42 + 21 * k + 4) ∧ f 11 = N (42 + 21 * k + 5) ∧ f 12 = N (42 + 21 * k + 7) ∧ f 13 = N (42 + 21 * k + 6) ∧ ∀ p, p < sMany N k → d p = sDeg N k p ∧ h p = sHgt N k p
theorem jmin_c (a b : Int32) : jmin a b = jmin b a := by
  simp only [jmin]
  split <;> split
  · rename_i h1 h2
    rw [Int32.lt_iff_toInt_lt] at h1 h2
    omega
  · rfl
  · rfl
  · rename_i h1 h2
    rw [Int32.lt_iff_toInt_lt] at h1 h2
    exact Int32.toInt_inj.mp (by omega)
theorem jmax_c (a b : Int32) : jmax a b = jmax b a := by
  simp only [jmax]
  split <;> split
  · rename_i h1 h2
    rw [Int32.lt_iff_toInt_lt] at h1 h2
    omega
  · rfl
  · rfl
  · rename_i h1 h2
    rw [Int32.lt_iff_toInt_lt] at h1 h2
    exact Int32.toInt_inj.mp (by omega)
set_option maxHeartbeats 4000000 in
set_option maxRecDepth 20000 in
theorem c_X2_freeHeight {E : Ev} {g : Sh} {i : Ni} {j : Nj} {K : Kp} {u d h k : Nat} {N : Nat → Int32} {t : Int32} (hT : zT3 g u d h) (hH : tH (i u) (i d) (i h) N k) (hO : zOk N) (hk : k < zn (N 5)) (hK : K (.inl (some (.int (sFree N k t)))) g i j) : zCon E mX2_freeHeight [.ref u, .int t] g i j K := by
  refine zcon_of (by decide +kernel) rfl rfl (lo := [.ref u, .int t, zJ]) rfl (fun X => ?_)
  have w1 := hT.1
  obtain ⟨f0, f3, f4, f6, f7, f8, f9, f10, f11, f12, f13, fP⟩ := id hH
  obtain ⟨-, b1, b2, -⟩ := hO.tu hk
  obtain ⟨m, hm, m9, m1⟩ := b2.ex (by decide)
  have hp : 0 < nI (m * 1000) := by rw [← nI_0]; exact nI_lt (by omega) (by omega)
  have hz : ¬ nI (m * 1000) = 0 := fun h => by rw [h] at hp; exact absurd hp (by decide)
  refine r_aload_n qX2_freeHeight_0 rfl ?_
  refine r_geti qX2_freeHeight_1 fX2_22 rfl (by assumption) ?_
  rw [f8, hm]
  refine r_sipush (v := nI 1000) qX2_freeHeight_4 (by decide) ?_
  first | with_reducible refine r_imulN qX2_freeHeight_7 ?_ | refine r_imul qX2_freeHeight_7 ?_
  refine r_is_3_2 qX2_freeHeight_8 rfl rfl ?_
  refine r_iload_n qX2_freeHeight_9 rfl ?_
  refine r_if_gt (t := 18) qX2_freeHeight_10 (by decide) (fun hc10 => ?_) (fun hc10 => absurd hc10 (fun h => h hp))
  refine r_aload_n qX2_freeHeight_18 rfl ?_
  refine r_geti qX2_freeHeight_19 fX2_52 rfl (by assumption) ?_
  rw [f10]
  refine r_aload_n qX2_freeHeight_22 rfl ?_
  refine r_geti qX2_freeHeight_23 fX2_46 rfl (by assumption) ?_
  rw [f7]
  refine r_aload_n qX2_freeHeight_26 rfl ?_
  refine r_geti qX2_freeHeight_27 fX2_43 rfl (by assumption) ?_
  rw [f6]
  first | with_reducible refine r_imulN qX2_freeHeight_30 ?_ | refine r_imul qX2_freeHeight_30 ?_
  refine r_iload_n qX2_freeHeight_31 rfl ?_
  refine r_sipush (v := nI 300) qX2_freeHeight_32 (by decide) ?_
  first | with_reducible refine r_iaddN qX2_freeHeight_35 ?_ | refine r_iadd qX2_freeHeight_35 ?_
  first | with_reducible refine r_imulN qX2_freeHeight_36 ?_ | refine r_imul qX2_freeHeight_36 ?_
  refine r_iload_n qX2_freeHeight_37 rfl ?_
  refine r_idiv qX2_freeHeight_38 hz ?_
  first | with_reducible refine r_iaddN qX2_freeHeight_39 ?_ | refine r_iadd qX2_freeHeight_39 ?_
  refine r_iret qX2_freeHeight_40 rfl rfl rfl rfl ?_
  rw [sFree, hm, nI_mulN, Nat.mul_comm 1000 m] at hK; exact hK
set_option maxHeartbeats 4000000 in
set_option maxRecDepth 20000 in
theorem c_X2_level {E : Ev} {g : Sh} {i : Ni} {j : Nj} {K : Kp} {u d h k : Nat} {N : Nat → Int32} (hT : zT3 g u d h) (hH : tH (i u) (i d) (i h) N k) (hO : zOk N) (hk : k < zn (N 5)) (hK : K (.inl (some (.int (sHigh N k)))) g i j) : zCon E mX2_level [.ref u] g i j K := by
  refine zcon_of (by decide +kernel) rfl rfl (lo := [.ref u]) rfl (fun X => ?_)
  have w1 := hT.1
  obtain ⟨f0, f3, f4, f6, f7, f8, f9, f10, f11, f12, f13, fP⟩ := id hH
  refine r_aload_n qX2_level_0 rfl ?_
  refine r_aload_n qX2_level_1 rfl ?_
  refine r_geti qX2_level_2 fX2_55 rfl (by assumption) ?_
  rw [f11]
  refine r_cv1 (cu2 := 0) (su2 := 0) qX2_level_5 kX2_71 rfl (by decide +kernel) (c := 2) (by assumption) (by decide) rfl rfl rfl rfl rfl rfl ?_
  refine c_X2_freeHeight (by first | assumption | omega | rfl | decide) (by first | assumption | omega | rfl | decide) (by first | assumption | omega | rfl | decide) (by first | assumption | omega | rfl | decide) ?_
  show zR E _ _ X 8 _ _ _ _ _ _ _
  refine r_aload_n qX2_level_8 rfl ?_
  refine r_geti qX2_level_9 fX2_49 rfl (by assumption) ?_
  rw [f9]
  refine r_mmin qX2_level_12 kX2_75 rfl rfl rfl rfl ?_
  refine r_iret qX2_level_15 rfl rfl rfl rfl ?_
  rw [sHigh, jmin_c] at hK; exact hK
set_option maxHeartbeats 4000000 in
set_option maxRecDepth 20000 in
theorem c_X2_scaled {E : Ev} {g : Sh} {i : Ni} {j : Nj} {K : Kp} {u d h k : Nat} {N : Nat → Int32} (hT : zT3 g u d h) (hH : tH (i u) (i d) (i h) N k) (hO : zOk N) (hk : k < zn (N 5)) (hK : K (.inl (some (.int (zb (2 ≤ sMany N k))))) g i j) : zCon E mX2_scaled [.ref u] g i j K := by
  refine zcon_of (by decide +kernel) rfl rfl (lo := [.ref u]) rfl (fun X => ?_)
  have w1 := hT.1
  obtain ⟨f0, f3, f4, f6, f7, f8, f9, f10, f11, f12, f13, fP⟩ := id hH
  obtain ⟨hm, hm6⟩ := hO.many hk
  refine r_aload_n qX2_scaled_0 rfl ?_
  refine r_geti qX2_scaled_1 fX2_34 rfl (by assumption) ?_
  rw [f3, hm]
  refine r_iconst (v := nI 2) qX2_scaled_4 (by decide) ?_
  refine r_icmp_lt (t := 12) qX2_scaled_5 (by decide) (fun hc5 => ?_) (fun hc5 => ?_)
  · refine r_iconst (v := nI 0) qX2_scaled_12 (by decide) ?_
    refine r_iret qX2_scaled_13 rfl (by first | decide | exact zb_nar _ | assumption) rfl rfl ?_
    first | (rw [zb_t (Nat.le_of_not_lt fun h => hc5 (nI_lt h (by decide)))] at hK; exact hK) | (rw [zb_f (fun h => absurd hc5 (Int32.not_lt.mpr (nI_le h (by omega))))] at hK; exact hK)
  · refine r_iconst (v := nI 1) qX2_scaled_8 (by decide) ?_
    refine r_goto (t := 13) qX2_scaled_9 (by decide) ?_
    refine r_iret qX2_scaled_13 rfl (by first | decide | exact zb_nar _ | assumption) rfl rfl ?_
    first | (rw [zb_t (Nat.le_of_not_lt fun h => hc5 (nI_lt h (by decide)))] at hK; exact hK) | (rw [zb_f (fun h => absurd hc5 (Int32.not_lt.mpr (nI_le h (by omega))))] at hK; exact hK)
set_option maxHeartbeats 4000000 in
set_option maxRecDepth 20000 in
theorem c_X2_hasPointOfDegrees {E : Ev} {g : Sh} {i : Ni} {j : Nj} {K : Kp} {u d h k : Nat} {N : Nat → Int32} {v : Int32} (hT : zT3 g u d h) (hH : tH (i u) (i d) (i h) N k) (hO : zOk N) (hk : k < zn (N 5)) (hK : K (.inl (some (.int (zb (sHas (sDeg N k) v (sMany N k) = true))))) g i j) : zCon E mX2_hasPointOfDegrees [.ref u, .int v] g i j K := by
  refine zcon_of (by decide +kernel) rfl rfl (lo := [.ref u, .int v, zJ]) rfl (fun X => ?_)
  obtain ⟨w1, w2, w3, w4, w5, w6, w7, w8⟩ := id hT
  obtain ⟨f0, f3, f4, f6, f7, f8, f9, f10, f11, f12, f13, fP⟩ := id hH
  obtain ⟨hm, hm6⟩ := hO.many hk
  have K2 : ∀ q p : Nat, p + q = sMany N k → ¬ sHas (sDeg N k) v p = true → zR E mX2_hasPointOfDegrees (zZ E mX2_hasPointOfDegrees K) X 2 [.ref u, .int v, .int (nI p)] [] g i j 0 0 := by
    intro q
    induction q with
    | zero =>
      intro p hp hn
      obtain rfl : p = sMany N k := by omega
      refine r_iload_n qX2_hasPointOfDegrees_2 rfl ?_
      refine r_aload_n qX2_hasPointOfDegrees_3 rfl ?_
      refine r_geti qX2_hasPointOfDegrees_4 fX2_34 rfl (by assumption) ?_
      rw [f3, hm]
      refine r_icmp_ge (t := 28) qX2_hasPointOfDegrees_7 (by decide) (fun hc7 => ?_) (fun hc7 => absurd hc7 (fun h => h (nI_le (by omega) (by omega))))
      refine r_iconst (v := nI 0) qX2_hasPointOfDegrees_28 (by decide) ?_
      refine r_iret qX2_hasPointOfDegrees_29 rfl (by first | decide | exact zb_nar _ | assumption) rfl rfl ?_
      rw [zb_f hn] at hK; exact hK
    | succ q ih =>
      intro p hp hn
      refine r_iload_n qX2_hasPointOfDegrees_2 rfl ?_
      refine r_aload_n qX2_hasPointOfDegrees_3 rfl ?_
      refine r_geti qX2_hasPointOfDegrees_4 fX2_34 rfl (by assumption) ?_
      rw [f3, hm]
      refine r_icmp_ge (t := 28) qX2_hasPointOfDegrees_7 (by decide) (fun hc7 => absurd hc7 (nI_ge (by omega) (by omega))) (fun hc7 => ?_)
      refine r_aload_n qX2_hasPointOfDegrees_10 rfl ?_
      refine r_getr qX2_hasPointOfDegrees_11 fX2_15 rfl (by assumption) (by first | assumption | rfl) ?_
      refine r_iload_n qX2_hasPointOfDegrees_14 rfl ?_
      refine r_ialdN qX2_hasPointOfDegrees_15 (by assumption) (by assumption) (by omega) rfl ?_
      rw [(fP p (by omega)).1]
      refine r_iload_n qX2_hasPointOfDegrees_16 rfl ?_
      refine r_icmp_ne (t := 22) qX2_hasPointOfDegrees_17 (by decide) (fun hc17 => ?_) (fun hc17 => ?_)
      · refine r_ii_3_2 qX2_hasPointOfDegrees_22 rfl rfl (nI_inc p) ?_
        refine r_goto (t := 2) qX2_hasPointOfDegrees_25 (by decide) ?_
        exact ih (p + 1) (by omega) (sHas_n hn hc17)
      · refine r_iconst (v := nI 1) qX2_hasPointOfDegrees_20 (by decide) ?_
        refine r_iret qX2_hasPointOfDegrees_21 rfl (by first | decide | exact zb_nar _ | assumption) rfl rfl ?_
        rw [zb_t (sHas_iff.mpr ⟨p, by omega, hc17⟩)] at hK; exact hK
  refine r_iconst (v := nI 0) qX2_hasPointOfDegrees_0 (by decide) ?_
  refine r_is_3_2 qX2_hasPointOfDegrees_1 rfl rfl ?_
  exact K2 (sMany N k) 0 (by omega) (by rw [sHas]; decide)
set_option maxHeartbeats 4000000 in
set_option maxRecDepth 20000 in
theorem c_X2_hasPointOfHeight {E : Ev} {g : Sh} {i : Ni} {j : Nj} {K : Kp} {u d h k : Nat} {N : Nat → Int32} {v : Int32} (hT : zT3 g u d h) (hH : tH (i u) (i d) (i h) N k) (hO : zOk N) (hk : k < zn (N 5)) (hK : K (.inl (some (.int (zb (sHas (sHgt N k) v (sMany N k) = true))))) g i j) : zCon E mX2_hasPointOfHeight [.ref u, .int v] g i j K := by
  refine zcon_of (by decide +kernel) rfl rfl (lo := [.ref u, .int v, zJ]) rfl (fun X => ?_)
  obtain ⟨w1, w2, w3, w4, w5, w6, w7, w8⟩ := id hT
  obtain ⟨f0, f3, f4, f6, f7, f8, f9, f10, f11, f12, f13, fP⟩ := id hH
  obtain ⟨hm, hm6⟩ := hO.many hk
  have K2 : ∀ q p : Nat, p + q = sMany N k → ¬ sHas (sHgt N k) v p = true → zR E mX2_hasPointOfHeight (zZ E mX2_hasPointOfHeight K) X 2 [.ref u, .int v, .int (nI p)] [] g i j 0 0 := by
    intro q
    induction q with
    | zero =>
      intro p hp hn
      obtain rfl : p = sMany N k := by omega
      refine r_iload_n qX2_hasPointOfHeight_2 rfl ?_
      refine r_aload_n qX2_hasPointOfHeight_3 rfl ?_
      refine r_geti qX2_hasPointOfHeight_4 fX2_34 rfl (by assumption) ?_
      rw [f3, hm]
      refine r_icmp_ge (t := 28) qX2_hasPointOfHeight_7 (by decide) (fun hc7 => ?_) (fun hc7 => absurd hc7 (fun h => h (nI_le (by omega) (by omega))))
      refine r_iconst (v := nI 0) qX2_hasPointOfHeight_28 (by decide) ?_
      refine r_iret qX2_hasPointOfHeight_29 rfl (by first | decide | exact zb_nar _ | assumption) rfl rfl ?_
      rw [zb_f hn] at hK; exact hK
    | succ q ih =>
      intro p hp hn
      refine r_iload_n qX2_hasPointOfHeight_2 rfl ?_
      refine r_aload_n qX2_hasPointOfHeight_3 rfl ?_
      refine r_geti qX2_hasPointOfHeight_4 fX2_34 rfl (by assumption) ?_
      rw [f3, hm]
      refine r_icmp_ge (t := 28) qX2_hasPointOfHeight_7 (by decide) (fun hc7 => absurd hc7 (nI_ge (by omega) (by omega))) (fun hc7 => ?_)
      refine r_aload_n qX2_hasPointOfHeight_10 rfl ?_
      refine r_getr qX2_hasPointOfHeight_11 fX2_19 rfl (by assumption) (by first | assumption | rfl) ?_
      refine r_iload_n qX2_hasPointOfHeight_14 rfl ?_
      refine r_ialdN qX2_hasPointOfHeight_15 (by assumption) (by assumption) (by omega) rfl ?_
      rw [(fP p (by omega)).2]
      refine r_iload_n qX2_hasPointOfHeight_16 rfl ?_
      refine r_icmp_ne (t := 22) qX2_hasPointOfHeight_17 (by decide) (fun hc17 => ?_) (fun hc17 => ?_)
      · refine r_ii_3_2 qX2_hasPointOfHeight_22 rfl rfl (nI_inc p) ?_
        refine r_goto (t := 2) qX2_hasPointOfHeight_25 (by decide) ?_
        exact ih (p + 1) (by omega) (sHas_n hn hc17)
      · refine r_iconst (v := nI 1) qX2_hasPointOfHeight_20 (by decide) ?_
        refine r_iret qX2_hasPointOfHeight_21 rfl (by first | decide | exact zb_nar _ | assumption) rfl rfl ?_
        rw [zb_t (sHas_iff.mpr ⟨p, by omega, hc17⟩)] at hK; exact hK
  refine r_iconst (v := nI 0) qX2_hasPointOfHeight_0 (by decide) ?_
  refine r_is_3_2 qX2_hasPointOfHeight_1 rfl rfl ?_
  exact K2 (sMany N k) 0 (by omega) (by rw [sHas]; decide)
set_option maxHeartbeats 4000000 in
set_option maxRecDepth 20000 in
theorem c_X2_lowerPoint {E : Ev} {g : Sh} {i : Ni} {j : Nj} {K : Kp} {u d h k : Nat} {N : Nat → Int32} (hT : zT3 g u d h) (hH : tH (i u) (i d) (i h) N k) (hO : zOk N) (hk : k < zn (N 5)) (h2m : 2 ≤ sMany N k) (hK : K (.inl (some (.int (nI (sBy (sDeg N k) (nI 1) (sMany N k)))))) g i j) : zCon E mX2_lowerPoint [.ref u] g i j K := by
  refine zcon_of (by decide +kernel) rfl rfl (lo := [.ref u, zJ, zJ]) rfl (fun X => ?_)
  obtain ⟨w1, w2, w3, w4, w5, w6, w7, w8⟩ := id hT
  obtain ⟨f0, f3, f4, f6, f7, f8, f9, f10, f11, f12, f13, fP⟩ := id hH
  obtain ⟨hm, hm6⟩ := hO.many hk
  have K4 : ∀ q p : Nat, p + q = sMany N k → 1 ≤ p → zR E mX2_lowerPoint (zZ E mX2_lowerPoint K) X 4 [.ref u, .int (nI (sBy (sDeg N k) (nI 1) p)), .int (nI p)] [] g i j 0 0 := by
    intro q
    induction q with
    | zero =>
      intro p hp h1
      obtain rfl : p = sMany N k := by omega
      refine r_iload_n qX2_lowerPoint_4 rfl ?_
      refine r_aload_n qX2_lowerPoint_5 rfl ?_
      refine r_geti qX2_lowerPoint_6 fX2_34 rfl (by assumption) ?_
      rw [f3, hm]
      refine r_icmp_ge (t := 35) qX2_lowerPoint_9 (by decide) (fun hc9 => ?_) (fun hc9 => absurd hc9 (fun h => h (nI_le (by omega) (by omega))))
      refine r_iload_n qX2_lowerPoint_35 rfl ?_
      refine r_iret qX2_lowerPoint_36 rfl rfl rfl rfl ?_
      exact hK
    | succ q ih =>
      intro p hp h1
      have hb := sBy_lt (sDeg N k) (nI 1) (m := p) (by omega)
      have e : sBy (sDeg N k) (nI 1) (p + 1) = if sDeg N k p < sDeg N k (sBy (sDeg N k) (nI 1) p) then p else sBy (sDeg N k) (nI 1) p := by
        rw [sBy, if_neg (by omega), p1_mul, p1_mul]
      refine r_iload_n qX2_lowerPoint_4 rfl ?_
      refine r_aload_n qX2_lowerPoint_5 rfl ?_
      refine r_geti qX2_lowerPoint_6 fX2_34 rfl (by assumption) ?_
      rw [f3, hm]
      refine r_icmp_ge (t := 35) qX2_lowerPoint_9 (by decide) (fun hc9 => absurd hc9 (nI_ge (by omega) (by omega))) (fun hc9 => ?_)
      refine r_aload_n qX2_lowerPoint_12 rfl ?_
      refine r_getr qX2_lowerPoint_13 fX2_15 rfl (by assumption) (by first | assumption | rfl) ?_
      refine r_iload_n qX2_lowerPoint_16 rfl ?_
      refine r_ialdN qX2_lowerPoint_17 (by assumption) (by assumption) (by omega) rfl ?_
      rw [(fP p (by omega)).1]
      refine r_aload_n qX2_lowerPoint_18 rfl ?_
      refine r_getr qX2_lowerPoint_19 fX2_15 rfl (by assumption) (by first | assumption | rfl) ?_
      refine r_iload_n qX2_lowerPoint_22 rfl ?_
      refine r_ialdN qX2_lowerPoint_23 (by assumption) (by assumption) (by omega) rfl ?_
      rw [(fP _ (by omega)).1]
      refine r_icmp_ge (t := 29) qX2_lowerPoint_24 (by decide) (fun hc24 => ?_) (fun hc24 => ?_)
      · refine r_ii_3_2 qX2_lowerPoint_29 rfl rfl (nI_inc p) ?_
        refine r_goto (t := 4) qX2_lowerPoint_32 (by decide) ?_
        first | (rw [if_neg (Int32.not_lt.mpr hc24)] at e; rw [← e]; exact ih (p + 1) (by omega) (by omega)) | (rw [if_pos (Int32.not_le.mp hc24)] at e; have z := ih (p + 1) (by omega) (by omega); rw [e] at z; exact z)
      · refine r_iload_n qX2_lowerPoint_27 rfl ?_
        refine r_is_3_1 qX2_lowerPoint_28 rfl rfl ?_
        refine r_ii_3_2 qX2_lowerPoint_29 rfl rfl (nI_inc p) ?_
        refine r_goto (t := 4) qX2_lowerPoint_32 (by decide) ?_
        first | (rw [if_neg (Int32.not_lt.mpr hc24)] at e; rw [← e]; exact ih (p + 1) (by omega) (by omega)) | (rw [if_pos (Int32.not_le.mp hc24)] at e; have z := ih (p + 1) (by omega) (by omega); rw [e] at z; exact z)
  refine r_iconst (v := nI 0) qX2_lowerPoint_0 (by decide) ?_
  refine r_is_3_1 qX2_lowerPoint_1 rfl rfl ?_
  refine r_iconst (v := nI 1) qX2_lowerPoint_2 (by decide) ?_
  refine r_is_3_2 qX2_lowerPoint_3 rfl rfl ?_
  exact K4 (sMany N k - 1) 1 (by omega) (by omega)
set_option maxHeartbeats 4000000 in
set_option maxRecDepth 20000 in
theorem c_X2_upperPoint {E : Ev} {g : Sh} {i : Ni} {j : Nj} {K : Kp} {u d h k : Nat} {N : Nat → Int32} (hT : zT3 g u d h) (hH : tH (i u) (i d) (i h) N k) (hO : zOk N) (hk : k < zn (N 5)) (h2m : 2 ≤ sMany N k) (hK : K (.inl (some (.int (nI (sBy (sDeg N k) (-1) (sMany N k)))))) g i j) : zCon E mX2_upperPoint [.ref u] g i j K := by
  refine zcon_of (by decide +kernel) rfl rfl (lo := [.ref u, zJ, zJ]) rfl (fun X => ?_)
  obtain ⟨w1, w2, w3, w4, w5, w6, w7, w8⟩ := id hT
  obtain ⟨f0, f3, f4, f6, f7, f8, f9, f10, f11, f12, f13, fP⟩ := id hH
  obtain ⟨hm, hm6⟩ := hO.many hk
  have hpts := (hO.pts hk).1
  have K4 : ∀ q p : Nat, p + q = sMany N k → 1 ≤ p → zR E mX2_upperPoint (zZ E mX2_upperPoint K) X 4 [.ref u, .int (nI (sBy (sDeg N k) (-1) p)), .int (nI p)] [] g i j 0 0 := by
    intro q
    induction q with
    | zero =>
      intro p hp h1
      obtain rfl : p = sMany N k := by omega
      refine r_iload_n qX2_upperPoint_4 rfl ?_
      refine r_aload_n qX2_upperPoint_5 rfl ?_
      refine r_geti qX2_upperPoint_6 fX2_34 rfl (by assumption) ?_
      rw [f3, hm]
      refine r_icmp_ge (t := 35) qX2_upperPoint_9 (by decide) (fun hc9 => ?_) (fun hc9 => absurd hc9 (fun h => h (nI_le (by omega) (by omega))))
      refine r_iload_n qX2_upperPoint_35 rfl ?_
      refine r_iret qX2_upperPoint_36 rfl rfl rfl rfl ?_
      exact hK
    | succ q ih =>
      intro p hp h1
      have hb := sBy_lt (sDeg N k) (-1) (m := p) (by omega)
      have e : sBy (sDeg N k) (-1) (p + 1) = if sDeg N k (sBy (sDeg N k) (-1) p) < sDeg N k p then p else sBy (sDeg N k) (-1) p := by
        rw [sBy, if_neg (by omega)]
        simp only [m1_lt (hpts p (by omega)).1 (hpts _ (show sBy (sDeg N k) (-1) p < sMany N k by omega)).1]
      refine r_iload_n qX2_upperPoint_4 rfl ?_
      refine r_aload_n qX2_upperPoint_5 rfl ?_
      refine r_geti qX2_upperPoint_6 fX2_34 rfl (by assumption) ?_
      rw [f3, hm]
      refine r_icmp_ge (t := 35) qX2_upperPoint_9 (by decide) (fun hc9 => absurd hc9 (nI_ge (by omega) (by omega))) (fun hc9 => ?_)
      refine r_aload_n qX2_upperPoint_12 rfl ?_
      refine r_getr qX2_upperPoint_13 fX2_15 rfl (by assumption) (by first | assumption | rfl) ?_
      refine r_iload_n qX2_upperPoint_16 rfl ?_
      refine r_ialdN qX2_upperPoint_17 (by assumption) (by assumption) (by omega) rfl ?_
      rw [(fP p (by omega)).1]
      refine r_aload_n qX2_upperPoint_18 rfl ?_
      refine r_getr qX2_upperPoint_19 fX2_15 rfl (by assumption) (by first | assumption | rfl) ?_
      refine r_iload_n qX2_upperPoint_22 rfl ?_
      refine r_ialdN qX2_upperPoint_23 (by assumption) (by assumption) (by omega) rfl ?_
      rw [(fP _ (by omega)).1]
      refine r_icmp_le (t := 29) qX2_upperPoint_24 (by decide) (fun hc24 => ?_) (fun hc24 => ?_)
      · refine r_ii_3_2 qX2_upperPoint_29 rfl rfl (nI_inc p) ?_
        refine r_goto (t := 4) qX2_upperPoint_32 (by decide) ?_
        first | (rw [if_neg (Int32.not_lt.mpr hc24)] at e; rw [← e]; exact ih (p + 1) (by omega) (by omega)) | (rw [if_pos (Int32.not_le.mp hc24)] at e; have z := ih (p + 1) (by omega) (by omega); rw [e] at z; exact z)
      · refine r_iload_n qX2_upperPoint_27 rfl ?_
        refine r_is_3_1 qX2_upperPoint_28 rfl rfl ?_
        refine r_ii_3_2 qX2_upperPoint_29 rfl rfl (nI_inc p) ?_
        refine r_goto (t := 4) qX2_upperPoint_32 (by decide) ?_
        first | (rw [if_neg (Int32.not_lt.mpr hc24)] at e; rw [← e]; exact ih (p + 1) (by omega) (by omega)) | (rw [if_pos (Int32.not_le.mp hc24)] at e; have z := ih (p + 1) (by omega) (by omega); rw [e] at z; exact z)
  refine r_iconst (v := nI 0) qX2_upperPoint_0 (by decide) ?_
  refine r_is_3_1 qX2_upperPoint_1 rfl rfl ?_
  refine r_iconst (v := nI 1) qX2_upperPoint_2 (by decide) ?_
  refine r_is_3_2 qX2_upperPoint_3 rfl rfl ?_
  exact K4 (sMany N k - 1) 1 (by omega) (by omega)
set_option maxHeartbeats 4000000 in
set_option maxRecDepth 20000 in
theorem c_X2_tenthsToldFor {E : Ev} {g : Sh} {i : Ni} {j : Nj} {K : Kp} {u d h k : Nat} {N : Nat → Int32} {v : Int32} (hT : zT3 g u d h) (hH : tH (i u) (i d) (i h) N k) (hO : zOk N) (hk : k < zn (N 5)) (h2m : 2 ≤ sMany N k) (hK : K (.inl (some (.int (sTells N k v)))) g i j) : zCon E mX2_tenthsToldFor [.ref u, .int v] g i j K := by
  refine zcon_of (by decide +kernel) rfl rfl (lo := [.ref u, .int v, zJ, zJ, zJ, zJ, zJ]) rfl (fun X => ?_)
  obtain ⟨w1, w2, w3, w4, w5, w6, w7, w8⟩ := id hT
  obtain ⟨f0, f3, f4, f6, f7, f8, f9, f10, f11, f12, f13, fP⟩ := id hH
  obtain ⟨hm, hm6⟩ := hO.many hk
  have l1 := sBy_lt (sDeg N k) (nI 1) (m := sMany N k) (by omega)
  have l2 := sBy_lt (sDeg N k) (-1) (m := sMany N k) (by omega)
  have hs := hO.span hk h2m
  refine r_aload_n qX2_tenthsToldFor_0 rfl ?_
  refine r_cv0 (cu2 := 0) (su2 := 0) qX2_tenthsToldFor_1 kX2_84 rfl (by decide +kernel) (c := 2) (by assumption) (by decide) rfl rfl rfl rfl rfl rfl ?_
  refine c_X2_lowerPoint (by first | assumption | omega | rfl | decide) (by first | assumption | omega | rfl | decide) (by first | assumption | omega | rfl | decide) (by first | assumption | omega | rfl | decide) (by first | assumption | omega | rfl | decide) ?_
  show zR E _ _ X 4 _ _ _ _ _ _ _
  refine r_is_7_2 qX2_tenthsToldFor_4 rfl rfl ?_
  refine r_aload_n qX2_tenthsToldFor_5 rfl ?_
  refine r_cv0 (cu2 := 0) (su2 := 0) qX2_tenthsToldFor_6 kX2_88 rfl (by decide +kernel) (c := 2) (by assumption) (by decide) rfl rfl rfl rfl rfl rfl ?_
  refine c_X2_upperPoint (by first | assumption | omega | rfl | decide) (by first | assumption | omega | rfl | decide) (by first | assumption | omega | rfl | decide) (by first | assumption | omega | rfl | decide) (by first | assumption | omega | rfl | decide) ?_
  show zR E _ _ X 9 _ _ _ _ _ _ _
  refine r_is_7_3 qX2_tenthsToldFor_9 rfl rfl ?_
  refine r_aload_n qX2_tenthsToldFor_10 rfl ?_
  refine r_getr qX2_tenthsToldFor_11 fX2_15 rfl (by assumption) (by first | assumption | rfl) ?_
  refine r_iload_n qX2_tenthsToldFor_14 rfl ?_
  refine r_ialdN qX2_tenthsToldFor_15 (by assumption) (by assumption) (by omega) rfl ?_
  rw [(fP _ l2).1]
  refine r_aload_n qX2_tenthsToldFor_16 rfl ?_
  refine r_getr qX2_tenthsToldFor_17 fX2_15 rfl (by assumption) (by first | assumption | rfl) ?_
  refine r_iload_n qX2_tenthsToldFor_20 rfl ?_
  refine r_ialdN qX2_tenthsToldFor_21 (by assumption) (by assumption) (by omega) rfl ?_
  rw [(fP _ l1).1]
  refine r_isub qX2_tenthsToldFor_22 ?_
  refine r_is_7_4 qX2_tenthsToldFor_23 rfl rfl ?_
  refine r_aload_n qX2_tenthsToldFor_25 rfl ?_
  refine r_getr qX2_tenthsToldFor_26 fX2_19 rfl (by assumption) (by first | assumption | rfl) ?_
  refine r_iload_n qX2_tenthsToldFor_29 rfl ?_
  refine r_ialdN qX2_tenthsToldFor_30 (by assumption) (by assumption) (by omega) rfl ?_
  rw [(fP _ l2).2]
  refine r_aload_n qX2_tenthsToldFor_31 rfl ?_
  refine r_getr qX2_tenthsToldFor_32 fX2_19 rfl (by assumption) (by first | assumption | rfl) ?_
  refine r_iload_n qX2_tenthsToldFor_35 rfl ?_
  refine r_ialdN qX2_tenthsToldFor_36 (by assumption) (by assumption) (by omega) rfl ?_
  rw [(fP _ l1).2]
  refine r_isub qX2_tenthsToldFor_37 ?_
  refine r_is_7_5 qX2_tenthsToldFor_38 rfl rfl ?_
  refine r_bipush (v := nI 10) qX2_tenthsToldFor_40 (by decide) ?_
  refine r_aload_n qX2_tenthsToldFor_42 rfl ?_
  refine r_getr qX2_tenthsToldFor_43 fX2_15 rfl (by assumption) (by first | assumption | rfl) ?_
  refine r_iload_n qX2_tenthsToldFor_46 rfl ?_
  refine r_ialdN qX2_tenthsToldFor_47 (by assumption) (by assumption) (by omega) rfl ?_
  rw [(fP _ l1).1]
  first | with_reducible refine r_imulN qX2_tenthsToldFor_48 ?_ | refine r_imul qX2_tenthsToldFor_48 ?_
  refine r_is_7_6 qX2_tenthsToldFor_49 rfl rfl ?_
  refine r_iload qX2_tenthsToldFor_51 rfl ?_
  refine r_if_ne (t := 59) qX2_tenthsToldFor_53 (by decide) (fun hc53 => ?_) (fun hc53 => absurd hc53 (hs))
  refine r_iload qX2_tenthsToldFor_59 rfl ?_
  refine r_bipush (v := nI 10) qX2_tenthsToldFor_61 (by decide) ?_
  refine r_iload qX2_tenthsToldFor_63 rfl ?_
  first | with_reducible refine r_imulN qX2_tenthsToldFor_65 ?_ | refine r_imul qX2_tenthsToldFor_65 ?_
  refine r_iload_n qX2_tenthsToldFor_66 rfl ?_
  refine r_aload_n qX2_tenthsToldFor_67 rfl ?_
  refine r_getr qX2_tenthsToldFor_68 fX2_19 rfl (by assumption) (by first | assumption | rfl) ?_
  refine r_iload_n qX2_tenthsToldFor_71 rfl ?_
  refine r_ialdN qX2_tenthsToldFor_72 (by assumption) (by assumption) (by omega) rfl ?_
  rw [(fP _ l1).2]
  refine r_isub qX2_tenthsToldFor_73 ?_
  first | with_reducible refine r_imulN qX2_tenthsToldFor_74 ?_ | refine r_imul qX2_tenthsToldFor_74 ?_
  refine r_iload qX2_tenthsToldFor_75 rfl ?_
  refine r_idiv qX2_tenthsToldFor_77 hs ?_
  first | with_reducible refine r_iaddN qX2_tenthsToldFor_78 ?_ | refine r_iadd qX2_tenthsToldFor_78 ?_
  refine r_iret qX2_tenthsToldFor_79 rfl rfl rfl rfl ?_
  rw [sTells] at hK; exact hK
set_option maxHeartbeats 4000000 in
set_option maxRecDepth 20000 in
theorem c_X2_tenthsRead {E : Ev} {g : Sh} {i : Ni} {j : Nj} {K : Kp} {u d h k : Nat} {N : Nat → Int32} (hT : zT3 g u d h) (hH : tH (i u) (i d) (i h) N k) (hO : zOk N) (hk : k < zn (N 5)) (h2m : 2 ≤ sMany N k) (hK : K (.inl (some (.int (sRead N k)))) g i j) : zCon E mX2_tenthsRead [.ref u] g i j K := by
  refine zcon_of (by decide +kernel) rfl rfl (lo := [.ref u]) rfl (fun X => ?_)
  have w1 := hT.1
  refine r_aload_n qX2_tenthsRead_0 rfl ?_
  refine r_aload_n qX2_tenthsRead_1 rfl ?_
  refine r_cv0 (cu2 := 0) (su2 := 0) qX2_tenthsRead_2 kX2_91 rfl (by decide +kernel) (c := 2) (by assumption) (by decide) rfl rfl rfl rfl rfl rfl ?_
  refine c_X2_level (by first | assumption | omega | rfl | decide) (by first | assumption | omega | rfl | decide) (by first | assumption | omega | rfl | decide) (by first | assumption | omega | rfl | decide) ?_
  show zR E _ _ X 5 _ _ _ _ _ _ _
  refine r_cv1 (cu2 := 0) (su2 := 0) qX2_tenthsRead_5 kX2_94 rfl (by decide +kernel) (c := 2) (by assumption) (by decide) rfl rfl rfl rfl rfl rfl ?_
  refine c_X2_tenthsToldFor (by first | assumption | omega | rfl | decide) (by first | assumption | omega | rfl | decide) (by first | assumption | omega | rfl | decide) (by first | assumption | omega | rfl | decide) (by first | assumption | omega | rfl | decide) ?_
  show zR E _ _ X 8 _ _ _ _ _ _ _
  refine r_iret qX2_tenthsRead_8 rfl rfl rfl rfl ?_
  rw [sRead] at hK; exact hK
def sMis (N : Nat → Int32) (k p : Nat) : Int32 := jabs (nI 10 * sDeg N k p - sTells N k (sHgt N k p))
set_option maxHeartbeats 4000000 in
set_option maxRecDepth 20000 in
theorem c_X2_misfit {E : Ev} {g : Sh} {i : Ni} {j : Nj} {K : Kp} {u d h k p : Nat} {N : Nat → Int32} (hT : zT3 g u d h) (hH : tH (i u) (i d) (i h) N k) (hO : zOk N) (hk : k < zn (N 5)) (h2m : 2 ≤ sMany N k) (hp : p < sMany N k) (hK : K (.inl (some (.int (sMis N k p)))) g i j) : zCon E mX2_misfit [.ref u, .int (nI p)] g i j K := by
  refine zcon_of (by decide +kernel) rfl rfl (lo := [.ref u, .int (nI p)]) rfl (fun X => ?_)
  obtain ⟨w1, w2, w3, w4, w5, w6, w7, w8⟩ := id hT
  obtain ⟨f0, f3, f4, f6, f7, f8, f9, f10, f11, f12, f13, fP⟩ := id hH
  obtain ⟨hm, hm6⟩ := hO.many hk
  refine r_bipush (v := nI 10) qX2_misfit_0 (by decide) ?_
  refine r_aload_n qX2_misfit_2 rfl ?_
  refine r_getr qX2_misfit_3 fX2_15 rfl (by assumption) (by first | assumption | rfl) ?_
  refine r_iload_n qX2_misfit_6 rfl ?_
  refine r_ialdN qX2_misfit_7 (by assumption) (by assumption) (by omega) rfl ?_
  rw [(fP p hp).1]
  first | with_reducible refine r_imulN qX2_misfit_8 ?_ | refine r_imul qX2_misfit_8 ?_
  refine r_aload_n qX2_misfit_9 rfl ?_
  refine r_aload_n qX2_misfit_10 rfl ?_
  refine r_getr qX2_misfit_11 fX2_19 rfl (by assumption) (by first | assumption | rfl) ?_
  refine r_iload_n qX2_misfit_14 rfl ?_
  refine r_ialdN qX2_misfit_15 (by assumption) (by assumption) (by omega) rfl ?_
  rw [(fP p hp).2]
  refine r_cv1 (cu2 := 0) (su2 := 0) qX2_misfit_16 kX2_94 rfl (by decide +kernel) (c := 2) (by assumption) (by decide) rfl rfl rfl rfl rfl rfl ?_
  refine c_X2_tenthsToldFor (by first | assumption | omega | rfl | decide) (by first | assumption | omega | rfl | decide) (by first | assumption | omega | rfl | decide) (by first | assumption | omega | rfl | decide) (by first | assumption | omega | rfl | decide) ?_
  show zR E _ _ X 19 _ _ _ _ _ _ _
  refine r_isub qX2_misfit_19 ?_
  refine r_mabs qX2_misfit_20 kX2_81 rfl rfl rfl rfl ?_
  refine r_iret qX2_misfit_23 rfl rfl rfl rfl ?_
  rw [sMis] at hK; exact hK
set_option maxHeartbeats 4000000 in
set_option maxRecDepth 20000 in
theorem c_X2_misses {E : Ev} {g : Sh} {i : Ni} {j : Nj} {K : Kp} {u d h k p : Nat} {N : Nat → Int32} (hT : zT3 g u d h) (hH : tH (i u) (i d) (i h) N k) (hO : zOk N) (hk : k < zn (N 5)) (h2m : 2 ≤ sMany N k) (hp : p < sMany N k) (hK : K (.inl (some (.int (zb (¬ sMis N k p = 0))))) g i j) : zCon E mX2_misses [.ref u, .int (nI p)] g i j K := by
  refine zcon_of (by decide +kernel) rfl rfl (lo := [.ref u, .int (nI p)]) rfl (fun X => ?_)
  have w1 := hT.1
  refine r_aload_n qX2_misses_0 rfl ?_
  refine r_iload_n qX2_misses_1 rfl ?_
  refine r_cv1 (cu2 := 0) (su2 := 0) qX2_misses_2 kX2_97 rfl (by decide +kernel) (c := 2) (by assumption) (by decide) rfl rfl rfl rfl rfl rfl ?_
  refine c_X2_misfit (by first | assumption | omega | rfl | decide) (by first | assumption | omega | rfl | decide) (by first | assumption | omega | rfl | decide) (by first | assumption | omega | rfl | decide) (by first | assumption | omega | rfl | decide) (by first | assumption | omega | rfl | decide) ?_
  show zR E _ _ X 5 _ _ _ _ _ _ _
  refine r_if_eq (t := 12) qX2_misses_5 (by decide) (fun hc5 => ?_) (fun hc5 => ?_)
  · refine r_iconst (v := nI 0) qX2_misses_12 (by decide) ?_
    refine r_iret qX2_misses_13 rfl (by first | decide | exact zb_nar _ | assumption) rfl rfl ?_
    first | (rw [zb_f (p := ¬ sMis N k p = 0) (fun h => h hc5)] at hK; exact hK) | (rw [zb_t (p := ¬ sMis N k p = 0) hc5] at hK; exact hK)
  · refine r_iconst (v := nI 1) qX2_misses_8 (by decide) ?_
    refine r_goto (t := 13) qX2_misses_9 (by decide) ?_
    refine r_iret qX2_misses_13 rfl (by first | decide | exact zb_nar _ | assumption) rfl rfl ?_
    first | (rw [zb_f (p := ¬ sMis N k p = 0) (fun h => h hc5)] at hK; exact hK) | (rw [zb_t (p := ¬ sMis N k p = 0) hc5] at hK; exact hK)
set_option maxHeartbeats 4000000 in
set_option maxRecDepth 20000 in
theorem c_X2_greatestMisfit {E : Ev} {g : Sh} {i : Ni} {j : Nj} {K : Kp} {u d h k : Nat} {N : Nat → Int32} (hT : zT3 g u d h) (hH : tH (i u) (i d) (i h) N k) (hO : zOk N) (hk : k < zn (N 5)) (h2m : 2 ≤ sMany N k) (hK : K (.inl (some (.int (sFit N k (sMany N k))))) g i j) : zCon E mX2_greatestMisfit [.ref u] g i j K := by
  refine zcon_of (by decide +kernel) rfl rfl (lo := [.ref u, zJ, zJ]) rfl (fun X => ?_)
  have w1 := hT.1
  obtain ⟨f0, f3, f4, f6, f7, f8, f9, f10, f11, f12, f13, fP⟩ := id hH
  obtain ⟨hm, hm6⟩ := hO.many hk
  have K4 : ∀ q p : Nat, p + q = sMany N k → zR E mX2_greatestMisfit (zZ E mX2_greatestMisfit K) X 4 [.ref u, .int (sFit N k p), .int (nI p)] [] g i j 0 0 := by
    intro q
    induction q with
    | zero =>
      intro p hp
      obtain rfl : p = sMany N k := by omega
      refine r_iload_n qX2_greatestMisfit_4 rfl ?_
      refine r_aload_n qX2_greatestMisfit_5 rfl ?_
      refine r_geti qX2_greatestMisfit_6 fX2_34 rfl (by assumption) ?_
      rw [f3, hm]
      refine r_icmp_ge (t := 28) qX2_greatestMisfit_9 (by decide) (fun hc9 => ?_) (fun hc9 => absurd hc9 (fun h => h (nI_le (by omega) (by omega))))
      refine r_iload_n qX2_greatestMisfit_28 rfl ?_
      refine r_iret qX2_greatestMisfit_29 rfl rfl rfl rfl ?_
      exact hK
    | succ q ih =>
      intro p hp
      refine r_iload_n qX2_greatestMisfit_4 rfl ?_
      refine r_aload_n qX2_greatestMisfit_5 rfl ?_
      refine r_geti qX2_greatestMisfit_6 fX2_34 rfl (by assumption) ?_
      rw [f3, hm]
      refine r_icmp_ge (t := 28) qX2_greatestMisfit_9 (by decide) (fun hc9 => absurd hc9 (nI_ge (by omega) (by omega))) (fun hc9 => ?_)
      refine r_iload_n qX2_greatestMisfit_12 rfl ?_
      refine r_aload_n qX2_greatestMisfit_13 rfl ?_
      refine r_iload_n qX2_greatestMisfit_14 rfl ?_
      refine r_cv1 (cu2 := 0) (su2 := 0) qX2_greatestMisfit_15 kX2_97 rfl (by decide +kernel) (c := 2) (by assumption) (by decide) rfl rfl rfl rfl rfl rfl ?_
      refine c_X2_misfit hT hH hO hk h2m (show p < sMany N k by omega) ?_
      show zR E _ _ X 18 _ _ _ _ _ _ _
      refine r_mmax qX2_greatestMisfit_18 kX2_100 rfl rfl rfl rfl ?_
      refine r_is_3_1 qX2_greatestMisfit_21 rfl rfl ?_
      refine r_ii_3_2 qX2_greatestMisfit_22 rfl rfl (nI_inc p) ?_
      refine r_goto (t := 4) qX2_greatestMisfit_25 (by decide) ?_
      exact ih (p + 1) (by omega)
  refine r_iconst (v := nI 0) qX2_greatestMisfit_0 (by decide) ?_
  refine r_is_3_1 qX2_greatestMisfit_1 rfl rfl ?_
  refine r_iconst (v := nI 0) qX2_greatestMisfit_2 (by decide) ?_
  refine r_is_3_2 qX2_greatestMisfit_3 rfl rfl ?_
  exact K4 (sMany N k) 0 (by omega)


