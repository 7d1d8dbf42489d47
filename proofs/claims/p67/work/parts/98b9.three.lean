/-! ===== THE CLASS: THREE QUESTIONS MORE ===== -/
theorem gt_low {q : Nat} (h : q ≤ 1700) : ¬ nI q - nI 200 < (-200 : Int32) := by
  rw [Int32.lt_iff_toInt_lt, dg_in h, show ((-200 : Int32)).toInt = -200 by decide]
  omega
set_option maxHeartbeats 4000000 in
set_option maxRecDepth 20000 in
theorem c_X3_greatestTemperature {E : Ev} {g : Sh} {i : Ni} {j : Nj} {K : Kp} {c : Nat} {a : Nat → Nat} {N : Nat → Int32} {t : Int32} (hX : zX3 g c a) (hH : zH i a N) (hK : K (oc3 (tv (N 5) t) (True) (True) 2 0 0 (.int (sGreat N (zn t) 1701))) g i j) : zCon E mX3_greatestTemperature [.ref c, .int t] g i j K := by
  refine zcon_of (by decide +kernel) rfl rfl (lo := [.ref c, .int t, zJ, zJ]) rfl (fun X => ?_)
  obtain ⟨x1, x2, hC⟩ := id hX
  have hO := hH.1
  have KL : ∀ k, k < zn (N 5) → ∀ q : Nat, q ≤ 1700 → K (.inl (some (.int (sGreat N k (q + 1))))) g i j → ∀ z : Value, z.category = 1 → zR E mX3_greatestTemperature (zZ E mX3_greatestTemperature K) X 10 [.ref c, z, .ref (a (6 + 3 * k)), .int (nI q - nI 200)] [] g i j 1 6 := by
    intro k hk q
    have h8 := hO.k8 hk
    obtain ⟨tb1, hT3⟩ := hC.tb h8
    have u1 := hT3.1
    have hU := hH.tu hk
    obtain ⟨f0, f3, f4, f6, f7, f8, f9, f10, f11, f12, f13, fP⟩ := id hU
    induction q with
    | zero =>
      intro hq hK z hz
      rw [sGreat] at hK
      have K10 : K (.inl (some (.int (sGreat N k 0)))) g i j → zR E mX3_greatestTemperature (zZ E mX3_greatestTemperature K) X 10 [.ref c, z, .ref (a (6 + 3 * k)), .int (nI 0 - nI 200 + Int32.ofInt (-1))] [] g i j 1 6 := by
        intro hK
        rw [sGreat] at hK
        refine r_iload_n qX3_greatestTemperature_10 rfl ?_
        refine r_sipush (v := (-200)) qX3_greatestTemperature_11 (by decide) ?_
        refine r_icmp_lt (t := 37) qX3_greatestTemperature_14 (by decide) (fun hc14 => ?_) (fun hc14 => absurd hc14 (fun h => h (by decide +kernel)))
        refine r_sipush (v := (-1000)) qX3_greatestTemperature_37 (by decide) ?_
        refine r_iret qX3_greatestTemperature_40 rfl rfl rfl rfl ?_
        exact hK
      refine r_iload_n qX3_greatestTemperature_10 rfl ?_
      refine r_sipush (v := (-200)) qX3_greatestTemperature_11 (by decide) ?_
      refine r_icmp_lt (t := 37) qX3_greatestTemperature_14 (by decide) (fun hc14 => absurd hc14 (gt_low (by omega))) (fun hc14 => ?_)
      refine r_aload_n qX3_greatestTemperature_17 rfl ?_
      refine r_iload_n qX3_greatestTemperature_18 rfl ?_
      refine r_cv1 (cu2 := 1) (su2 := 6) qX3_greatestTemperature_19 kX3_168 rfl (by decide +kernel) (c := 2) (by assumption) (by decide) rfl rfl rfl rfl rfl rfl ?_
      refine c_X2_freeHeight hT3 hU hO hk ?_
      show zR E _ _ X 22 _ _ _ _ _ _ _
      refine r_aload_n qX3_greatestTemperature_22 rfl ?_
      refine r_geti qX3_greatestTemperature_23 fX3_172 rfl (by assumption) ?_
      rw [f9]
      refine r_icmp_gt (t := 31) qX3_greatestTemperature_26 (by decide) (fun hc26 => ?_) (fun hc26 => ?_)
      · refine r_ii_4_3 qX3_greatestTemperature_31 rfl rfl rfl ?_
        refine r_goto (t := 10) qX3_greatestTemperature_34 (by decide) ?_
        exact K10 (by rw [if_pos hc26] at hK; exact hK)
      · refine r_iload_n qX3_greatestTemperature_29 rfl ?_
        refine r_iret qX3_greatestTemperature_30 rfl rfl rfl rfl ?_
        (rw [if_neg hc26] at hK; exact hK)
    | succ q ih =>
      intro hq hK z hz
      rw [sGreat] at hK
      refine r_iload_n qX3_greatestTemperature_10 rfl ?_
      refine r_sipush (v := (-200)) qX3_greatestTemperature_11 (by decide) ?_
      refine r_icmp_lt (t := 37) qX3_greatestTemperature_14 (by decide) (fun hc14 => absurd hc14 (gt_low (by omega))) (fun hc14 => ?_)
      refine r_aload_n qX3_greatestTemperature_17 rfl ?_
      refine r_iload_n qX3_greatestTemperature_18 rfl ?_
      refine r_cv1 (cu2 := 1) (su2 := 6) qX3_greatestTemperature_19 kX3_168 rfl (by decide +kernel) (c := 2) (by assumption) (by decide) rfl rfl rfl rfl rfl rfl ?_
      refine c_X2_freeHeight hT3 hU hO hk ?_
      show zR E _ _ X 22 _ _ _ _ _ _ _
      refine r_aload_n qX3_greatestTemperature_22 rfl ?_
      refine r_geti qX3_greatestTemperature_23 fX3_172 rfl (by assumption) ?_
      rw [f9]
      refine r_icmp_gt (t := 31) qX3_greatestTemperature_26 (by decide) (fun hc26 => ?_) (fun hc26 => ?_)
      · refine r_ii_4_3 qX3_greatestTemperature_31 rfl rfl (gr_dec2 q) ?_
        refine r_goto (t := 10) qX3_greatestTemperature_34 (by decide) ?_
        exact ih (by omega) (by rw [if_pos hc26] at hK; exact hK) z hz
      · refine r_iload_n qX3_greatestTemperature_29 rfl ?_
        refine r_iret qX3_greatestTemperature_30 rfl rfl rfl rfl ?_
        (rw [if_neg hc26] at hK; exact hK)
  refine r_aload_n qX3_greatestTemperature_0 rfl ?_
  refine r_iload_n qX3_greatestTemperature_1 rfl ?_
  refine r_cv1 (cu2 := 1) (su2 := 6) qX3_greatestTemperature_2 kX3_141 rfl (by decide +kernel) (c := 3) (by assumption) (by decide) rfl rfl rfl rfl rfl rfl ?_
  refine c_X3_checkedTube hX hH (fun hv => t_out rfl rfl rfl (by rw [oc3_a hv] at hK; exact hK)) (fun k ek hk => ?_)
  subst ek
  have hv := tv_mk hk (by have := hO.k8 hk; omega)
  have h8 := hO.k8 hk
  have zk : zn (nI k) = k := zn_nI (by omega)
  show zR E _ _ X 5 _ _ _ _ _ _ _
  refine r_as_4_2 qX3_greatestTemperature_5 rfl rfl ?_
  refine r_sipush (v := nI 1500) qX3_greatestTemperature_6 (by decide) ?_
  refine r_is_4_3 qX3_greatestTemperature_9 rfl rfl ?_
  rw [oc3_v hv trivial trivial, zk] at hK
  exact KL k hk 1700 (by omega) hK _ rfl
def sSpI (N : Nat → Int32) (p : Nat) (fo le gr : Int32) : Prop := (fo = nI 0 ∧ le = nI 0 ∧ gr = nI 0 ∧ sMost N p = -2147483648 ∧ sLeast N p = 2147483647) ∨ (fo = nI 1 ∧ le = sLeast N p ∧ gr = sMost N p ∧ ¬ sMost N p < sLeast N p)
theorem jmax_lo (r : Int32) : jmax (-2147483648) r = r := by
  rw [jmax]
  split
  · rfl
  · rename_i h
    rw [Int32.lt_iff_toInt_lt, show ((-2147483648 : Int32)).toInt = -2147483648 by decide] at h
    have := Int32.le_toInt r
    refine Int32.toInt_inj.mp ?_
    rw [show ((-2147483648 : Int32)).toInt = -2147483648 by decide]
    omega
theorem jmin_hi (r : Int32) : jmin 2147483647 r = r := by
  rw [jmin]
  split
  · rfl
  · rename_i h
    rw [Int32.lt_iff_toInt_lt, show ((2147483647 : Int32)).toInt = 2147483647 by decide] at h
    have := Int32.toInt_lt r
    refine Int32.toInt_inj.mp ?_
    rw [show ((2147483647 : Int32)).toInt = 2147483647 by decide]
    omega
theorem jmm_ne (a b r : Int32) : ¬ jmax a r < jmin b r := by
  rw [jmax, jmin]
  split <;> split <;> rw [Int32.lt_iff_toInt_lt] at * <;> omega
set_option maxHeartbeats 4000000 in
set_option maxRecDepth 20000 in
theorem c_X3_spread {E : Ev} {g : Sh} {i : Ni} {j : Nj} {K : Kp} {c : Nat} {a : Nat → Nat} {N : Nat → Int32} (hX : zX3 g c a) (hH : zH i a N) (hK : K (.inl (some (.int (if sMost N (zn (N 5)) < sLeast N (zn (N 5)) then nI 0 else sMost N (zn (N 5)) - sLeast N (zn (N 5)))))) g i j) : zCon E mX3_spread [.ref c] g i j K := by
  refine zcon_of (by decide +kernel) rfl rfl (lo := [.ref c, zJ, zJ, zJ, zJ, zJ, zJ]) rfl (fun X => ?_)
  obtain ⟨x1, x2, hC⟩ := id hX
  have hO := hH.1
  obtain ⟨a1, a2, a3, a4, a5, a6, a7, a8, a9, a10, a11, a12, a13, a14, a15, a16, -⟩ := id hC
  obtain ⟨c5, c6, c7, c8, c9, c10, c11, c12⟩ := hH.cnt
  obtain ⟨hT, hT8⟩ := hO.T8
  have c7' := c7.trans hT
  have KL : ∀ q p : Nat, p + q = zn (N 5) → ∀ fo le gr : Int32, sSpI N p fo le gr → ∀ z w : Value, zR E mX3_spread (zZ E mX3_spread K) X 9 [.ref c, .int fo, .int le, .int gr, .int (nI p), z, w] [] g i j 0 0 := by
    intro q
    induction q with
    | zero =>
      intro p hp fo le gr hI z w
      obtain rfl : p = zn (N 5) := by omega
      rcases hI with ⟨rfl, rfl, rfl, e1, e2⟩ | ⟨rfl, rfl, rfl, e1⟩
      · skip
        rw [e1, e2, if_pos (by decide)] at hK
        refine r_iload qX3_spread_9 rfl ?_
        refine r_aload_n qX3_spread_11 rfl ?_
        refine r_getr qX3_spread_12 fX3_40 rfl (by assumption) (by first | assumption | rfl) ?_
        refine r_geti qX3_spread_15 fX3_104 rfl (by assumption) ?_
        rw [c7']
        refine r_icmp_ge (t := 88) qX3_spread_18 (by decide) (fun hc18 => ?_) (fun hc18 => absurd hc18 (fun h => h (nI_le (Nat.le_refl _) (by omega))))
        refine r_iload_n qX3_spread_88 rfl ?_
        refine r_iload_n qX3_spread_89 rfl ?_
        refine r_isub qX3_spread_90 ?_
        refine r_iret qX3_spread_91 rfl rfl rfl rfl ?_
        exact hK
      · skip
        rw [if_neg e1] at hK
        refine r_iload qX3_spread_9 rfl ?_
        refine r_aload_n qX3_spread_11 rfl ?_
        refine r_getr qX3_spread_12 fX3_40 rfl (by assumption) (by first | assumption | rfl) ?_
        refine r_geti qX3_spread_15 fX3_104 rfl (by assumption) ?_
        rw [c7']
        refine r_icmp_ge (t := 88) qX3_spread_18 (by decide) (fun hc18 => ?_) (fun hc18 => absurd hc18 (fun h => h (nI_le (Nat.le_refl _) (by omega))))
        refine r_iload_n qX3_spread_88 rfl ?_
        refine r_iload_n qX3_spread_89 rfl ?_
        refine r_isub qX3_spread_90 ?_
        refine r_iret qX3_spread_91 rfl rfl rfl rfl ?_
        exact hK
    | succ q ih =>
      intro p hp fo le gr hI z w
      have hk : p < zn (N 5) := by omega
      have h8 := hO.k8 hk
      obtain ⟨tb1, hT3⟩ := hC.tb h8
      have u1 := hT3.1
      have hU := hH.tu hk
      have Kskip : ¬ 2 ≤ sMany N p → ∀ z w : Value, zR E mX3_spread (zZ E mX3_spread K) X 82 [.ref c, .int fo, .int le, .int gr, .int (nI p), z, w] [] g i j 0 0 := by
        intro h z w
        refine r_ii_7_4 qX3_spread_82 rfl rfl (nI_inc p) ?_
        refine r_goto (t := 9) qX3_spread_85 (by decide) ?_
        exact ih (p + 1) (by omega) fo le gr (by rw [sSpI, sMost, sLeast, if_neg h, if_neg h]; exact hI) z w
      have Ktake : 2 ≤ sMany N p → ∀ le2 gr2 : Int32, le2 = sLeast N (p + 1) → gr2 = sMost N (p + 1) → ∀ z w : Value, zR E mX3_spread (zZ E mX3_spread K) X 80 [.ref c, .int fo, .int le2, .int gr2, .int (nI p), z, w] [] g i j 0 0 := by
        intro h le2 gr2 e1 e2 z w
        refine r_iconst (v := nI 1) qX3_spread_80 (by decide) ?_
        refine r_is_7_1 qX3_spread_81 rfl rfl ?_
        refine r_ii_7_4 qX3_spread_82 rfl rfl (nI_inc p) ?_
        refine r_goto (t := 9) qX3_spread_85 (by decide) ?_
        exact ih (p + 1) (by omega) (nI 1) le2 gr2 (Or.inr ⟨rfl, e1, e2, by rw [sMost, sLeast, if_pos h, if_pos h]; exact jmm_ne _ _ _⟩) z w
      have em : 2 ≤ sMany N p → sMost N (p + 1) = jmax (sMost N p) (sRead N p) := fun h => by rw [sMost, if_pos h]
      have el : 2 ≤ sMany N p → sLeast N (p + 1) = jmin (sLeast N p) (sRead N p) := fun h => by rw [sLeast, if_pos h]
      rcases id hI with ⟨rfl, rfl, rfl, e1, e2⟩ | ⟨rfl, rfl, rfl, e1⟩
      · skip
        refine r_iload qX3_spread_9 rfl ?_
        refine r_aload_n qX3_spread_11 rfl ?_
        refine r_getr qX3_spread_12 fX3_40 rfl (by assumption) (by first | assumption | rfl) ?_
        refine r_geti qX3_spread_15 fX3_104 rfl (by assumption) ?_
        rw [c7']
        refine r_icmp_ge (t := 88) qX3_spread_18 (by decide) (fun hc18 => absurd hc18 (nI_ge (by omega) (by omega))) (fun hc18 => ?_)
        refine r_aload_n qX3_spread_21 rfl ?_
        refine r_getr qX3_spread_22 fX3_40 rfl (by assumption) (by first | assumption | rfl) ?_
        refine r_getr qX3_spread_25 fX3_120 rfl (by assumption) (by first | assumption | rfl) ?_
        refine r_iload qX3_spread_28 rfl ?_
        refine r_aaldN qX3_spread_30 (by first | exact Or.inl (by assumption) | exact Or.inr (by assumption)) (by assumption) (by omega) rfl (by first | assumption | rfl) ?_
        refine r_as_7_5 qX3_spread_31 rfl rfl ?_
        refine r_aload qX3_spread_33 rfl ?_
        refine r_cv0 (cu2 := 0) (su2 := 0) qX3_spread_35 kX3_192 rfl (by decide +kernel) (c := 2) (by assumption) (by decide) rfl rfl rfl rfl rfl rfl ?_
        refine c_X2_scaled hT3 hU hO hk ?_
        show zR E _ _ X 38 _ _ _ _ _ _ _
        refine r_if_eq (t := 82) qX3_spread_38 (by decide) (fun hc38 => ?_) (fun hc38 => ?_)
        · exact Kskip (zb_0.mp hc38) _ _
        · refine r_aload qX3_spread_41 rfl ?_
          refine r_cv0 (cu2 := 0) (su2 := 0) qX3_spread_43 kX3_200 rfl (by decide +kernel) (c := 2) (by assumption) (by decide) rfl rfl rfl rfl rfl rfl ?_
          refine c_X2_tenthsRead hT3 hU hO hk (zb_ne.mp hc38) ?_
          show zR E _ _ X 46 _ _ _ _ _ _ _
          refine r_is_7_6 qX3_spread_46 rfl rfl ?_
          refine r_iload_n qX3_spread_48 rfl ?_
          refine r_if_eq (t := 61) qX3_spread_49 (by decide) (fun hc49 => ?_) (fun hc49 => absurd hc49 (by decide))
          refine r_iload qX3_spread_61 rfl ?_
          refine r_is_7_2 qX3_spread_63 rfl rfl ?_
          refine r_iload_n qX3_spread_64 rfl ?_
          refine r_if_eq (t := 77) qX3_spread_65 (by decide) (fun hc65 => ?_) (fun hc65 => absurd hc65 (by decide))
          refine r_iload qX3_spread_77 rfl ?_
          refine r_is_7_3 qX3_spread_79 rfl rfl ?_
          exact Ktake (zb_ne.mp hc38) _ _ (by rw [el (zb_ne.mp hc38), e2, jmin_hi]) (by rw [em (zb_ne.mp hc38), e1, jmax_lo]) _ _
      · skip
        refine r_iload qX3_spread_9 rfl ?_
        refine r_aload_n qX3_spread_11 rfl ?_
        refine r_getr qX3_spread_12 fX3_40 rfl (by assumption) (by first | assumption | rfl) ?_
        refine r_geti qX3_spread_15 fX3_104 rfl (by assumption) ?_
        rw [c7']
        refine r_icmp_ge (t := 88) qX3_spread_18 (by decide) (fun hc18 => absurd hc18 (nI_ge (by omega) (by omega))) (fun hc18 => ?_)
        refine r_aload_n qX3_spread_21 rfl ?_
        refine r_getr qX3_spread_22 fX3_40 rfl (by assumption) (by first | assumption | rfl) ?_
        refine r_getr qX3_spread_25 fX3_120 rfl (by assumption) (by first | assumption | rfl) ?_
        refine r_iload qX3_spread_28 rfl ?_
        refine r_aaldN qX3_spread_30 (by first | exact Or.inl (by assumption) | exact Or.inr (by assumption)) (by assumption) (by omega) rfl (by first | assumption | rfl) ?_
        refine r_as_7_5 qX3_spread_31 rfl rfl ?_
        refine r_aload qX3_spread_33 rfl ?_
        refine r_cv0 (cu2 := 0) (su2 := 0) qX3_spread_35 kX3_192 rfl (by decide +kernel) (c := 2) (by assumption) (by decide) rfl rfl rfl rfl rfl rfl ?_
        refine c_X2_scaled hT3 hU hO hk ?_
        show zR E _ _ X 38 _ _ _ _ _ _ _
        refine r_if_eq (t := 82) qX3_spread_38 (by decide) (fun hc38 => ?_) (fun hc38 => ?_)
        · exact Kskip (zb_0.mp hc38) _ _
        · refine r_aload qX3_spread_41 rfl ?_
          refine r_cv0 (cu2 := 0) (su2 := 0) qX3_spread_43 kX3_200 rfl (by decide +kernel) (c := 2) (by assumption) (by decide) rfl rfl rfl rfl rfl rfl ?_
          refine c_X2_tenthsRead hT3 hU hO hk (zb_ne.mp hc38) ?_
          show zR E _ _ X 46 _ _ _ _ _ _ _
          refine r_is_7_6 qX3_spread_46 rfl rfl ?_
          refine r_iload_n qX3_spread_48 rfl ?_
          refine r_if_eq (t := 61) qX3_spread_49 (by decide) (fun hc49 => absurd hc49 (by decide)) (fun hc49 => ?_)
          refine r_iload_n qX3_spread_52 rfl ?_
          refine r_iload qX3_spread_53 rfl ?_
          refine r_mmin qX3_spread_55 kX3_221 rfl rfl rfl rfl ?_
          refine r_goto (t := 63) qX3_spread_58 (by decide) ?_
          refine r_is_7_2 qX3_spread_63 rfl rfl ?_
          refine r_iload_n qX3_spread_64 rfl ?_
          refine r_if_eq (t := 77) qX3_spread_65 (by decide) (fun hc65 => absurd hc65 (by decide)) (fun hc65 => ?_)
          refine r_iload_n qX3_spread_68 rfl ?_
          refine r_iload qX3_spread_69 rfl ?_
          refine r_mmax qX3_spread_71 kX3_225 rfl rfl rfl rfl ?_
          refine r_goto (t := 79) qX3_spread_74 (by decide) ?_
          refine r_is_7_3 qX3_spread_79 rfl rfl ?_
          exact Ktake (zb_ne.mp hc38) _ _ (el (zb_ne.mp hc38)).symm (em (zb_ne.mp hc38)).symm _ _
  refine r_iconst (v := nI 0) qX3_spread_0 (by decide) ?_
  refine r_is_7_1 qX3_spread_1 rfl rfl ?_
  refine r_iconst (v := nI 0) qX3_spread_2 (by decide) ?_
  refine r_is_7_2 qX3_spread_3 rfl rfl ?_
  refine r_iconst (v := nI 0) qX3_spread_4 (by decide) ?_
  refine r_is_7_3 qX3_spread_5 rfl rfl ?_
  refine r_iconst (v := nI 0) qX3_spread_6 (by decide) ?_
  refine r_is_7_4 qX3_spread_7 rfl rfl ?_
  exact KL (zn (N 5)) 0 (by omega) _ _ _ (Or.inl ⟨rfl, rfl, rfl, rfl, rfl⟩) _ _
theorem sAdd_add (f g : Nat → Int32) : ∀ n, sAdd (fun k => f k + g k) n = sAdd f n + sAdd g n
  | 0 => rfl
  | n + 1 => by
    have := sAdd_add f g n
    simp only [sAdd] at this ⊢
    grind
theorem sAdd_zero : ∀ n, sAdd (fun _ => nI 0) n = nI 0
  | 0 => rfl
  | n + 1 => by rw [sAdd, sAdd_zero n]; rfl
theorem sAdd_one {v : Int32} {s : Nat} (hs : s < 100) : ∀ n, n < 100 → sAdd (fun q => if nI s = nI q then v else nI 0) n = if s < n then v else nI 0
  | 0, _ => by rw [if_neg (by omega)]; rfl
  | n + 1, h => by
    rw [sAdd, sAdd_one hs n (by omega)]
    by_cases e : s = n
    · subst e
      rw [if_neg (by omega), if_pos rfl, if_pos (by omega)]
      exact Int32.zero_add v
    · rw [if_neg (show ¬ nI s = nI n from fun e2 => e ((nI_eq (by omega) (by omega)).mp e2))]
      by_cases h2 : s < n
      · rw [if_pos h2, if_pos (by omega)]; exact Int32.add_zero v
      · rw [if_neg h2, if_neg (by omega)]; rfl
theorem sAdd_ex {S : Nat} {f sp : Nat → Int32} (hS : S < 100) : ∀ T, (∀ k, k < T → ∃ s, sp k = nI s ∧ s < S) → sAdd (fun s => sAdd (fun k => if sp k = nI s then f k else nI 0) T) S = sAdd f T
  | 0, _ => sAdd_zero S
  | T + 1, h => by
    obtain ⟨s, e, hs⟩ := h T (by omega)
    have ih := sAdd_ex (f := f) hS T (fun k hk => h k (by omega))
    have e1 : (fun s => sAdd (fun k => if sp k = nI s then f k else nI 0) (T + 1)) = fun s => sAdd (fun k => if sp k = nI s then f k else nI 0) T + (if sp T = nI s then f T else nI 0) := rfl
    rw [e1, sAdd_add, ih, e, sAdd_one (by omega) S hS, if_pos hs]
    rfl
theorem sAdd_cg {f g : Nat → Int32} : ∀ n, (∀ k, k < n → f k = g k) → sAdd f n = sAdd g n
  | 0, _ => rfl
  | n + 1, h => by rw [sAdd, sAdd, sAdd_cg n (fun k hk => h k (by omega)), h n (by omega)]
theorem sLost_s (N : Nat → Int32) : ∀ n, sLost N n = sAdd (fun s => N (10 + 4 * s + 3)) n
  | 0 => rfl
  | n + 1 => by rw [sLost, sLost_s N n]; rfl
theorem sRest_s (N : Nat → Int32) (a : Int32) : ∀ n, sRest N a n + sAdd (fun k => N (42 + 21 * k + 4)) n = a
  | 0 => by rw [sRest]; exact Int32.add_zero a
  | n + 1 => by
    have := sRest_s N a n
    simp only [sRest, sAdd] at this ⊢
    grind
theorem sDif {G L : Nat → Int32} {N : Nat → Int32} : ∀ n, sAdd (fun k => G k - N (42 + 21 * k + 4) - L k) n + sAdd (fun k => N (42 + 21 * k + 4)) n + sAdd L n = sAdd G n
  | 0 => rfl
  | n + 1 => by
    have := sDif (G := G) (L := L) (N := N) n
    simp only [sAdd] at this ⊢
    grind
theorem sDif_e {i : Ni} {a : Nat → Nat} {N : Nat → Int32} (hH : zH i a N) : sAdd (fun k => i (a (6 + 3 * k)) 14 - N (42 + 21 * k + 4) - i (a (6 + 3 * k)) 15) (zn (N 5)) = sRest N (N 8 - sLost N (zn (N 3))) (zn (N 5)) := by
  have hO := hH.1
  have e1 := sDif (G := fun k => i (a (6 + 3 * k)) 14) (L := fun k => i (a (6 + 3 * k)) 15) (N := N) (zn (N 5))
  have e2 := sRest_s N (N 8 - sLost N (zn (N 3))) (zn (N 5))
  have hS5 := hO.S5.2
  have e3 := sAdd_ex (S := zn (N 3)) (f := fun k => i (a (6 + 3 * k)) 15) (sp := fun k => N (42 + 21 * k + 0)) (by omega) (zn (N 5)) (fun k hk => (hO.tu hk).1)
  have e4 : sAdd (fun s => sAdd (fun k => if N (42 + 21 * k + 0) = nI s then i (a (6 + 3 * k)) 15 else nI 0) (zn (N 5))) (zn (N 3)) = sLost N (zn (N 3)) := by
    rw [sLost_s]
    exact sAdd_cg _ (fun s hs => hH.los hs)
  have e5 := hH.giv
  rw [e4] at e3
  rw [e5, ← e3] at e1
  generalize sAdd (fun k => i (a (6 + 3 * k)) 14 - N (42 + 21 * k + 4) - i (a (6 + 3 * k)) 15) (zn (N 5)) = d at *
  generalize sRest N (N 8 - sLost N (zn (N 3))) (zn (N 5)) = r at *
  generalize sAdd (fun k => N (42 + 21 * k + 4)) (zn (N 5)) = f at *
  generalize sLost N (zn (N 3)) = l at *
  grind
set_option maxHeartbeats 4000000 in
set_option maxRecDepth 20000 in
theorem c_X3_spiritDifference {E : Ev} {g : Sh} {i : Ni} {j : Nj} {K : Kp} {c : Nat} {a : Nat → Nat} {N : Nat → Int32} (hX : zX3 g c a) (hH : zH i a N) (hK : K (.inl (some (.int (sRest N (N 8 - sLost N (zn (N 3))) (zn (N 5)))))) g i j) : zCon E mX3_spiritDifference [.ref c] g i j K := by
  refine zcon_of (by decide +kernel) rfl rfl (lo := [.ref c, zJ, zJ, zJ]) rfl (fun X => ?_)
  obtain ⟨x1, x2, hC⟩ := id hX
  have hO := hH.1
  obtain ⟨a1, a2, a3, a4, a5, a6, a7, a8, a9, a10, a11, a12, a13, a14, a15, a16, -⟩ := id hC
  obtain ⟨c5, c6, c7, c8, c9, c10, c11, c12⟩ := hH.cnt
  obtain ⟨hT, hT8⟩ := hO.T8
  have c7' := c7.trans hT
  rw [← sDif_e hH] at hK
  have KL : ∀ q p : Nat, p + q = zn (N 5) → ∀ (d : Int32), d = sAdd (fun k => i (a (6 + 3 * k)) 14 - N (42 + 21 * k + 4) - i (a (6 + 3 * k)) 15) p → ∀ z : Value, zR E mX3_spiritDifference (zZ E mX3_spiritDifference K) X 4 [.ref c, .int d, .int (nI p), z] [] g i j 0 0 := by
    intro q
    induction q with
    | zero =>
      intro p hp d hd z
      obtain rfl : p = zn (N 5) := by omega
      refine r_iload_n qX3_spiritDifference_4 rfl ?_
      refine r_aload_n qX3_spiritDifference_5 rfl ?_
      refine r_getr qX3_spiritDifference_6 fX3_40 rfl (by assumption) (by first | assumption | rfl) ?_
      refine r_geti qX3_spiritDifference_9 fX3_104 rfl (by assumption) ?_
      rw [c7']
      refine r_icmp_ge (t := 48) qX3_spiritDifference_12 (by decide) (fun hc12 => ?_) (fun hc12 => absurd hc12 (fun h => h (nI_le (Nat.le_refl _) (by omega))))
      refine r_iload_n qX3_spiritDifference_48 rfl ?_
      refine r_iret qX3_spiritDifference_49 rfl rfl rfl rfl ?_
      rw [hd]; exact hK
    | succ q ih =>
      intro p hp d hd z
      have hk : p < zn (N 5) := by omega
      have h8 := hO.k8 hk
      obtain ⟨tb1, hT3⟩ := hC.tb h8
      have u1 := hT3.1
      have hU := hH.tu hk
      obtain ⟨f0, f3, f4, f6, f7, f8, f9, f10, f11, f12, f13, fP⟩ := id hU
      refine r_iload_n qX3_spiritDifference_4 rfl ?_
      refine r_aload_n qX3_spiritDifference_5 rfl ?_
      refine r_getr qX3_spiritDifference_6 fX3_40 rfl (by assumption) (by first | assumption | rfl) ?_
      refine r_geti qX3_spiritDifference_9 fX3_104 rfl (by assumption) ?_
      rw [c7']
      refine r_icmp_ge (t := 48) qX3_spiritDifference_12 (by decide) (fun hc12 => absurd hc12 (nI_ge (by omega) (by omega))) (fun hc12 => ?_)
      refine r_aload_n qX3_spiritDifference_15 rfl ?_
      refine r_getr qX3_spiritDifference_16 fX3_40 rfl (by assumption) (by first | assumption | rfl) ?_
      refine r_getr qX3_spiritDifference_19 fX3_120 rfl (by assumption) (by first | assumption | rfl) ?_
      refine r_iload_n qX3_spiritDifference_22 rfl ?_
      refine r_aaldN qX3_spiritDifference_23 (by first | exact Or.inl (by assumption) | exact Or.inr (by assumption)) (by assumption) (by omega) rfl (by first | assumption | rfl) ?_
      refine r_as_4_3 qX3_spiritDifference_24 rfl rfl ?_
      refine r_iload_n qX3_spiritDifference_25 rfl ?_
      refine r_aload_n qX3_spiritDifference_26 rfl ?_
      refine r_geti qX3_spiritDifference_27 fX3_244 rfl (by assumption) ?_
      refine r_aload_n qX3_spiritDifference_30 rfl ?_
      refine r_geti qX3_spiritDifference_31 fX3_135 rfl (by assumption) ?_
      rw [f10]
      refine r_isub qX3_spiritDifference_34 ?_
      refine r_aload_n qX3_spiritDifference_35 rfl ?_
      refine r_geti qX3_spiritDifference_36 fX3_138 rfl (by assumption) ?_
      refine r_isub qX3_spiritDifference_39 ?_
      first | with_reducible refine r_iaddN qX3_spiritDifference_40 ?_ | refine r_iadd qX3_spiritDifference_40 ?_
      refine r_is_4_1 qX3_spiritDifference_41 rfl rfl ?_
      refine r_ii_4_2 qX3_spiritDifference_42 rfl rfl (nI_inc p) ?_
      refine r_goto (t := 4) qX3_spiritDifference_45 (by decide) ?_
      exact ih (p + 1) (by omega) _ (by rw [hd]; rfl) _
  refine r_iconst (v := nI 0) qX3_spiritDifference_0 (by decide) ?_
  refine r_is_4_1 qX3_spiritDifference_1 rfl rfl ?_
  refine r_iconst (v := nI 0) qX3_spiritDifference_2 (by decide) ?_
  refine r_is_4_2 qX3_spiritDifference_3 rfl rfl ?_
  exact KL (zn (N 5)) 0 (by omega) _ rfl _
theorem zBu.num {g : Sh} {i i' : Ni} {r : Nat} {L : List Int32} (h : zBu g i r L) (e1 : i' r = i r) (e2 : i' (gR g r 0) = i (gR g r 0)) : zBu g i' r L := by
  obtain ⟨h1, h2, h3, h4, h5, h6, h7, h8⟩ := h
  exact ⟨h1, by rw [e1]; exact h2, by rw [e1]; exact h3, h4, h5, h6, by rw [e2]; exact h7, by rw [e2]; exact h8⟩
theorem zC.nz {g : Sh} {a : Nat → Nat} (h : zC g a) {q : Nat} (hq : q < 30) : gT g (a q) ≠ 0 := by
  rcases h.kd hq with e | e | e | e <;> rw [e] <;> decide


