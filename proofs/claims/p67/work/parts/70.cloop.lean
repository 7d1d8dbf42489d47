/-! ===== THE CLASS: ASKING METHODS WITH LOOPS ===== -/
theorem inc_1 (v : Int32) : v + Int32.ofInt 1 = v + nI 1 := by rw [show Int32.ofInt 1 = nI 1 by decide]
set_option maxHeartbeats 4000000 in
set_option maxRecDepth 20000 in
theorem c_X3_tubesIn {E : Ev} {g : Sh} {i : Ni} {j : Nj} {K : Kp} {c : Nat} {a : Nat → Nat} {N : Nat → Int32} {t : Int32} (hX : zX3 g c a) (hH : zH i a N) (hK : K (oc3 (tv (N 4) t) True True 2 0 0 (.int (sIn N t (zn (N 5))))) g i j) : zCon E mX3_tubesIn [.ref c, .int t] g i j K := by
  refine zcon_of (by decide +kernel) rfl rfl (lo := [.ref c, .int t, zJ, zJ]) rfl (fun X => ?_)
  obtain ⟨x1, x2, hC⟩ := id hX
  have hO := hH.1
  obtain ⟨a1, a2, a3, a4, a5, a6, a7, a8, a9, a10, a11, a12, a13, a14, a15, a16, -⟩ := id hC
  obtain ⟨c5, c6, c7, c8, c9, c10, c11, c12⟩ := hH.cnt
  obtain ⟨hT, hT8⟩ := hO.T8
  obtain ⟨hS, hS5⟩ := hO.S5
  obtain ⟨hBt, hB4⟩ := hO.B4
  have c7' := c7.trans hT
  have KL : ∀ s : Nat, K (.inl (some (.int (sIn N (nI s) (zn (N 5)))))) g i j → ∀ q p : Nat, p + q = zn (N 5) → zR E mX3_tubesIn (zZ E mX3_tubesIn K) X 9 [.ref c, .int (nI s), .int (sIn N (nI s) p), .int (nI p)] [] g i j 1 6 := by
    intro s hK q
    induction q with
    | zero =>
      intro p hp 
      obtain rfl : p = zn (N 5) := by omega
      refine r_iload_n qX3_tubesIn_9 rfl ?_
      refine r_aload_n qX3_tubesIn_10 rfl ?_
      refine r_getr qX3_tubesIn_11 fX3_40 rfl (by assumption) (by first | assumption | rfl) ?_
      refine r_geti qX3_tubesIn_14 fX3_104 rfl (by assumption) ?_
      rw [c7']
      refine r_icmp_ge (t := 45) qX3_tubesIn_17 (by decide) (fun hc17 => ?_) (fun hc17 => absurd hc17 (fun h => h (nI_le (Nat.le_refl _) (by omega))))
      refine r_iload_n qX3_tubesIn_45 rfl ?_
      refine r_iret qX3_tubesIn_46 rfl rfl rfl rfl ?_
      exact hK
    | succ q ih =>
      intro p hp 
      have hk : p < zn (N 5) := by omega
      have h8 := hO.k8 hk
      obtain ⟨tb1, hT3⟩ := hC.tb h8
      have u1 := hT3.1
      have hU := hH.tu hk
      obtain ⟨f0, f3, f4, f6, f7, f8, f9, f10, f11, f12, f13, fP⟩ := id hU
      obtain ⟨hm, hm6⟩ := hO.many hk
      refine r_iload_n qX3_tubesIn_9 rfl ?_
      refine r_aload_n qX3_tubesIn_10 rfl ?_
      refine r_getr qX3_tubesIn_11 fX3_40 rfl (by assumption) (by first | assumption | rfl) ?_
      refine r_geti qX3_tubesIn_14 fX3_104 rfl (by assumption) ?_
      rw [c7']
      refine r_icmp_ge (t := 45) qX3_tubesIn_17 (by decide) (fun hc17 => absurd hc17 (nI_ge (by omega) (by omega))) (fun hc17 => ?_)
      refine r_aload_n qX3_tubesIn_20 rfl ?_
      refine r_getr qX3_tubesIn_21 fX3_40 rfl (by assumption) (by first | assumption | rfl) ?_
      refine r_getr qX3_tubesIn_24 fX3_120 rfl (by assumption) (by first | assumption | rfl) ?_
      refine r_iload_n qX3_tubesIn_27 rfl ?_
      refine r_aaldN qX3_tubesIn_28 (by first | exact Or.inl (by assumption) | exact Or.inr (by assumption)) (by assumption) (by omega) rfl (by first | assumption | rfl) ?_
      refine r_geti qX3_tubesIn_29 fX3_124 rfl (by assumption) ?_
      rw [f12]
      refine r_iload_n qX3_tubesIn_32 rfl ?_
      refine r_icmp_ne (t := 39) qX3_tubesIn_33 (by decide) (fun hc33 => ?_) (fun hc33 => ?_)
      · refine r_ii_4_3 qX3_tubesIn_39 rfl rfl (nI_inc p) ?_
        refine r_goto (t := 9) qX3_tubesIn_42 (by decide) ?_
        have z := ih (p + 1) (by omega); rw [sIn] at z; first | (rw [if_pos hc33] at z; exact z) | (rw [if_neg hc33, add_nI0] at z; exact z)
      · refine r_ii_4_2 qX3_tubesIn_36 rfl rfl (inc_1 _) ?_
        refine r_ii_4_3 qX3_tubesIn_39 rfl rfl (nI_inc p) ?_
        refine r_goto (t := 9) qX3_tubesIn_42 (by decide) ?_
        have z := ih (p + 1) (by omega); rw [sIn] at z; first | (rw [if_pos hc33] at z; exact z) | (rw [if_neg hc33, add_nI0] at z; exact z)
  refine r_aload_n qX3_tubesIn_0 rfl ?_
  refine r_iload_n qX3_tubesIn_1 rfl ?_
  refine r_cv1 (cu2 := 1) (su2 := 6) qX3_tubesIn_2 kX3_113 rfl (by decide +kernel) (c := 3) (by assumption) (by decide) rfl rfl rfl rfl rfl rfl ?_
  refine c_X3_checkBath hX hH (fun hv => t_out rfl rfl rfl (by rw [oc3_a hv] at hK; exact hK)) (fun s es hs => ?_)
  subst es
  have hv := tv_mk hs (by omega)
  rw [oc3_v hv trivial trivial] at hK
  show zR E _ _ X 5 _ _ _ _ _ _ _
  refine r_iconst (v := nI 0) qX3_tubesIn_5 (by decide) ?_
  refine r_is_4_2 qX3_tubesIn_6 rfl rfl ?_
  refine r_iconst (v := nI 0) qX3_tubesIn_7 (by decide) ?_
  refine r_is_4_3 qX3_tubesIn_8 rfl rfl ?_
  exact KL s hK (zn (N 5)) 0 (by omega)
set_option maxHeartbeats 4000000 in
set_option maxRecDepth 20000 in
theorem c_X3_spiritInTubes {E : Ev} {g : Sh} {i : Ni} {j : Nj} {K : Kp} {c : Nat} {a : Nat → Nat} {N : Nat → Int32} {t : Int32} (hX : zX3 g c a) (hH : zH i a N) (hK : K (oc3 (tv (N 3) t) True True 2 0 0 (.int (sHold N t (zn (N 5))))) g i j) : zCon E mX3_spiritInTubes [.ref c, .int t] g i j K := by
  refine zcon_of (by decide +kernel) rfl rfl (lo := [.ref c, .int t, zJ, zJ]) rfl (fun X => ?_)
  obtain ⟨x1, x2, hC⟩ := id hX
  have hO := hH.1
  obtain ⟨a1, a2, a3, a4, a5, a6, a7, a8, a9, a10, a11, a12, a13, a14, a15, a16, -⟩ := id hC
  obtain ⟨c5, c6, c7, c8, c9, c10, c11, c12⟩ := hH.cnt
  obtain ⟨hT, hT8⟩ := hO.T8
  obtain ⟨hS, hS5⟩ := hO.S5
  obtain ⟨hBt, hB4⟩ := hO.B4
  have c7' := c7.trans hT
  have KL : ∀ s : Nat, K (.inl (some (.int (sHold N (nI s) (zn (N 5)))))) g i j → ∀ q p : Nat, p + q = zn (N 5) → zR E mX3_spiritInTubes (zZ E mX3_spiritInTubes K) X 9 [.ref c, .int (nI s), .int (sHold N (nI s) p), .int (nI p)] [] g i j 1 6 := by
    intro s hK q
    induction q with
    | zero =>
      intro p hp 
      obtain rfl : p = zn (N 5) := by omega
      refine r_iload_n qX3_spiritInTubes_9 rfl ?_
      refine r_aload_n qX3_spiritInTubes_10 rfl ?_
      refine r_getr qX3_spiritInTubes_11 fX3_40 rfl (by assumption) (by first | assumption | rfl) ?_
      refine r_geti qX3_spiritInTubes_14 fX3_104 rfl (by assumption) ?_
      rw [c7']
      refine r_icmp_ge (t := 57) qX3_spiritInTubes_17 (by decide) (fun hc17 => ?_) (fun hc17 => absurd hc17 (fun h => h (nI_le (Nat.le_refl _) (by omega))))
      refine r_iload_n qX3_spiritInTubes_57 rfl ?_
      refine r_iret qX3_spiritInTubes_58 rfl rfl rfl rfl ?_
      exact hK
    | succ q ih =>
      intro p hp 
      have hk : p < zn (N 5) := by omega
      have h8 := hO.k8 hk
      obtain ⟨tb1, hT3⟩ := hC.tb h8
      have u1 := hT3.1
      have hU := hH.tu hk
      obtain ⟨f0, f3, f4, f6, f7, f8, f9, f10, f11, f12, f13, fP⟩ := id hU
      obtain ⟨hm, hm6⟩ := hO.many hk
      refine r_iload_n qX3_spiritInTubes_9 rfl ?_
      refine r_aload_n qX3_spiritInTubes_10 rfl ?_
      refine r_getr qX3_spiritInTubes_11 fX3_40 rfl (by assumption) (by first | assumption | rfl) ?_
      refine r_geti qX3_spiritInTubes_14 fX3_104 rfl (by assumption) ?_
      rw [c7']
      refine r_icmp_ge (t := 57) qX3_spiritInTubes_17 (by decide) (fun hc17 => absurd hc17 (nI_ge (by omega) (by omega))) (fun hc17 => ?_)
      refine r_aload_n qX3_spiritInTubes_20 rfl ?_
      refine r_getr qX3_spiritInTubes_21 fX3_40 rfl (by assumption) (by first | assumption | rfl) ?_
      refine r_getr qX3_spiritInTubes_24 fX3_120 rfl (by assumption) (by first | assumption | rfl) ?_
      refine r_iload_n qX3_spiritInTubes_27 rfl ?_
      refine r_aaldN qX3_spiritInTubes_28 (by first | exact Or.inl (by assumption) | exact Or.inr (by assumption)) (by assumption) (by omega) rfl (by first | assumption | rfl) ?_
      refine r_geti qX3_spiritInTubes_29 fX3_132 rfl (by assumption) ?_
      rw [f4]
      refine r_iload_n qX3_spiritInTubes_32 rfl ?_
      refine r_icmp_ne (t := 51) qX3_spiritInTubes_33 (by decide) (fun hc33 => ?_) (fun hc33 => ?_)
      · refine r_ii_4_3 qX3_spiritInTubes_51 rfl rfl (nI_inc p) ?_
        refine r_goto (t := 9) qX3_spiritInTubes_54 (by decide) ?_
        have z := ih (p + 1) (by omega); rw [sHold] at z; first | (rw [if_pos hc33] at z; exact z) | (rw [if_neg hc33, add_nI0] at z; exact z)
      · refine r_iload_n qX3_spiritInTubes_36 rfl ?_
        refine r_aload_n qX3_spiritInTubes_37 rfl ?_
        refine r_getr qX3_spiritInTubes_38 fX3_40 rfl (by assumption) (by first | assumption | rfl) ?_
        refine r_getr qX3_spiritInTubes_41 fX3_120 rfl (by assumption) (by first | assumption | rfl) ?_
        refine r_iload_n qX3_spiritInTubes_44 rfl ?_
        refine r_aaldN qX3_spiritInTubes_45 (by first | exact Or.inl (by assumption) | exact Or.inr (by assumption)) (by assumption) (by omega) rfl (by first | assumption | rfl) ?_
        refine r_geti qX3_spiritInTubes_46 fX3_135 rfl (by assumption) ?_
        rw [f10]
        first | with_reducible refine r_iaddN qX3_spiritInTubes_49 ?_ | refine r_iadd qX3_spiritInTubes_49 ?_
        refine r_is_4_2 qX3_spiritInTubes_50 rfl rfl ?_
        refine r_ii_4_3 qX3_spiritInTubes_51 rfl rfl (nI_inc p) ?_
        refine r_goto (t := 9) qX3_spiritInTubes_54 (by decide) ?_
        have z := ih (p + 1) (by omega); rw [sHold] at z; first | (rw [if_pos hc33] at z; exact z) | (rw [if_neg hc33, add_nI0] at z; exact z)
  refine r_aload_n qX3_spiritInTubes_0 rfl ?_
  refine r_iload_n qX3_spiritInTubes_1 rfl ?_
  refine r_cv1 (cu2 := 1) (su2 := 6) qX3_spiritInTubes_2 kX3_129 rfl (by decide +kernel) (c := 3) (by assumption) (by decide) rfl rfl rfl rfl rfl rfl ?_
  refine c_X3_checkSpirit hX hH (fun hv => t_out rfl rfl rfl (by rw [oc3_a hv] at hK; exact hK)) (fun s es hs => ?_)
  subst es
  have hv := tv_mk hs (by omega)
  rw [oc3_v hv trivial trivial] at hK
  show zR E _ _ X 5 _ _ _ _ _ _ _
  refine r_iconst (v := nI 0) qX3_spiritInTubes_5 (by decide) ?_
  refine r_is_4_2 qX3_spiritInTubes_6 rfl rfl ?_
  refine r_iconst (v := nI 0) qX3_spiritInTubes_7 (by decide) ?_
  refine r_is_4_3 qX3_spiritInTubes_8 rfl rfl ?_
  exact KL s hK (zn (N 5)) 0 (by omega)
set_option maxHeartbeats 4000000 in
set_option maxRecDepth 20000 in
theorem c_X3_spiritLost {E : Ev} {g : Sh} {i : Ni} {j : Nj} {K : Kp} {c : Nat} {a : Nat → Nat} {N : Nat → Int32} {t : Int32} (hX : zX3 g c a) (hH : zH i a N) (hK : K (oc3 (tv (N 3) t) True True 2 0 0 (.int (N (10 + 4 * zn t + 3)))) g i j) : zCon E mX3_spiritLost [.ref c, .int t] g i j K := by
  refine zcon_of (by decide +kernel) rfl rfl (lo := [.ref c, .int t, zJ, zJ]) rfl (fun X => ?_)
  obtain ⟨x1, x2, hC⟩ := id hX
  have hO := hH.1
  obtain ⟨a1, a2, a3, a4, a5, a6, a7, a8, a9, a10, a11, a12, a13, a14, a15, a16, -⟩ := id hC
  obtain ⟨c5, c6, c7, c8, c9, c10, c11, c12⟩ := hH.cnt
  obtain ⟨hT, hT8⟩ := hO.T8
  obtain ⟨hS, hS5⟩ := hO.S5
  obtain ⟨hBt, hB4⟩ := hO.B4
  have c7' := c7.trans hT
  have KL : ∀ s : Nat, K (.inl (some (.int (sAdd (fun k => if N (42 + 21 * k + 0) = nI s then i (a (6 + 3 * k)) 15 else nI 0) (zn (N 5)))))) g i j → ∀ q p : Nat, p + q = zn (N 5) → zR E mX3_spiritLost (zZ E mX3_spiritLost K) X 9 [.ref c, .int (nI s), .int (sAdd (fun k => if N (42 + 21 * k + 0) = nI s then i (a (6 + 3 * k)) 15 else nI 0) p), .int (nI p)] [] g i j 1 6 := by
    intro s hK q
    induction q with
    | zero =>
      intro p hp 
      obtain rfl : p = zn (N 5) := by omega
      refine r_iload_n qX3_spiritLost_9 rfl ?_
      refine r_aload_n qX3_spiritLost_10 rfl ?_
      refine r_getr qX3_spiritLost_11 fX3_40 rfl (by assumption) (by first | assumption | rfl) ?_
      refine r_geti qX3_spiritLost_14 fX3_104 rfl (by assumption) ?_
      rw [c7']
      refine r_icmp_ge (t := 57) qX3_spiritLost_17 (by decide) (fun hc17 => ?_) (fun hc17 => absurd hc17 (fun h => h (nI_le (Nat.le_refl _) (by omega))))
      refine r_iload_n qX3_spiritLost_57 rfl ?_
      refine r_iret qX3_spiritLost_58 rfl rfl rfl rfl ?_
      exact hK
    | succ q ih =>
      intro p hp 
      have hk : p < zn (N 5) := by omega
      have h8 := hO.k8 hk
      obtain ⟨tb1, hT3⟩ := hC.tb h8
      have u1 := hT3.1
      have hU := hH.tu hk
      obtain ⟨f0, f3, f4, f6, f7, f8, f9, f10, f11, f12, f13, fP⟩ := id hU
      obtain ⟨hm, hm6⟩ := hO.many hk
      refine r_iload_n qX3_spiritLost_9 rfl ?_
      refine r_aload_n qX3_spiritLost_10 rfl ?_
      refine r_getr qX3_spiritLost_11 fX3_40 rfl (by assumption) (by first | assumption | rfl) ?_
      refine r_geti qX3_spiritLost_14 fX3_104 rfl (by assumption) ?_
      rw [c7']
      refine r_icmp_ge (t := 57) qX3_spiritLost_17 (by decide) (fun hc17 => absurd hc17 (nI_ge (by omega) (by omega))) (fun hc17 => ?_)
      refine r_aload_n qX3_spiritLost_20 rfl ?_
      refine r_getr qX3_spiritLost_21 fX3_40 rfl (by assumption) (by first | assumption | rfl) ?_
      refine r_getr qX3_spiritLost_24 fX3_120 rfl (by assumption) (by first | assumption | rfl) ?_
      refine r_iload_n qX3_spiritLost_27 rfl ?_
      refine r_aaldN qX3_spiritLost_28 (by first | exact Or.inl (by assumption) | exact Or.inr (by assumption)) (by assumption) (by omega) rfl (by first | assumption | rfl) ?_
      refine r_geti qX3_spiritLost_29 fX3_132 rfl (by assumption) ?_
      rw [f4]
      refine r_iload_n qX3_spiritLost_32 rfl ?_
      refine r_icmp_ne (t := 51) qX3_spiritLost_33 (by decide) (fun hc33 => ?_) (fun hc33 => ?_)
      · refine r_ii_4_3 qX3_spiritLost_51 rfl rfl (nI_inc p) ?_
        refine r_goto (t := 9) qX3_spiritLost_54 (by decide) ?_
        have z := ih (p + 1) (by omega); rw [sAdd] at z; first | (rw [if_pos hc33] at z; exact z) | (rw [if_neg hc33, add_nI0] at z; exact z)
      · refine r_iload_n qX3_spiritLost_36 rfl ?_
        refine r_aload_n qX3_spiritLost_37 rfl ?_
        refine r_getr qX3_spiritLost_38 fX3_40 rfl (by assumption) (by first | assumption | rfl) ?_
        refine r_getr qX3_spiritLost_41 fX3_120 rfl (by assumption) (by first | assumption | rfl) ?_
        refine r_iload_n qX3_spiritLost_44 rfl ?_
        refine r_aaldN qX3_spiritLost_45 (by first | exact Or.inl (by assumption) | exact Or.inr (by assumption)) (by assumption) (by omega) rfl (by first | assumption | rfl) ?_
        refine r_geti qX3_spiritLost_46 fX3_138 rfl (by assumption) ?_
        first | with_reducible refine r_iaddN qX3_spiritLost_49 ?_ | refine r_iadd qX3_spiritLost_49 ?_
        refine r_is_4_2 qX3_spiritLost_50 rfl rfl ?_
        refine r_ii_4_3 qX3_spiritLost_51 rfl rfl (nI_inc p) ?_
        refine r_goto (t := 9) qX3_spiritLost_54 (by decide) ?_
        have z := ih (p + 1) (by omega); rw [sAdd] at z; first | (rw [if_pos hc33] at z; exact z) | (rw [if_neg hc33, add_nI0] at z; exact z)
  refine r_aload_n qX3_spiritLost_0 rfl ?_
  refine r_iload_n qX3_spiritLost_1 rfl ?_
  refine r_cv1 (cu2 := 1) (su2 := 6) qX3_spiritLost_2 kX3_129 rfl (by decide +kernel) (c := 3) (by assumption) (by decide) rfl rfl rfl rfl rfl rfl ?_
  refine c_X3_checkSpirit hX hH (fun hv => t_out rfl rfl rfl (by rw [oc3_a hv] at hK; exact hK)) (fun s es hs => ?_)
  subst es
  have hv := tv_mk hs (by omega)
  rw [oc3_v hv trivial trivial] at hK
  rw [zn_nI (by omega), ← hH.los hs] at hK
  show zR E _ _ X 5 _ _ _ _ _ _ _
  refine r_iconst (v := nI 0) qX3_spiritLost_5 (by decide) ?_
  refine r_is_4_2 qX3_spiritLost_6 rfl rfl ?_
  refine r_iconst (v := nI 0) qX3_spiritLost_7 (by decide) ?_
  refine r_is_4_3 qX3_spiritLost_8 rfl rfl ?_
  exact KL s hK (zn (N 5)) 0 (by omega)
set_option maxHeartbeats 4000000 in
set_option maxRecDepth 20000 in
theorem c_X3_bestTube {E : Ev} {g : Sh} {i : Ni} {j : Nj} {K : Kp} {c : Nat} {a : Nat → Nat} {N : Nat → Int32} (hX : zX3 g c a) (hH : zH i a N) (hK : K (.inl (some (.int (sBest N (zn (N 5)))))) g i j) : zCon E mX3_bestTube [.ref c] g i j K := by
  refine zcon_of (by decide +kernel) rfl rfl (lo := [.ref c, zJ, zJ, zJ, zJ, zJ]) rfl (fun X => ?_)
  obtain ⟨x1, x2, hC⟩ := id hX
  have hO := hH.1
  obtain ⟨a1, a2, a3, a4, a5, a6, a7, a8, a9, a10, a11, a12, a13, a14, a15, a16, -⟩ := id hC
  obtain ⟨c5, c6, c7, c8, c9, c10, c11, c12⟩ := hH.cnt
  obtain ⟨hT, hT8⟩ := hO.T8
  obtain ⟨hS, hS5⟩ := hO.S5
  obtain ⟨hBt, hB4⟩ := hO.B4
  have c7' := c7.trans hT
  have KL : ∀ q p : Nat, p + q = zn (N 5) → ∀ (y : Int32), (∀ q, q < 100 → sBest N p = nI q → y = sOff N q) → ∀ z w : Value, zR E mX3_bestTube (zZ E mX3_bestTube K) X 6 [.ref c, .int (sBest N p), .int y, .int (nI p), z, w] [] g i j 0 0 := by
    intro q
    induction q with
    | zero =>
      intro p hp y hy z w
      obtain rfl : p = zn (N 5) := by omega
      refine r_iload_n qX3_bestTube_6 rfl ?_
      refine r_aload_n qX3_bestTube_7 rfl ?_
      refine r_getr qX3_bestTube_8 fX3_40 rfl (by assumption) (by first | assumption | rfl) ?_
      refine r_geti qX3_bestTube_11 fX3_104 rfl (by assumption) ?_
      rw [c7']
      refine r_icmp_ge (t := 74) qX3_bestTube_14 (by decide) (fun hc14 => ?_) (fun hc14 => absurd hc14 (fun h => h (nI_le (Nat.le_refl _) (by omega))))
      refine r_iload_n qX3_bestTube_74 rfl ?_
      refine r_iret qX3_bestTube_75 rfl rfl rfl rfl ?_
      exact hK
    | succ q ih =>
      intro p hp y hy z w
      have hk : p < zn (N 5) := by omega
      have h8 := hO.k8 hk
      obtain ⟨tb1, hT3⟩ := hC.tb h8
      have u1 := hT3.1
      have hU := hH.tu hk
      obtain ⟨f0, f3, f4, f6, f7, f8, f9, f10, f11, f12, f13, fP⟩ := id hU
      obtain ⟨hm, hm6⟩ := hO.many hk
      have Kskip : sBest N (p + 1) = sBest N p → ∀ z w : Value, zR E mX3_bestTube (zZ E mX3_bestTube K) X 68 [.ref c, .int (sBest N p), .int y, .int (nI p), z, w] [] g i j 0 0 := by
        intro e z w
        refine r_ii_6_3 qX3_bestTube_68 rfl rfl (nI_inc p) ?_
        refine r_goto (t := 6) qX3_bestTube_71 (by decide) ?_
        have z2 := ih (p + 1) (by omega) y (fun q hq e2 => hy q hq (e.symm.trans e2)) z w
        rw [e] at z2
        exact z2
      have Ktake : sBest N (p + 1) = nI p → ∀ z w : Value, zR E mX3_bestTube (zZ E mX3_bestTube K) X 68 [.ref c, .int (nI p), .int (sOff N p), .int (nI p), z, w] [] g i j 0 0 := by
        intro e z w
        refine r_ii_6_3 qX3_bestTube_68 rfl rfl (nI_inc p) ?_
        refine r_goto (t := 6) qX3_bestTube_71 (by decide) ?_
        have z2 := ih (p + 1) (by omega) (sOff N p) (fun q hq e2 => by rw [(nI_eq (by omega) (by omega)).mp (e.symm.trans e2)]) z w
        rw [e] at z2
        exact z2
      refine r_iload_n qX3_bestTube_6 rfl ?_
      refine r_aload_n qX3_bestTube_7 rfl ?_
      refine r_getr qX3_bestTube_8 fX3_40 rfl (by assumption) (by first | assumption | rfl) ?_
      refine r_geti qX3_bestTube_11 fX3_104 rfl (by assumption) ?_
      rw [c7']
      refine r_icmp_ge (t := 74) qX3_bestTube_14 (by decide) (fun hc14 => absurd hc14 (nI_ge (by omega) (by omega))) (fun hc14 => ?_)
      refine r_aload_n qX3_bestTube_17 rfl ?_
      refine r_getr qX3_bestTube_18 fX3_40 rfl (by assumption) (by first | assumption | rfl) ?_
      refine r_getr qX3_bestTube_21 fX3_120 rfl (by assumption) (by first | assumption | rfl) ?_
      refine r_iload_n qX3_bestTube_24 rfl ?_
      refine r_aaldN qX3_bestTube_25 (by first | exact Or.inl (by assumption) | exact Or.inr (by assumption)) (by assumption) (by omega) rfl (by first | assumption | rfl) ?_
      refine r_as_6_4 qX3_bestTube_26 rfl rfl ?_
      refine r_aload qX3_bestTube_28 rfl ?_
      refine r_cv0 (cu2 := 0) (su2 := 0) qX3_bestTube_30 kX3_192 rfl (by decide +kernel) (c := 2) (by assumption) (by decide) rfl rfl rfl rfl rfl rfl ?_
      refine c_X2_scaled hT3 hU hO hk ?_
      show zR E _ _ X 33 _ _ _ _ _ _ _
      refine r_if_eq (t := 68) qX3_bestTube_33 (by decide) (fun hc33 => ?_) (fun hc33 => ?_)
      · first | exact Kskip (sArg_n1 (fun h => zb_0.mp hc33 (of_decide_eq_true h))) _ _ | exact Ktake (sArg_y (decide_eq_true (zb_ne.mp hc33)) hc54) _ _ | exact Ktake (sArg_y2 (decide_eq_true (zb_ne.mp hc33)) e0 hq9 (decide_eq_true (Int32.not_le.mp hc60))) _ _ | exact Kskip (sArg_n2 e0 hq9 (fun h => Int32.not_lt.mpr hc60 (of_decide_eq_true h))) _ _
      · refine r_aload qX3_bestTube_36 rfl ?_
        refine r_cv0 (cu2 := 0) (su2 := 0) qX3_bestTube_38 kX3_200 rfl (by decide +kernel) (c := 2) (by assumption) (by decide) rfl rfl rfl rfl rfl rfl ?_
        refine c_X2_tenthsRead hT3 hU hO hk (zb_ne.mp hc33) ?_
        show zR E _ _ X 41 _ _ _ _ _ _ _
        refine r_aload qX3_bestTube_41 rfl ?_
        refine r_geti qX3_bestTube_43 fX3_145 rfl (by assumption) ?_
        rw [f11]
        refine r_isub qX3_bestTube_46 ?_
        refine r_mabs qX3_bestTube_47 kX3_216 rfl rfl rfl rfl ?_
        change zR E _ _ X 50 _ (.int (sOff N p) :: _) _ _ _ _ _
        refine r_is_6_5 qX3_bestTube_50 rfl rfl ?_
        refine r_iload_n qX3_bestTube_52 rfl ?_
        refine r_iconst (v := (-1)) qX3_bestTube_53 (by decide) ?_
        refine r_icmp_eq (t := 63) qX3_bestTube_54 (by decide) (fun hc54 => ?_) (fun hc54 => ?_)
        · refine r_iload_n qX3_bestTube_63 rfl ?_
          refine r_is_6_1 qX3_bestTube_64 rfl rfl ?_
          refine r_iload qX3_bestTube_65 rfl ?_
          refine r_is_6_2 qX3_bestTube_67 rfl rfl ?_
          first | exact Kskip (sArg_n1 (fun h => zb_0.mp hc33 (of_decide_eq_true h))) _ _ | exact Ktake (sArg_y (decide_eq_true (zb_ne.mp hc33)) hc54) _ _ | exact Ktake (sArg_y2 (decide_eq_true (zb_ne.mp hc33)) e0 hq9 (decide_eq_true (Int32.not_le.mp hc60))) _ _ | exact Kskip (sArg_n2 e0 hq9 (fun h => Int32.not_lt.mpr hc60 (of_decide_eq_true h))) _ _
        · obtain ⟨q0, hq0, hok0, e0⟩ := (sArg_c (by omega)).resolve_left (show ¬ sArg _ _ p = -1 from hc54)
          change sBest N p = nI q0 at e0
          have hq9 : q0 < 100 := by omega
          obtain rfl := hy q0 hq9 e0
          refine r_iload qX3_bestTube_57 rfl ?_
          refine r_iload_n qX3_bestTube_59 rfl ?_
          refine r_icmp_ge (t := 68) qX3_bestTube_60 (by decide) (fun hc60 => ?_) (fun hc60 => ?_)
          · first | exact Kskip (sArg_n1 (fun h => zb_0.mp hc33 (of_decide_eq_true h))) _ _ | exact Ktake (sArg_y (decide_eq_true (zb_ne.mp hc33)) hc54) _ _ | exact Ktake (sArg_y2 (decide_eq_true (zb_ne.mp hc33)) e0 hq9 (decide_eq_true (Int32.not_le.mp hc60))) _ _ | exact Kskip (sArg_n2 e0 hq9 (fun h => Int32.not_lt.mpr hc60 (of_decide_eq_true h))) _ _
          · refine r_iload_n qX3_bestTube_63 rfl ?_
            refine r_is_6_1 qX3_bestTube_64 rfl rfl ?_
            refine r_iload qX3_bestTube_65 rfl ?_
            refine r_is_6_2 qX3_bestTube_67 rfl rfl ?_
            first | exact Kskip (sArg_n1 (fun h => zb_0.mp hc33 (of_decide_eq_true h))) _ _ | exact Ktake (sArg_y (decide_eq_true (zb_ne.mp hc33)) hc54) _ _ | exact Ktake (sArg_y2 (decide_eq_true (zb_ne.mp hc33)) e0 hq9 (decide_eq_true (Int32.not_le.mp hc60))) _ _ | exact Kskip (sArg_n2 e0 hq9 (fun h => Int32.not_lt.mpr hc60 (of_decide_eq_true h))) _ _
  refine r_iconst (v := (-1)) qX3_bestTube_0 (by decide) ?_
  refine r_is_6_1 qX3_bestTube_1 rfl rfl ?_
  refine r_iconst (v := nI 0) qX3_bestTube_2 (by decide) ?_
  refine r_is_6_2 qX3_bestTube_3 rfl rfl ?_
  refine r_iconst (v := nI 0) qX3_bestTube_4 (by decide) ?_
  refine r_is_6_3 qX3_bestTube_5 rfl rfl ?_
  exact KL (zn (N 5)) 0 (by omega) _ (fun q hq e => absurd e.symm (nI_m1 hq)) _ _
set_option maxHeartbeats 4000000 in
set_option maxRecDepth 20000 in
theorem c_X3_tallestTube {E : Ev} {g : Sh} {i : Ni} {j : Nj} {K : Kp} {c : Nat} {a : Nat → Nat} {N : Nat → Int32} (hX : zX3 g c a) (hH : zH i a N) (hK : K (.inl (some (.int (sTall N (zn (N 5)))))) g i j) : zCon E mX3_tallestTube [.ref c] g i j K := by
  refine zcon_of (by decide +kernel) rfl rfl (lo := [.ref c, zJ, zJ, zJ, zJ]) rfl (fun X => ?_)
  obtain ⟨x1, x2, hC⟩ := id hX
  have hO := hH.1
  obtain ⟨a1, a2, a3, a4, a5, a6, a7, a8, a9, a10, a11, a12, a13, a14, a15, a16, -⟩ := id hC
  obtain ⟨c5, c6, c7, c8, c9, c10, c11, c12⟩ := hH.cnt
  obtain ⟨hT, hT8⟩ := hO.T8
  obtain ⟨hS, hS5⟩ := hO.S5
  obtain ⟨hBt, hB4⟩ := hO.B4
  have c7' := c7.trans hT
  have KL : ∀ q p : Nat, p + q = zn (N 5) → ∀ (y : Int32), (∀ q, q < 100 → sTall N p = nI q → y = sHigh N q) → ∀ z : Value, zR E mX3_tallestTube (zZ E mX3_tallestTube K) X 6 [.ref c, .int (sTall N p), .int y, .int (nI p), z] [] g i j 0 0 := by
    intro q
    induction q with
    | zero =>
      intro p hp y hy z
      obtain rfl : p = zn (N 5) := by omega
      refine r_iload_n qX3_tallestTube_6 rfl ?_
      refine r_aload_n qX3_tallestTube_7 rfl ?_
      refine r_getr qX3_tallestTube_8 fX3_40 rfl (by assumption) (by first | assumption | rfl) ?_
      refine r_geti qX3_tallestTube_11 fX3_104 rfl (by assumption) ?_
      rw [c7']
      refine r_icmp_ge (t := 53) qX3_tallestTube_14 (by decide) (fun hc14 => ?_) (fun hc14 => absurd hc14 (fun h => h (nI_le (Nat.le_refl _) (by omega))))
      refine r_iload_n qX3_tallestTube_53 rfl ?_
      refine r_iret qX3_tallestTube_54 rfl rfl rfl rfl ?_
      exact hK
    | succ q ih =>
      intro p hp y hy z
      have hk : p < zn (N 5) := by omega
      have h8 := hO.k8 hk
      obtain ⟨tb1, hT3⟩ := hC.tb h8
      have u1 := hT3.1
      have hU := hH.tu hk
      obtain ⟨f0, f3, f4, f6, f7, f8, f9, f10, f11, f12, f13, fP⟩ := id hU
      obtain ⟨hm, hm6⟩ := hO.many hk
      have Kskip : sTall N (p + 1) = sTall N p → ∀ z : Value, zR E mX3_tallestTube (zZ E mX3_tallestTube K) X 47 [.ref c, .int (sTall N p), .int y, .int (nI p), z] [] g i j 0 0 := by
        intro e z
        refine r_ii_5_3 qX3_tallestTube_47 rfl rfl (nI_inc p) ?_
        refine r_goto (t := 6) qX3_tallestTube_50 (by decide) ?_
        have z2 := ih (p + 1) (by omega) y (fun q hq e2 => hy q hq (e.symm.trans e2)) z
        rw [e] at z2
        exact z2
      have Ktake : sTall N (p + 1) = nI p → ∀ z : Value, zR E mX3_tallestTube (zZ E mX3_tallestTube K) X 47 [.ref c, .int (nI p), .int (sHigh N p), .int (nI p), z] [] g i j 0 0 := by
        intro e z
        refine r_ii_5_3 qX3_tallestTube_47 rfl rfl (nI_inc p) ?_
        refine r_goto (t := 6) qX3_tallestTube_50 (by decide) ?_
        have z2 := ih (p + 1) (by omega) (sHigh N p) (fun q hq e2 => by rw [(nI_eq (by omega) (by omega)).mp (e.symm.trans e2)]) z
        rw [e] at z2
        exact z2
      refine r_iload_n qX3_tallestTube_6 rfl ?_
      refine r_aload_n qX3_tallestTube_7 rfl ?_
      refine r_getr qX3_tallestTube_8 fX3_40 rfl (by assumption) (by first | assumption | rfl) ?_
      refine r_geti qX3_tallestTube_11 fX3_104 rfl (by assumption) ?_
      rw [c7']
      refine r_icmp_ge (t := 53) qX3_tallestTube_14 (by decide) (fun hc14 => absurd hc14 (nI_ge (by omega) (by omega))) (fun hc14 => ?_)
      refine r_aload_n qX3_tallestTube_17 rfl ?_
      refine r_getr qX3_tallestTube_18 fX3_40 rfl (by assumption) (by first | assumption | rfl) ?_
      refine r_getr qX3_tallestTube_21 fX3_120 rfl (by assumption) (by first | assumption | rfl) ?_
      refine r_iload_n qX3_tallestTube_24 rfl ?_
      refine r_aaldN qX3_tallestTube_25 (by first | exact Or.inl (by assumption) | exact Or.inr (by assumption)) (by assumption) (by omega) rfl (by first | assumption | rfl) ?_
      refine r_cv0 (cu2 := 0) (su2 := 0) qX3_tallestTube_26 kX3_160 rfl (by decide +kernel) (c := 2) (by assumption) (by decide) rfl rfl rfl rfl rfl rfl ?_
      refine c_X2_level hT3 hU hO hk ?_
      show zR E _ _ X 29 _ _ _ _ _ _ _
      refine r_is_5_4 qX3_tallestTube_29 rfl rfl ?_
      refine r_iload_n qX3_tallestTube_31 rfl ?_
      refine r_iconst (v := (-1)) qX3_tallestTube_32 (by decide) ?_
      refine r_icmp_eq (t := 42) qX3_tallestTube_33 (by decide) (fun hc33 => ?_) (fun hc33 => ?_)
      · refine r_iload_n qX3_tallestTube_42 rfl ?_
        refine r_is_5_1 qX3_tallestTube_43 rfl rfl ?_
        refine r_iload qX3_tallestTube_44 rfl ?_
        refine r_is_5_2 qX3_tallestTube_46 rfl rfl ?_
        first | exact Ktake (sArg_y rfl hc33) _ | exact Ktake (sArg_y2 rfl e0 hq9 (decide_eq_true (Int32.not_le.mp hc39))) _ | exact Kskip (sArg_n2 e0 hq9 (fun h => Int32.not_lt.mpr hc39 (of_decide_eq_true h))) _
      · obtain ⟨q0, hq0, hok0, e0⟩ := (sArg_c (by omega)).resolve_left (show ¬ sArg _ _ p = -1 from hc33)
        change sTall N p = nI q0 at e0
        have hq9 : q0 < 100 := by omega
        obtain rfl := hy q0 hq9 e0
        refine r_iload qX3_tallestTube_36 rfl ?_
        refine r_iload_n qX3_tallestTube_38 rfl ?_
        refine r_icmp_le (t := 47) qX3_tallestTube_39 (by decide) (fun hc39 => ?_) (fun hc39 => ?_)
        · first | exact Ktake (sArg_y rfl hc33) _ | exact Ktake (sArg_y2 rfl e0 hq9 (decide_eq_true (Int32.not_le.mp hc39))) _ | exact Kskip (sArg_n2 e0 hq9 (fun h => Int32.not_lt.mpr hc39 (of_decide_eq_true h))) _
        · refine r_iload_n qX3_tallestTube_42 rfl ?_
          refine r_is_5_1 qX3_tallestTube_43 rfl rfl ?_
          refine r_iload qX3_tallestTube_44 rfl ?_
          refine r_is_5_2 qX3_tallestTube_46 rfl rfl ?_
          first | exact Ktake (sArg_y rfl hc33) _ | exact Ktake (sArg_y2 rfl e0 hq9 (decide_eq_true (Int32.not_le.mp hc39))) _ | exact Kskip (sArg_n2 e0 hq9 (fun h => Int32.not_lt.mpr hc39 (of_decide_eq_true h))) _
  refine r_iconst (v := (-1)) qX3_tallestTube_0 (by decide) ?_
  refine r_is_5_1 qX3_tallestTube_1 rfl rfl ?_
  refine r_iconst (v := nI 0) qX3_tallestTube_2 (by decide) ?_
  refine r_is_5_2 qX3_tallestTube_3 rfl rfl ?_
  refine r_iconst (v := nI 0) qX3_tallestTube_4 (by decide) ?_
  refine r_is_5_3 qX3_tallestTube_5 rfl rfl ?_
  exact KL (zn (N 5)) 0 (by omega) _ (fun q hq e => absurd e.symm (nI_m1 hq)) _
def sFitM (N : Nat → Int32) (k : Nat) : Int32 := sFit N k (sMany N k)
set_option maxHeartbeats 4000000 in
set_option maxRecDepth 20000 in
theorem c_X3_worstFit {E : Ev} {g : Sh} {i : Ni} {j : Nj} {K : Kp} {c : Nat} {a : Nat → Nat} {N : Nat → Int32} (hX : zX3 g c a) (hH : zH i a N) (hK : K (.inl (some (.int (sWorst N (zn (N 5)))))) g i j) : zCon E mX3_worstFit [.ref c] g i j K := by
  refine zcon_of (by decide +kernel) rfl rfl (lo := [.ref c, zJ, zJ, zJ, zJ, zJ]) rfl (fun X => ?_)
  obtain ⟨x1, x2, hC⟩ := id hX
  have hO := hH.1
  obtain ⟨a1, a2, a3, a4, a5, a6, a7, a8, a9, a10, a11, a12, a13, a14, a15, a16, -⟩ := id hC
  obtain ⟨c5, c6, c7, c8, c9, c10, c11, c12⟩ := hH.cnt
  obtain ⟨hT, hT8⟩ := hO.T8
  obtain ⟨hS, hS5⟩ := hO.S5
  obtain ⟨hBt, hB4⟩ := hO.B4
  have c7' := c7.trans hT
  have KL : ∀ q p : Nat, p + q = zn (N 5) → ∀ (y : Int32), (∀ q, q < 100 → sWorst N p = nI q → y = sFitM N q) → ∀ z w : Value, zR E mX3_worstFit (zZ E mX3_worstFit K) X 6 [.ref c, .int (sWorst N p), .int y, .int (nI p), z, w] [] g i j 0 0 := by
    intro q
    induction q with
    | zero =>
      intro p hp y hy z w
      obtain rfl : p = zn (N 5) := by omega
      refine r_iload_n qX3_worstFit_6 rfl ?_
      refine r_aload_n qX3_worstFit_7 rfl ?_
      refine r_getr qX3_worstFit_8 fX3_40 rfl (by assumption) (by first | assumption | rfl) ?_
      refine r_geti qX3_worstFit_11 fX3_104 rfl (by assumption) ?_
      rw [c7']
      refine r_icmp_ge (t := 65) qX3_worstFit_14 (by decide) (fun hc14 => ?_) (fun hc14 => absurd hc14 (fun h => h (nI_le (Nat.le_refl _) (by omega))))
      refine r_iload_n qX3_worstFit_65 rfl ?_
      refine r_iret qX3_worstFit_66 rfl rfl rfl rfl ?_
      exact hK
    | succ q ih =>
      intro p hp y hy z w
      have hk : p < zn (N 5) := by omega
      have h8 := hO.k8 hk
      obtain ⟨tb1, hT3⟩ := hC.tb h8
      have u1 := hT3.1
      have hU := hH.tu hk
      obtain ⟨f0, f3, f4, f6, f7, f8, f9, f10, f11, f12, f13, fP⟩ := id hU
      obtain ⟨hm, hm6⟩ := hO.many hk
      have Kskip : sWorst N (p + 1) = sWorst N p → ∀ z w : Value, zR E mX3_worstFit (zZ E mX3_worstFit K) X 59 [.ref c, .int (sWorst N p), .int y, .int (nI p), z, w] [] g i j 0 0 := by
        intro e z w
        refine r_ii_6_3 qX3_worstFit_59 rfl rfl (nI_inc p) ?_
        refine r_goto (t := 6) qX3_worstFit_62 (by decide) ?_
        have z2 := ih (p + 1) (by omega) y (fun q hq e2 => hy q hq (e.symm.trans e2)) z w
        rw [e] at z2
        exact z2
      have Ktake : sWorst N (p + 1) = nI p → ∀ z w : Value, zR E mX3_worstFit (zZ E mX3_worstFit K) X 59 [.ref c, .int (nI p), .int (sFitM N p), .int (nI p), z, w] [] g i j 0 0 := by
        intro e z w
        refine r_ii_6_3 qX3_worstFit_59 rfl rfl (nI_inc p) ?_
        refine r_goto (t := 6) qX3_worstFit_62 (by decide) ?_
        have z2 := ih (p + 1) (by omega) (sFitM N p) (fun q hq e2 => by rw [(nI_eq (by omega) (by omega)).mp (e.symm.trans e2)]) z w
        rw [e] at z2
        exact z2
      refine r_iload_n qX3_worstFit_6 rfl ?_
      refine r_aload_n qX3_worstFit_7 rfl ?_
      refine r_getr qX3_worstFit_8 fX3_40 rfl (by assumption) (by first | assumption | rfl) ?_
      refine r_geti qX3_worstFit_11 fX3_104 rfl (by assumption) ?_
      rw [c7']
      refine r_icmp_ge (t := 65) qX3_worstFit_14 (by decide) (fun hc14 => absurd hc14 (nI_ge (by omega) (by omega))) (fun hc14 => ?_)
      refine r_aload_n qX3_worstFit_17 rfl ?_
      refine r_getr qX3_worstFit_18 fX3_40 rfl (by assumption) (by first | assumption | rfl) ?_
      refine r_getr qX3_worstFit_21 fX3_120 rfl (by assumption) (by first | assumption | rfl) ?_
      refine r_iload_n qX3_worstFit_24 rfl ?_
      refine r_aaldN qX3_worstFit_25 (by first | exact Or.inl (by assumption) | exact Or.inr (by assumption)) (by assumption) (by omega) rfl (by first | assumption | rfl) ?_
      refine r_as_6_4 qX3_worstFit_26 rfl rfl ?_
      refine r_aload qX3_worstFit_28 rfl ?_
      refine r_cv0 (cu2 := 0) (su2 := 0) qX3_worstFit_30 kX3_192 rfl (by decide +kernel) (c := 2) (by assumption) (by decide) rfl rfl rfl rfl rfl rfl ?_
      refine c_X2_scaled hT3 hU hO hk ?_
      show zR E _ _ X 33 _ _ _ _ _ _ _
      refine r_if_eq (t := 59) qX3_worstFit_33 (by decide) (fun hc33 => ?_) (fun hc33 => ?_)
      · first | exact Kskip (sArg_n1 (fun h => zb_0.mp hc33 (of_decide_eq_true h))) _ _ | exact Ktake (sArg_y (decide_eq_true (zb_ne.mp hc33)) hc45) _ _ | exact Ktake (sArg_y2 (decide_eq_true (zb_ne.mp hc33)) e0 hq9 (decide_eq_true (Int32.not_le.mp hc51))) _ _ | exact Kskip (sArg_n2 e0 hq9 (fun h => Int32.not_lt.mpr hc51 (of_decide_eq_true h))) _ _
      · refine r_aload qX3_worstFit_36 rfl ?_
        refine r_cv0 (cu2 := 0) (su2 := 0) qX3_worstFit_38 kX3_206 rfl (by decide +kernel) (c := 2) (by assumption) (by decide) rfl rfl rfl rfl rfl rfl ?_
        refine c_X2_greatestMisfit hT3 hU hO hk (zb_ne.mp hc33) ?_
        show zR E _ _ X 41 _ _ _ _ _ _ _
        change zR E _ _ X 41 _ (.int (sFitM N p) :: _) _ _ _ _ _
        refine r_is_6_5 qX3_worstFit_41 rfl rfl ?_
        refine r_iload_n qX3_worstFit_43 rfl ?_
        refine r_iconst (v := (-1)) qX3_worstFit_44 (by decide) ?_
        refine r_icmp_eq (t := 54) qX3_worstFit_45 (by decide) (fun hc45 => ?_) (fun hc45 => ?_)
        · refine r_iload_n qX3_worstFit_54 rfl ?_
          refine r_is_6_1 qX3_worstFit_55 rfl rfl ?_
          refine r_iload qX3_worstFit_56 rfl ?_
          refine r_is_6_2 qX3_worstFit_58 rfl rfl ?_
          first | exact Kskip (sArg_n1 (fun h => zb_0.mp hc33 (of_decide_eq_true h))) _ _ | exact Ktake (sArg_y (decide_eq_true (zb_ne.mp hc33)) hc45) _ _ | exact Ktake (sArg_y2 (decide_eq_true (zb_ne.mp hc33)) e0 hq9 (decide_eq_true (Int32.not_le.mp hc51))) _ _ | exact Kskip (sArg_n2 e0 hq9 (fun h => Int32.not_lt.mpr hc51 (of_decide_eq_true h))) _ _
        · obtain ⟨q0, hq0, hok0, e0⟩ := (sArg_c (by omega)).resolve_left (show ¬ sArg _ _ p = -1 from hc45)
          change sWorst N p = nI q0 at e0
          have hq9 : q0 < 100 := by omega
          obtain rfl := hy q0 hq9 e0
          refine r_iload qX3_worstFit_48 rfl ?_
          refine r_iload_n qX3_worstFit_50 rfl ?_
          refine r_icmp_le (t := 59) qX3_worstFit_51 (by decide) (fun hc51 => ?_) (fun hc51 => ?_)
          · first | exact Kskip (sArg_n1 (fun h => zb_0.mp hc33 (of_decide_eq_true h))) _ _ | exact Ktake (sArg_y (decide_eq_true (zb_ne.mp hc33)) hc45) _ _ | exact Ktake (sArg_y2 (decide_eq_true (zb_ne.mp hc33)) e0 hq9 (decide_eq_true (Int32.not_le.mp hc51))) _ _ | exact Kskip (sArg_n2 e0 hq9 (fun h => Int32.not_lt.mpr hc51 (of_decide_eq_true h))) _ _
          · refine r_iload_n qX3_worstFit_54 rfl ?_
            refine r_is_6_1 qX3_worstFit_55 rfl rfl ?_
            refine r_iload qX3_worstFit_56 rfl ?_
            refine r_is_6_2 qX3_worstFit_58 rfl rfl ?_
            first | exact Kskip (sArg_n1 (fun h => zb_0.mp hc33 (of_decide_eq_true h))) _ _ | exact Ktake (sArg_y (decide_eq_true (zb_ne.mp hc33)) hc45) _ _ | exact Ktake (sArg_y2 (decide_eq_true (zb_ne.mp hc33)) e0 hq9 (decide_eq_true (Int32.not_le.mp hc51))) _ _ | exact Kskip (sArg_n2 e0 hq9 (fun h => Int32.not_lt.mpr hc51 (of_decide_eq_true h))) _ _
  refine r_iconst (v := (-1)) qX3_worstFit_0 (by decide) ?_
  refine r_is_6_1 qX3_worstFit_1 rfl rfl ?_
  refine r_iconst (v := nI 0) qX3_worstFit_2 (by decide) ?_
  refine r_is_6_2 qX3_worstFit_3 rfl rfl ?_
  refine r_iconst (v := nI 0) qX3_worstFit_4 (by decide) ?_
  refine r_is_6_3 qX3_worstFit_5 rfl rfl ?_
  exact KL (zn (N 5)) 0 (by omega) _ (fun q hq e => absurd e.symm (nI_m1 hq)) _ _
set_option maxHeartbeats 4000000 in
set_option maxRecDepth 20000 in
theorem c_X3_bathsToMark {E : Ev} {g : Sh} {i : Ni} {j : Nj} {K : Kp} {c : Nat} {a : Nat → Nat} {N : Nat → Int32} {t : Int32} (hX : zX3 g c a) (hH : zH i a N) (hK : K (oc3 (tv (N 5) t) True True 2 0 0 (.int (sNew N (zn t) (zn (N 4))))) g i j) : zCon E mX3_bathsToMark [.ref c, .int t] g i j K := by
  refine zcon_of (by decide +kernel) rfl rfl (lo := [.ref c, .int t, zJ, zJ, zJ]) rfl (fun X => ?_)
  obtain ⟨x1, x2, hC⟩ := id hX
  have hO := hH.1
  obtain ⟨a1, a2, a3, a4, a5, a6, a7, a8, a9, a10, a11, a12, a13, a14, a15, a16, -⟩ := id hC
  obtain ⟨c5, c6, c7, c8, c9, c10, c11, c12⟩ := hH.cnt
  obtain ⟨hT, hT8⟩ := hO.T8
  obtain ⟨hS, hS5⟩ := hO.S5
  obtain ⟨hBt, hB4⟩ := hO.B4
  have c7' := c7.trans hT
  have c6' := c6.trans hBt
  have KL : ∀ k : Nat, k < zn (N 5) → K (.inl (some (.int (sNew N k (zn (N 4)))))) g i j → ∀ q p : Nat, p + q = zn (N 4) → zR E mX3_bathsToMark (zZ E mX3_bathsToMark K) X 11 [.ref c, .int (nI k), .ref (a (6 + 3 * k)), .int (sNew N k p), .int (nI p)] [] g i j 1 6 := by
    intro k hk hK q
    induction q with
    | zero =>
      intro p hp 
      obtain rfl : p = zn (N 4) := by omega
      refine r_iload qX3_bathsToMark_11 rfl ?_
      refine r_aload_n qX3_bathsToMark_13 rfl ?_
      refine r_getr qX3_bathsToMark_14 fX3_40 rfl (by assumption) (by first | assumption | rfl) ?_
      refine r_geti qX3_bathsToMark_17 fX3_228 rfl (by assumption) ?_
      rw [c6']
      refine r_icmp_ge (t := 49) qX3_bathsToMark_20 (by decide) (fun hc20 => ?_) (fun hc20 => absurd hc20 (fun h => h (nI_le (Nat.le_refl _) (by omega))))
      refine r_iload_n qX3_bathsToMark_49 rfl ?_
      refine r_iret qX3_bathsToMark_50 rfl rfl rfl rfl ?_
      exact hK
    | succ q ih =>
      intro p hp 
      have h8 := hO.k8 hk
      obtain ⟨tb1, hT3⟩ := hC.tb h8
      have u1 := hT3.1
      have hU := hH.tu hk
      refine r_iload qX3_bathsToMark_11 rfl ?_
      refine r_aload_n qX3_bathsToMark_13 rfl ?_
      refine r_getr qX3_bathsToMark_14 fX3_40 rfl (by assumption) (by first | assumption | rfl) ?_
      refine r_geti qX3_bathsToMark_17 fX3_228 rfl (by assumption) ?_
      rw [c6']
      refine r_icmp_ge (t := 49) qX3_bathsToMark_20 (by decide) (fun hc20 => absurd hc20 (nI_ge (by omega) (by omega))) (fun hc20 => ?_)
      refine r_aload_n qX3_bathsToMark_23 rfl ?_
      refine r_aload_n qX3_bathsToMark_24 rfl ?_
      refine r_getr qX3_bathsToMark_25 fX3_40 rfl (by assumption) (by first | assumption | rfl) ?_
      refine r_getr qX3_bathsToMark_28 fX3_116 rfl (by assumption) (by first | assumption | rfl) ?_
      refine r_iload qX3_bathsToMark_31 rfl ?_
      refine r_ialdN qX3_bathsToMark_33 (by assumption) (by assumption) (by omega) rfl ?_
      rw [(hH.ba (show p < zn (N 4) by omega)).1]
      refine r_cv1 (cu2 := 1) (su2 := 6) qX3_bathsToMark_34 kX3_231 rfl (by decide +kernel) (c := 2) (by assumption) (by decide) rfl rfl rfl rfl rfl rfl ?_
      refine c_X2_hasPointOfDegrees hT3 hU hO hk ?_
      show zR E _ _ X 37 _ _ _ _ _ _ _
      refine r_if_ne (t := 43) qX3_bathsToMark_37 (by decide) (fun hc37 => ?_) (fun hc37 => ?_)
      · refine r_ii_5_4 qX3_bathsToMark_43 rfl rfl (nI_inc p) ?_
        refine r_goto (t := 11) qX3_bathsToMark_46 (by decide) ?_
        have z := ih (p + 1) (by omega); rw [sNew] at z; first | (rw [if_pos (zb_ne.mp hc37), add_nI0] at z; exact z) | (rw [if_neg (zb_0.mp hc37)] at z; exact z)
      · refine r_ii_5_3 qX3_bathsToMark_40 rfl rfl (inc_1 _) ?_
        refine r_ii_5_4 qX3_bathsToMark_43 rfl rfl (nI_inc p) ?_
        refine r_goto (t := 11) qX3_bathsToMark_46 (by decide) ?_
        have z := ih (p + 1) (by omega); rw [sNew] at z; first | (rw [if_pos (zb_ne.mp hc37), add_nI0] at z; exact z) | (rw [if_neg (zb_0.mp hc37)] at z; exact z)
  refine r_aload_n qX3_bathsToMark_0 rfl ?_
  refine r_iload_n qX3_bathsToMark_1 rfl ?_
  refine r_cv1 (cu2 := 1) (su2 := 6) qX3_bathsToMark_2 kX3_141 rfl (by decide +kernel) (c := 3) (by assumption) (by decide) rfl rfl rfl rfl rfl rfl ?_
  refine c_X3_checkedTube hX hH (fun hv => t_out rfl rfl rfl (by rw [oc3_a hv] at hK; exact hK)) (fun k ek hk => ?_)
  subst ek
  have hv := tv_mk hk (by have := hO.k8 hk; omega)
  have h8 := hO.k8 hk
  have zk : zn (nI k) = k := zn_nI (by omega)
  obtain ⟨tb1, hT3⟩ := hC.tb h8
  have u1 := hT3.1
  have hU := hH.tu hk
  obtain ⟨f0, f3, f4, f6, f7, f8, f9, f10, f11, f12, f13, fP⟩ := id hU
  obtain ⟨hm, hm6⟩ := hO.many hk
  rw [oc3_v hv trivial trivial, zk] at hK
  show zR E _ _ X 5 _ _ _ _ _ _ _
  refine r_as_5_2 qX3_bathsToMark_5 rfl rfl ?_
  refine r_iconst (v := nI 0) qX3_bathsToMark_6 (by decide) ?_
  refine r_is_5_3 qX3_bathsToMark_7 rfl rfl ?_
  refine r_iconst (v := nI 0) qX3_bathsToMark_8 (by decide) ?_
  refine r_is_5_4 qX3_bathsToMark_9 rfl rfl ?_
  exact KL k hk hK (zn (N 4)) 0 (by omega)
theorem sMis_0 {N : Nat → Int32} {k p : Nat} : sMis N k p = 0 ↔ sTells N k (sHgt N k p) = nI 10 * sDeg N k p := by
  rw [sMis, jabs]
  constructor
  · intro h
    have h2 : nI 10 * sDeg N k p - sTells N k (sHgt N k p) = 0 := by
      split at h
      · exact h
      · have := Int32.sub_add_cancel 0 (nI 10 * sDeg N k p - sTells N k (sHgt N k p))
        rw [h, Int32.zero_add] at this
        exact this
    rw [← Int32.sub_add_cancel (nI 10 * sDeg N k p) (sTells N k (sHgt N k p)), h2, Int32.zero_add]
  · intro h
    rw [h, Int32.sub_self]
    decide
theorem sMiss_z {N : Nat → Int32} {k p : Nat} : sMiss N k p = zb (¬ sMis N k p = 0) := by
  rw [sMiss]
  by_cases h : sTells N k (sHgt N k p) = nI 10 * sDeg N k p
  · rw [if_pos h, zb_f (p := ¬ sMis N k p = 0) (fun z => z (sMis_0.mpr h))]
  · rw [if_neg h, zb_t (p := ¬ sMis N k p = 0) (fun z => h (sMis_0.mp z))]
set_option maxHeartbeats 4000000 in
set_option maxRecDepth 20000 in
theorem c_X3_missedPoints {E : Ev} {g : Sh} {i : Ni} {j : Nj} {K : Kp} {c : Nat} {a : Nat → Nat} {N : Nat → Int32}  (hX : zX3 g c a) (hH : zH i a N) (hK : K (.inl (some (.int (sMissed N (zn (N 5)))))) g i j) : zCon E mX3_missedPoints [.ref c] g i j K := by
  refine zcon_of (by decide +kernel) rfl rfl (lo := [.ref c, zJ, zJ, zJ]) rfl (fun X => ?_)
  obtain ⟨x1, x2, hC⟩ := id hX
  have hO := hH.1
  obtain ⟨a1, a2, a3, a4, a5, a6, a7, a8, a9, a10, a11, a12, a13, a14, a15, a16, -⟩ := id hC
  obtain ⟨c5, c6, c7, c8, c9, c10, c11, c12⟩ := hH.cnt
  obtain ⟨hT, hT8⟩ := hO.T8
  obtain ⟨hS, hS5⟩ := hO.S5
  obtain ⟨hBt, hB4⟩ := hO.B4
  have c7' := c7.trans hT
  have KL : ∀ q p : Nat, p + q = zn (N 5) → ∀ z : Value, zR E mX3_missedPoints (zZ E mX3_missedPoints K) X 4 [.ref c, .int (sMissed N p), .int (nI p), z] [] g i j 0 0 := by
    intro q
    induction q with
    | zero =>
      intro p hp z
      obtain rfl : p = zn (N 5) := by omega
      refine r_iload_n qX3_missedPoints_4 rfl ?_
      refine r_aload_n qX3_missedPoints_5 rfl ?_
      refine r_getr qX3_missedPoints_6 fX3_40 rfl (by assumption) (by first | assumption | rfl) ?_
      refine r_geti qX3_missedPoints_9 fX3_104 rfl (by assumption) ?_
      rw [c7']
      refine r_icmp_ge (t := 76) qX3_missedPoints_12 (by decide) (fun hc12 => ?_) (fun hc12 => absurd hc12 (fun h => h (nI_le (Nat.le_refl _) (by omega))))
      refine r_iload_n qX3_missedPoints_76 rfl ?_
      refine r_iret qX3_missedPoints_77 rfl rfl rfl rfl ?_
      exact hK
    | succ q ih =>
      intro p hp z
      have hk : p < zn (N 5) := by omega
      have h8 := hO.k8 hk
      obtain ⟨tb1, hT3⟩ := hC.tb h8
      have u1 := hT3.1
      have hU := hH.tu hk
      obtain ⟨f0, f3, f4, f6, f7, f8, f9, f10, f11, f12, f13, fP⟩ := id hU
      obtain ⟨hm, hm6⟩ := hO.many hk
      refine r_iload_n qX3_missedPoints_4 rfl ?_
      refine r_aload_n qX3_missedPoints_5 rfl ?_
      refine r_getr qX3_missedPoints_6 fX3_40 rfl (by assumption) (by first | assumption | rfl) ?_
      refine r_geti qX3_missedPoints_9 fX3_104 rfl (by assumption) ?_
      rw [c7']
      refine r_icmp_ge (t := 76) qX3_missedPoints_12 (by decide) (fun hc12 => absurd hc12 (nI_ge (by omega) (by omega))) (fun hc12 => ?_)
      refine r_aload_n qX3_missedPoints_15 rfl ?_
      refine r_getr qX3_missedPoints_16 fX3_40 rfl (by assumption) (by first | assumption | rfl) ?_
      refine r_getr qX3_missedPoints_19 fX3_120 rfl (by assumption) (by first | assumption | rfl) ?_
      refine r_iload_n qX3_missedPoints_22 rfl ?_
      refine r_aaldN qX3_missedPoints_23 (by first | exact Or.inl (by assumption) | exact Or.inr (by assumption)) (by assumption) (by omega) rfl (by first | assumption | rfl) ?_
      refine r_as_4_3 qX3_missedPoints_24 rfl rfl ?_
      refine r_aload_n qX3_missedPoints_25 rfl ?_
      refine r_cv0 (cu2 := 0) (su2 := 0) qX3_missedPoints_26 kX3_192 rfl (by decide +kernel) (c := 2) (by assumption) (by decide) rfl rfl rfl rfl rfl rfl ?_
      refine c_X2_scaled hT3 hU hO hk ?_
      show zR E _ _ X 29 _ _ _ _ _ _ _
      refine r_if_eq (t := 70) qX3_missedPoints_29 (by decide) (fun hc29 => ?_) (fun hc29 => ?_)
      · refine r_ii_4_2 qX3_missedPoints_70 rfl rfl (nI_inc p) ?_
        refine r_goto (t := 4) qX3_missedPoints_73 (by decide) ?_
        have z2 := ih (p + 1) (by omega) (.ref (a (6 + 3 * p)))
        rw [sMissed] at z2
        first
        | (rw [if_neg (zb_0.mp hc29)] at z2; exact z2)
        | (rw [if_pos (zb_ne.mp hc29), sMiss_z, sMiss_z, zb_f (zb_0.mp hc41), zb_f (zb_0.mp hc60)] at z2; exact z2)
        | (rw [if_pos (zb_ne.mp hc29), sMiss_z, sMiss_z, zb_f (zb_0.mp hc41), zb_t (zb_ne.mp hc60), Int32.add_assoc, Int32.add_comm (nI 1), ← Int32.add_assoc] at z2; exact z2)
        | (rw [if_pos (zb_ne.mp hc29), sMiss_z, sMiss_z, zb_t (zb_ne.mp hc41), zb_f (zb_0.mp hc60), Int32.add_assoc, Int32.add_comm (nI 0), ← Int32.add_assoc] at z2; exact z2)
        | (rw [if_pos (zb_ne.mp hc29), sMiss_z, sMiss_z, zb_t (zb_ne.mp hc41), zb_t (zb_ne.mp hc60)] at z2; exact z2)
      · refine r_iload_n qX3_missedPoints_32 rfl ?_
        refine r_aload_n qX3_missedPoints_33 rfl ?_
        refine r_aload_n qX3_missedPoints_34 rfl ?_
        refine r_cv0 (cu2 := 0) (su2 := 0) qX3_missedPoints_35 kX3_235 rfl (by decide +kernel) (c := 2) (by assumption) (by decide) rfl rfl rfl rfl rfl rfl ?_
        refine c_X2_lowerPoint hT3 hU hO hk (zb_ne.mp hc29) ?_
        show zR E _ _ X 38 _ _ _ _ _ _ _
        refine r_cv1 (cu2 := 0) (su2 := 0) qX3_missedPoints_38 kX3_238 rfl (by decide +kernel) (c := 2) (by assumption) (by decide) rfl rfl rfl rfl rfl rfl ?_
        refine c_X2_misses hT3 hU hO hk (zb_ne.mp hc29) (sBy_lt _ _ (by have := zb_ne.mp hc29; omega)) ?_
        show zR E _ _ X 41 _ _ _ _ _ _ _
        refine r_if_eq (t := 48) qX3_missedPoints_41 (by decide) (fun hc41 => ?_) (fun hc41 => ?_)
        · refine r_iconst (v := nI 0) qX3_missedPoints_48 (by decide) ?_
          first | with_reducible refine r_iaddN qX3_missedPoints_49 ?_ | refine r_iadd qX3_missedPoints_49 ?_
          refine r_is_4_1 qX3_missedPoints_50 rfl rfl ?_
          refine r_iload_n qX3_missedPoints_51 rfl ?_
          refine r_aload_n qX3_missedPoints_52 rfl ?_
          refine r_aload_n qX3_missedPoints_53 rfl ?_
          refine r_cv0 (cu2 := 0) (su2 := 0) qX3_missedPoints_54 kX3_241 rfl (by decide +kernel) (c := 2) (by assumption) (by decide) rfl rfl rfl rfl rfl rfl ?_
          refine c_X2_upperPoint hT3 hU hO hk (zb_ne.mp hc29) ?_
          show zR E _ _ X 57 _ _ _ _ _ _ _
          refine r_cv1 (cu2 := 0) (su2 := 0) qX3_missedPoints_57 kX3_238 rfl (by decide +kernel) (c := 2) (by assumption) (by decide) rfl rfl rfl rfl rfl rfl ?_
          refine c_X2_misses hT3 hU hO hk (zb_ne.mp hc29) (sBy_lt _ _ (by have := zb_ne.mp hc29; omega)) ?_
          show zR E _ _ X 60 _ _ _ _ _ _ _
          refine r_if_eq (t := 67) qX3_missedPoints_60 (by decide) (fun hc60 => ?_) (fun hc60 => ?_)
          · refine r_iconst (v := nI 0) qX3_missedPoints_67 (by decide) ?_
            first | with_reducible refine r_iaddN qX3_missedPoints_68 ?_ | refine r_iadd qX3_missedPoints_68 ?_
            refine r_is_4_1 qX3_missedPoints_69 rfl rfl ?_
            refine r_ii_4_2 qX3_missedPoints_70 rfl rfl (nI_inc p) ?_
            refine r_goto (t := 4) qX3_missedPoints_73 (by decide) ?_
            have z2 := ih (p + 1) (by omega) (.ref (a (6 + 3 * p)))
            rw [sMissed] at z2
            first
            | (rw [if_neg (zb_0.mp hc29)] at z2; exact z2)
            | (rw [if_pos (zb_ne.mp hc29), sMiss_z, sMiss_z, zb_f (zb_0.mp hc41), zb_f (zb_0.mp hc60)] at z2; exact z2)
            | (rw [if_pos (zb_ne.mp hc29), sMiss_z, sMiss_z, zb_f (zb_0.mp hc41), zb_t (zb_ne.mp hc60), Int32.add_assoc, Int32.add_comm (nI 1), ← Int32.add_assoc] at z2; exact z2)
            | (rw [if_pos (zb_ne.mp hc29), sMiss_z, sMiss_z, zb_t (zb_ne.mp hc41), zb_f (zb_0.mp hc60), Int32.add_assoc, Int32.add_comm (nI 0), ← Int32.add_assoc] at z2; exact z2)
            | (rw [if_pos (zb_ne.mp hc29), sMiss_z, sMiss_z, zb_t (zb_ne.mp hc41), zb_t (zb_ne.mp hc60)] at z2; exact z2)
          · refine r_iconst (v := nI 1) qX3_missedPoints_63 (by decide) ?_
            refine r_goto (t := 68) qX3_missedPoints_64 (by decide) ?_
            first | with_reducible refine r_iaddN qX3_missedPoints_68 ?_ | refine r_iadd qX3_missedPoints_68 ?_
            refine r_is_4_1 qX3_missedPoints_69 rfl rfl ?_
            refine r_ii_4_2 qX3_missedPoints_70 rfl rfl (nI_inc p) ?_
            refine r_goto (t := 4) qX3_missedPoints_73 (by decide) ?_
            have z2 := ih (p + 1) (by omega) (.ref (a (6 + 3 * p)))
            rw [sMissed] at z2
            first
            | (rw [if_neg (zb_0.mp hc29)] at z2; exact z2)
            | (rw [if_pos (zb_ne.mp hc29), sMiss_z, sMiss_z, zb_f (zb_0.mp hc41), zb_f (zb_0.mp hc60)] at z2; exact z2)
            | (rw [if_pos (zb_ne.mp hc29), sMiss_z, sMiss_z, zb_f (zb_0.mp hc41), zb_t (zb_ne.mp hc60), Int32.add_assoc, Int32.add_comm (nI 1), ← Int32.add_assoc] at z2; exact z2)
            | (rw [if_pos (zb_ne.mp hc29), sMiss_z, sMiss_z, zb_t (zb_ne.mp hc41), zb_f (zb_0.mp hc60), Int32.add_assoc, Int32.add_comm (nI 0), ← Int32.add_assoc] at z2; exact z2)
            | (rw [if_pos (zb_ne.mp hc29), sMiss_z, sMiss_z, zb_t (zb_ne.mp hc41), zb_t (zb_ne.mp hc60)] at z2; exact z2)
        · refine r_iconst (v := nI 1) qX3_missedPoints_44 (by decide) ?_
          refine r_goto (t := 49) qX3_missedPoints_45 (by decide) ?_
          first | with_reducible refine r_iaddN qX3_missedPoints_49 ?_ | refine r_iadd qX3_missedPoints_49 ?_
          refine r_is_4_1 qX3_missedPoints_50 rfl rfl ?_
          refine r_iload_n qX3_missedPoints_51 rfl ?_
          refine r_aload_n qX3_missedPoints_52 rfl ?_
          refine r_aload_n qX3_missedPoints_53 rfl ?_
          refine r_cv0 (cu2 := 0) (su2 := 0) qX3_missedPoints_54 kX3_241 rfl (by decide +kernel) (c := 2) (by assumption) (by decide) rfl rfl rfl rfl rfl rfl ?_
          refine c_X2_upperPoint hT3 hU hO hk (zb_ne.mp hc29) ?_
          show zR E _ _ X 57 _ _ _ _ _ _ _
          refine r_cv1 (cu2 := 0) (su2 := 0) qX3_missedPoints_57 kX3_238 rfl (by decide +kernel) (c := 2) (by assumption) (by decide) rfl rfl rfl rfl rfl rfl ?_
          refine c_X2_misses hT3 hU hO hk (zb_ne.mp hc29) (sBy_lt _ _ (by have := zb_ne.mp hc29; omega)) ?_
          show zR E _ _ X 60 _ _ _ _ _ _ _
          refine r_if_eq (t := 67) qX3_missedPoints_60 (by decide) (fun hc60 => ?_) (fun hc60 => ?_)
          · refine r_iconst (v := nI 0) qX3_missedPoints_67 (by decide) ?_
            first | with_reducible refine r_iaddN qX3_missedPoints_68 ?_ | refine r_iadd qX3_missedPoints_68 ?_
            refine r_is_4_1 qX3_missedPoints_69 rfl rfl ?_
            refine r_ii_4_2 qX3_missedPoints_70 rfl rfl (nI_inc p) ?_
            refine r_goto (t := 4) qX3_missedPoints_73 (by decide) ?_
            have z2 := ih (p + 1) (by omega) (.ref (a (6 + 3 * p)))
            rw [sMissed] at z2
            first
            | (rw [if_neg (zb_0.mp hc29)] at z2; exact z2)
            | (rw [if_pos (zb_ne.mp hc29), sMiss_z, sMiss_z, zb_f (zb_0.mp hc41), zb_f (zb_0.mp hc60)] at z2; exact z2)
            | (rw [if_pos (zb_ne.mp hc29), sMiss_z, sMiss_z, zb_f (zb_0.mp hc41), zb_t (zb_ne.mp hc60), Int32.add_assoc, Int32.add_comm (nI 1), ← Int32.add_assoc] at z2; exact z2)
            | (rw [if_pos (zb_ne.mp hc29), sMiss_z, sMiss_z, zb_t (zb_ne.mp hc41), zb_f (zb_0.mp hc60), Int32.add_assoc, Int32.add_comm (nI 0), ← Int32.add_assoc] at z2; exact z2)
            | (rw [if_pos (zb_ne.mp hc29), sMiss_z, sMiss_z, zb_t (zb_ne.mp hc41), zb_t (zb_ne.mp hc60)] at z2; exact z2)
          · refine r_iconst (v := nI 1) qX3_missedPoints_63 (by decide) ?_
            refine r_goto (t := 68) qX3_missedPoints_64 (by decide) ?_
            first | with_reducible refine r_iaddN qX3_missedPoints_68 ?_ | refine r_iadd qX3_missedPoints_68 ?_
            refine r_is_4_1 qX3_missedPoints_69 rfl rfl ?_
            refine r_ii_4_2 qX3_missedPoints_70 rfl rfl (nI_inc p) ?_
            refine r_goto (t := 4) qX3_missedPoints_73 (by decide) ?_
            have z2 := ih (p + 1) (by omega) (.ref (a (6 + 3 * p)))
            rw [sMissed] at z2
            first
            | (rw [if_neg (zb_0.mp hc29)] at z2; exact z2)
            | (rw [if_pos (zb_ne.mp hc29), sMiss_z, sMiss_z, zb_f (zb_0.mp hc41), zb_f (zb_0.mp hc60)] at z2; exact z2)
            | (rw [if_pos (zb_ne.mp hc29), sMiss_z, sMiss_z, zb_f (zb_0.mp hc41), zb_t (zb_ne.mp hc60), Int32.add_assoc, Int32.add_comm (nI 1), ← Int32.add_assoc] at z2; exact z2)
            | (rw [if_pos (zb_ne.mp hc29), sMiss_z, sMiss_z, zb_t (zb_ne.mp hc41), zb_f (zb_0.mp hc60), Int32.add_assoc, Int32.add_comm (nI 0), ← Int32.add_assoc] at z2; exact z2)
            | (rw [if_pos (zb_ne.mp hc29), sMiss_z, sMiss_z, zb_t (zb_ne.mp hc41), zb_t (zb_ne.mp hc60)] at z2; exact z2)
  refine r_iconst (v := nI 0) qX3_missedPoints_0 (by decide) ?_
  refine r_is_4_1 qX3_missedPoints_1 rfl rfl ?_
  refine r_iconst (v := nI 0) qX3_missedPoints_2 (by decide) ?_
  refine r_is_4_2 qX3_missedPoints_3 rfl rfl ?_
  exact KL (zn (N 5)) 0 (by omega) _
set_option maxHeartbeats 4000000 in
set_option maxRecDepth 20000 in
theorem c_X3_settledShare {E : Ev} {g : Sh} {i : Ni} {j : Nj} {K : Kp} {c : Nat} {a : Nat → Nat} {N : Nat → Int32}  (hX : zX3 g c a) (hH : zH i a N) (hK : K (.inl (some (.float (sShare N (zn (N 5)))))) g i j) : zCon E mX3_settledShare [.ref c] g i j K := by
  refine zcon_of (by decide +kernel) rfl rfl (lo := [.ref c, zJ, zJ]) rfl (fun X => ?_)
  obtain ⟨x1, x2, hC⟩ := id hX
  have hO := hH.1
  obtain ⟨a1, a2, a3, a4, a5, a6, a7, a8, a9, a10, a11, a12, a13, a14, a15, a16, -⟩ := id hC
  obtain ⟨c5, c6, c7, c8, c9, c10, c11, c12⟩ := hH.cnt
  obtain ⟨hT, hT8⟩ := hO.T8
  obtain ⟨hS, hS5⟩ := hO.S5
  obtain ⟨hBt, hB4⟩ := hO.B4
  have c7' := c7.trans hT
  have KL : ¬ zn (N 5) = 0 → ∀ q p : Nat, p + q = zn (N 5) → zR E mX3_settledShare (zZ E mX3_settledShare K) X 16 [.ref c, .int (nI (sStills N p)), .int (nI p)] [] g i j 0 0 := by
    intro h0 q
    induction q with
    | zero =>
      intro p hp 
      obtain rfl : p = zn (N 5) := by omega
      refine r_iload_n qX3_settledShare_16 rfl ?_
      refine r_aload_n qX3_settledShare_17 rfl ?_
      refine r_getr qX3_settledShare_18 fX3_40 rfl (by assumption) (by first | assumption | rfl) ?_
      refine r_geti qX3_settledShare_21 fX3_104 rfl (by assumption) ?_
      rw [c7']
      refine r_icmp_ge (t := 55) qX3_settledShare_24 (by decide) (fun hc24 => ?_) (fun hc24 => absurd hc24 (fun h => h (nI_le (Nat.le_refl _) (by omega))))
      refine r_iload_n qX3_settledShare_55 rfl ?_
      refine r_i2f qX3_settledShare_56 ?_
      refine r_aload_n qX3_settledShare_57 rfl ?_
      refine r_getr qX3_settledShare_58 fX3_40 rfl (by assumption) (by first | assumption | rfl) ?_
      refine r_geti qX3_settledShare_61 fX3_104 rfl (by assumption) ?_
      rw [c7']
      refine r_i2f qX3_settledShare_64 ?_
      refine r_fdiv qX3_settledShare_65 (nf32 (Nat.le_trans (sStills_le _ _) hT8) hT8 h0) ?_
      refine r_fret qX3_settledShare_66 rfl rfl rfl ?_
      rw [sShare, if_neg h0] at hK; exact hK
    | succ q ih =>
      intro p hp 
      have hk : p < zn (N 5) := by omega
      have h8 := hO.k8 hk
      obtain ⟨tb1, hT3⟩ := hC.tb h8
      have u1 := hT3.1
      have hU := hH.tu hk
      obtain ⟨f0, f3, f4, f6, f7, f8, f9, f10, f11, f12, f13, fP⟩ := id hU
      obtain ⟨hm, hm6⟩ := hO.many hk
      refine r_iload_n qX3_settledShare_16 rfl ?_
      refine r_aload_n qX3_settledShare_17 rfl ?_
      refine r_getr qX3_settledShare_18 fX3_40 rfl (by assumption) (by first | assumption | rfl) ?_
      refine r_geti qX3_settledShare_21 fX3_104 rfl (by assumption) ?_
      rw [c7']
      refine r_icmp_ge (t := 55) qX3_settledShare_24 (by decide) (fun hc24 => absurd hc24 (nI_ge (by omega) (by omega))) (fun hc24 => ?_)
      refine r_aload_n qX3_settledShare_27 rfl ?_
      refine r_getr qX3_settledShare_28 fX3_40 rfl (by assumption) (by first | assumption | rfl) ?_
      refine r_aload_n qX3_settledShare_31 rfl ?_
      refine r_getr qX3_settledShare_32 fX3_40 rfl (by assumption) (by first | assumption | rfl) ?_
      refine r_getr qX3_settledShare_35 fX3_120 rfl (by assumption) (by first | assumption | rfl) ?_
      refine r_iload_n qX3_settledShare_38 rfl ?_
      refine r_aaldN qX3_settledShare_39 (by first | exact Or.inl (by assumption) | exact Or.inr (by assumption)) (by assumption) (by omega) rfl (by first | assumption | rfl) ?_
      refine r_cv1 (cu2 := 0) (su2 := 0) qX3_settledShare_40 kX3_152 rfl (by decide +kernel) (c := 0) (by assumption) (by decide) rfl rfl rfl rfl rfl rfl ?_
      refine c_X0_atRest hC hH hk ?_
      show zR E _ _ X 43 _ _ _ _ _ _ _
      refine r_if_eq (t := 49) qX3_settledShare_43 (by decide) (fun hc43 => ?_) (fun hc43 => ?_)
      · refine r_ii_3_2 qX3_settledShare_49 rfl rfl (nI_inc p) ?_
        refine r_goto (t := 16) qX3_settledShare_52 (by decide) ?_
        have z := ih (p + 1) (by omega); rw [sStills] at z; first | (rw [if_pos (zb_ne.mp hc43)] at z; exact z) | (rw [if_neg (zb_0.mp hc43)] at z; exact z)
      · refine r_ii_3_1 qX3_settledShare_46 rfl rfl (nI_inc _) ?_
        refine r_ii_3_2 qX3_settledShare_49 rfl rfl (nI_inc p) ?_
        refine r_goto (t := 16) qX3_settledShare_52 (by decide) ?_
        have z := ih (p + 1) (by omega); rw [sStills] at z; first | (rw [if_pos (zb_ne.mp hc43)] at z; exact z) | (rw [if_neg (zb_0.mp hc43)] at z; exact z)
  refine r_aload_n qX3_settledShare_0 rfl ?_
  refine r_getr qX3_settledShare_1 fX3_40 rfl (by assumption) (by first | assumption | rfl) ?_
  refine r_geti qX3_settledShare_4 fX3_104 rfl (by assumption) ?_
  rw [c7']
  refine r_if_ne (t := 12) qX3_settledShare_7 (by decide) (fun hc7 => ?_) (fun hc7 => ?_)
  · refine r_iconst (v := nI 0) qX3_settledShare_12 (by decide) ?_
    refine r_is_3_1 qX3_settledShare_13 rfl rfl ?_
    refine r_iconst (v := nI 0) qX3_settledShare_14 (by decide) ?_
    refine r_is_3_2 qX3_settledShare_15 rfl rfl ?_
    exact KL (fun h => hc7 (by rw [h]; rfl)) (zn (N 5)) 0 (by omega)
  · have h0 : zn (N 5) = 0 := (nI_eq (by omega) (by omega)).mp hc7
    refine r_fconst0 qX3_settledShare_10 ?_
    refine r_fret qX3_settledShare_11 rfl rfl rfl ?_
    rw [sShare, if_pos h0] at hK; exact hK
set_option maxHeartbeats 4000000 in
set_option maxRecDepth 20000 in
theorem c_X3_meanHeight {E : Ev} {g : Sh} {i : Ni} {j : Nj} {K : Kp} {c : Nat} {a : Nat → Nat} {N : Nat → Int32}  (hX : zX3 g c a) (hH : zH i a N) (hK : K (.inl (some (.double (sMean N (zn (N 5)))))) g i j) : zCon E mX3_meanHeight [.ref c] g i j K := by
  refine zcon_of (by decide +kernel) rfl rfl (lo := [.ref c, zJ, zJ]) rfl (fun X => ?_)
  obtain ⟨x1, x2, hC⟩ := id hX
  have hO := hH.1
  obtain ⟨a1, a2, a3, a4, a5, a6, a7, a8, a9, a10, a11, a12, a13, a14, a15, a16, -⟩ := id hC
  obtain ⟨c5, c6, c7, c8, c9, c10, c11, c12⟩ := hH.cnt
  obtain ⟨hT, hT8⟩ := hO.T8
  obtain ⟨hS, hS5⟩ := hO.S5
  obtain ⟨hBt, hB4⟩ := hO.B4
  have c7' := c7.trans hT
  have KL : ¬ zn (N 5) = 0 → ∀ q p : Nat, p + q = zn (N 5) → zR E mX3_meanHeight (zZ E mX3_meanHeight K) X 16 [.ref c, .int (sHighs N p), .int (nI p)] [] g i j 0 0 := by
    intro h0 q
    induction q with
    | zero =>
      intro p hp 
      obtain rfl : p = zn (N 5) := by omega
      refine r_iload_n qX3_meanHeight_16 rfl ?_
      refine r_aload_n qX3_meanHeight_17 rfl ?_
      refine r_getr qX3_meanHeight_18 fX3_40 rfl (by assumption) (by first | assumption | rfl) ?_
      refine r_geti qX3_meanHeight_21 fX3_104 rfl (by assumption) ?_
      rw [c7']
      refine r_icmp_ge (t := 48) qX3_meanHeight_24 (by decide) (fun hc24 => ?_) (fun hc24 => absurd hc24 (fun h => h (nI_le (Nat.le_refl _) (by omega))))
      refine r_iload_n qX3_meanHeight_48 rfl ?_
      refine r_i2d qX3_meanHeight_49 ?_
      refine r_aload_n qX3_meanHeight_50 rfl ?_
      refine r_getr qX3_meanHeight_51 fX3_40 rfl (by assumption) (by first | assumption | rfl) ?_
      refine r_geti qX3_meanHeight_54 fX3_104 rfl (by assumption) ?_
      rw [c7']
      obtain ⟨S, eS, hS2⟩ := sHighs_in hO (zn (N 5)) (Nat.le_refl _)
      refine r_i2d qX3_meanHeight_57 ?_
      refine r_ddiv qX3_meanHeight_58 (by rw [eS]; exact nf64 (by omega) hT8 h0) ?_
      refine r_dret qX3_meanHeight_59 rfl rfl rfl ?_
      rw [sMean, if_neg h0] at hK; exact hK
    | succ q ih =>
      intro p hp 
      have hk : p < zn (N 5) := by omega
      have h8 := hO.k8 hk
      obtain ⟨tb1, hT3⟩ := hC.tb h8
      have u1 := hT3.1
      have hU := hH.tu hk
      obtain ⟨f0, f3, f4, f6, f7, f8, f9, f10, f11, f12, f13, fP⟩ := id hU
      obtain ⟨hm, hm6⟩ := hO.many hk
      refine r_iload_n qX3_meanHeight_16 rfl ?_
      refine r_aload_n qX3_meanHeight_17 rfl ?_
      refine r_getr qX3_meanHeight_18 fX3_40 rfl (by assumption) (by first | assumption | rfl) ?_
      refine r_geti qX3_meanHeight_21 fX3_104 rfl (by assumption) ?_
      rw [c7']
      refine r_icmp_ge (t := 48) qX3_meanHeight_24 (by decide) (fun hc24 => absurd hc24 (nI_ge (by omega) (by omega))) (fun hc24 => ?_)
      refine r_iload_n qX3_meanHeight_27 rfl ?_
      refine r_aload_n qX3_meanHeight_28 rfl ?_
      refine r_getr qX3_meanHeight_29 fX3_40 rfl (by assumption) (by first | assumption | rfl) ?_
      refine r_getr qX3_meanHeight_32 fX3_120 rfl (by assumption) (by first | assumption | rfl) ?_
      refine r_iload_n qX3_meanHeight_35 rfl ?_
      refine r_aaldN qX3_meanHeight_36 (by first | exact Or.inl (by assumption) | exact Or.inr (by assumption)) (by assumption) (by omega) rfl (by first | assumption | rfl) ?_
      refine r_cv0 (cu2 := 0) (su2 := 0) qX3_meanHeight_37 kX3_160 rfl (by decide +kernel) (c := 2) (by assumption) (by decide) rfl rfl rfl rfl rfl rfl ?_
      refine c_X2_level hT3 hU hO hk ?_
      show zR E _ _ X 40 _ _ _ _ _ _ _
      first | with_reducible refine r_iaddN qX3_meanHeight_40 ?_ | refine r_iadd qX3_meanHeight_40 ?_
      refine r_is_3_1 qX3_meanHeight_41 rfl rfl ?_
      refine r_ii_3_2 qX3_meanHeight_42 rfl rfl (nI_inc p) ?_
      refine r_goto (t := 16) qX3_meanHeight_45 (by decide) ?_
      have z := ih (p + 1) (by omega); rw [sHighs] at z; exact z
  refine r_aload_n qX3_meanHeight_0 rfl ?_
  refine r_getr qX3_meanHeight_1 fX3_40 rfl (by assumption) (by first | assumption | rfl) ?_
  refine r_geti qX3_meanHeight_4 fX3_104 rfl (by assumption) ?_
  rw [c7']
  refine r_if_ne (t := 12) qX3_meanHeight_7 (by decide) (fun hc7 => ?_) (fun hc7 => ?_)
  · refine r_iconst (v := nI 0) qX3_meanHeight_12 (by decide) ?_
    refine r_is_3_1 qX3_meanHeight_13 rfl rfl ?_
    refine r_iconst (v := nI 0) qX3_meanHeight_14 (by decide) ?_
    refine r_is_3_2 qX3_meanHeight_15 rfl rfl ?_
    exact KL (fun h => hc7 (by rw [h]; rfl)) (zn (N 5)) 0 (by omega)
  · have h0 : zn (N 5) = 0 := (nI_eq (by omega) (by omega)).mp hc7
    refine r_dconst0 qX3_meanHeight_10 ?_
    refine r_dret qX3_meanHeight_11 rfl rfl rfl ?_
    rw [sMean, if_pos h0] at hK; exact hK


