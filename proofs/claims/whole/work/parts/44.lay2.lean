def aTube (N : Nat → Int32) (T : Nat) (s b o l f : Int32) : Nat → Int32 :=
  upd (upd (upd (upd (upd (upd (upd (upd (upd N 5 (nI (T + 1))) (42 + 21 * T + 0) s) (42 + 21 * T + 1) b) (42 + 21 * T + 2) o) (42 + 21 * T + 3) l) (42 + 21 * T + 4) f) (42 + 21 * T + 5) (nI 10 * N 0)) (42 + 21 * T + 7) (-1)) 8 (N 8 + f)
set_option maxHeartbeats 4000000 in
set_option maxRecDepth 20000 in
theorem c_X4_layTube {E : Ev} {g : Sh} {i : Ni} {j : Nj} {K : Kp} {x r T : Nat} {s b o l f : Int32} (hM : zM g x r) (hT : i r 5 = nI T) (hT8 : T < 8) (hK : K (.inl none) g (wA i r (aTube (i r) T s b o l f)) j) : zCon E mX4_layTube [.ref x, .int s, .int b, .int o, .int l, .int f] g i j K := by
  refine zcon_of (by decide +kernel) rfl rfl (lo := [.ref x, .int s, .int b, .int o, .int l, .int f, zJ]) rfl (fun X => ?_)
  have hM' := hM
  obtain ⟨h1, h2, h3, h4⟩ := hM
  rw [aTube] at hK
  refine r_aload_n qX4_layTube_0 rfl ?_
  refine r_getr qX4_layTube_1 fX4_24 rfl (by assumption) (by first | assumption | rfl) ?_
  refine r_iconst (v := nI 5) qX4_layTube_4 (by decide) ?_
  refine r_ialdN qX4_layTube_5 (by assumption) (by assumption) (by omega) rfl ?_
  rw [hT]
  refine r_is_7_6 qX4_layTube_6 rfl rfl ?_
  refine r_aload_n qX4_layTube_8 rfl ?_
  refine r_getr qX4_layTube_9 fX4_24 rfl (by assumption) (by first | assumption | rfl) ?_
  refine r_iconst (v := nI 5) qX4_layTube_12 (by decide) ?_
  refine r_dup2 qX4_layTube_13 rfl rfl ?_
  refine r_ialdN qX4_layTube_14 (by assumption) (by assumption) (by omega) rfl ?_
  rw [hT]
  refine r_iconst (v := nI 1) qX4_layTube_15 (by decide) ?_
  first | with_reducible refine r_iaddN qX4_layTube_16 ?_ | refine r_iadd qX4_layTube_16 ?_
  refine r_iastN qX4_layTube_17 (by assumption) (by assumption) (by omega) rfl ?_
  refine r_aload_n qX4_layTube_18 rfl ?_
  refine r_iload qX4_layTube_19 rfl ?_
  refine r_iconst (v := nI 0) qX4_layTube_21 (by decide) ?_
  refine r_iload_n qX4_layTube_22 rfl ?_
  refine r_cv3 (cu2 := 0) (su2 := 0) qX4_layTube_23 kX4_137 rfl (by decide +kernel) (c := 4) (by assumption) (by decide) rfl rfl rfl rfl rfl rfl ?_
  refine c_X4_set0 (by first | assumption | omega | rfl | decide) (by first | assumption | omega | rfl | decide) ?_
  show zR E _ _ X 26 _ _ _ _ _ _ _
  simp only [wA_s, wA_wA]
  refine r_aload_n qX4_layTube_26 rfl ?_
  refine r_iload qX4_layTube_27 rfl ?_
  refine r_iconst (v := nI 1) qX4_layTube_29 (by decide) ?_
  refine r_iload_n qX4_layTube_30 rfl ?_
  refine r_cv3 (cu2 := 0) (su2 := 0) qX4_layTube_31 kX4_137 rfl (by decide +kernel) (c := 4) (by assumption) (by decide) rfl rfl rfl rfl rfl rfl ?_
  refine c_X4_set0 (by first | assumption | omega | rfl | decide) (by first | assumption | omega | rfl | decide) ?_
  show zR E _ _ X 34 _ _ _ _ _ _ _
  simp only [wA_s, wA_wA]
  refine r_aload_n qX4_layTube_34 rfl ?_
  refine r_iload qX4_layTube_35 rfl ?_
  refine r_iconst (v := nI 2) qX4_layTube_37 (by decide) ?_
  refine r_iload_n qX4_layTube_38 rfl ?_
  refine r_cv3 (cu2 := 0) (su2 := 0) qX4_layTube_39 kX4_137 rfl (by decide +kernel) (c := 4) (by assumption) (by decide) rfl rfl rfl rfl rfl rfl ?_
  refine c_X4_set0 (by first | assumption | omega | rfl | decide) (by first | assumption | omega | rfl | decide) ?_
  show zR E _ _ X 42 _ _ _ _ _ _ _
  simp only [wA_s, wA_wA]
  refine r_aload_n qX4_layTube_42 rfl ?_
  refine r_iload qX4_layTube_43 rfl ?_
  refine r_iconst (v := nI 3) qX4_layTube_45 (by decide) ?_
  refine r_iload qX4_layTube_46 rfl ?_
  refine r_cv3 (cu2 := 0) (su2 := 0) qX4_layTube_48 kX4_137 rfl (by decide +kernel) (c := 4) (by assumption) (by decide) rfl rfl rfl rfl rfl rfl ?_
  refine c_X4_set0 (by first | assumption | omega | rfl | decide) (by first | assumption | omega | rfl | decide) ?_
  show zR E _ _ X 51 _ _ _ _ _ _ _
  simp only [wA_s, wA_wA]
  refine r_aload_n qX4_layTube_51 rfl ?_
  refine r_iload qX4_layTube_52 rfl ?_
  refine r_iconst (v := nI 4) qX4_layTube_54 (by decide) ?_
  refine r_iload qX4_layTube_55 rfl ?_
  refine r_cv3 (cu2 := 0) (su2 := 0) qX4_layTube_57 kX4_137 rfl (by decide +kernel) (c := 4) (by assumption) (by decide) rfl rfl rfl rfl rfl rfl ?_
  refine c_X4_set0 (by first | assumption | omega | rfl | decide) (by first | assumption | omega | rfl | decide) ?_
  show zR E _ _ X 60 _ _ _ _ _ _ _
  simp only [wA_s, wA_wA]
  refine r_aload_n qX4_layTube_60 rfl ?_
  refine r_iload qX4_layTube_61 rfl ?_
  refine r_iconst (v := nI 5) qX4_layTube_63 (by decide) ?_
  refine r_bipush (v := nI 10) qX4_layTube_64 (by decide) ?_
  refine r_aload_n qX4_layTube_66 rfl ?_
  refine r_getr qX4_layTube_67 fX4_24 rfl (by assumption) (by first | assumption | rfl) ?_
  refine r_iconst (v := nI 0) qX4_layTube_70 (by decide) ?_
  refine r_ialdN qX4_layTube_71 (by assumption) (by assumption) (by omega) rfl ?_
  rw [wA_s, pk_un (by omega), pk_un (by omega), pk_un (by omega), pk_un (by omega), pk_un (by omega), pk_un (by omega)]
  first | with_reducible refine r_imulN qX4_layTube_72 ?_ | refine r_imul qX4_layTube_72 ?_
  refine r_cv3 (cu2 := 0) (su2 := 0) qX4_layTube_73 kX4_137 rfl (by decide +kernel) (c := 4) (by assumption) (by decide) rfl rfl rfl rfl rfl rfl ?_
  refine c_X4_set0 (by first | assumption | omega | rfl | decide) (by first | assumption | omega | rfl | decide) ?_
  show zR E _ _ X 76 _ _ _ _ _ _ _
  simp only [wA_s, wA_wA]
  refine r_aload_n qX4_layTube_76 rfl ?_
  refine r_iload qX4_layTube_77 rfl ?_
  refine r_bipush (v := nI 7) qX4_layTube_79 (by decide) ?_
  refine r_iconst (v := (-1)) qX4_layTube_81 (by decide) ?_
  refine r_cv3 (cu2 := 0) (su2 := 0) qX4_layTube_82 kX4_137 rfl (by decide +kernel) (c := 4) (by assumption) (by decide) rfl rfl rfl rfl rfl rfl ?_
  refine c_X4_set0 (by first | assumption | omega | rfl | decide) (by first | assumption | omega | rfl | decide) ?_
  show zR E _ _ X 85 _ _ _ _ _ _ _
  simp only [wA_s, wA_wA]
  refine r_aload_n qX4_layTube_85 rfl ?_
  refine r_getr qX4_layTube_86 fX4_24 rfl (by assumption) (by first | assumption | rfl) ?_
  refine r_bipush (v := nI 8) qX4_layTube_89 (by decide) ?_
  refine r_dup2 qX4_layTube_91 rfl rfl ?_
  refine r_ialdN qX4_layTube_92 (by assumption) (by assumption) (by omega) rfl ?_
  rw [wA_s, pk_un (by omega), pk_un (by omega), pk_un (by omega), pk_un (by omega), pk_un (by omega), pk_un (by omega), pk_un (by omega), pk_un (by omega)]
  refine r_iload qX4_layTube_93 rfl ?_
  first | with_reducible refine r_iaddN qX4_layTube_95 ?_ | refine r_iadd qX4_layTube_95 ?_
  refine r_iastN qX4_layTube_96 (by assumption) (by assumption) (by omega) rfl ?_
  simp only [wA_s, wA_wA]
  refine r_vret qX4_layTube_97 rfl rfl rfl ?_
  exact hK

