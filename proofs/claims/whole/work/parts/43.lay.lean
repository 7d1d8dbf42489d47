/-! ===== A TUBE'S NUMBER; NEW SPIRITS, BATHS, TUBES ===== -/
set_option maxHeartbeats 4000000 in
set_option maxRecDepth 20000 in
theorem c_X4_takeTube {E : Ev} {g : Sh} {i : Ni} {j : Nj} {K : Kp} {x n d b p s o L t r : Nat} (hW : zW g x n d b p s o) (hM : zM g x r) (hP : zPs i j x b L t) (h0 : i x 12 = 0) (hKy : okN (i b) L t (nI 0) (i r 5 - nI 1) → ∀ (i' : Ni) (j' : Nj), zTok (i' x) (j' x) (i b) L (sNext (i b) L t) → zFr x i' i j' j → K (.inl (some (.int (sVal (i b) L t)))) g i' j') (hKn : ¬ okN (i b) L t (nI 0) (i r 5 - nI 1) → K (.inl (some (.int (nI 0)))) g (zBad i x (if sKind (i b) L t = 2 then nI 2 else nI 1) (nI t)) j) : zCon E mX4_takeTube [.ref x] g i j K := by
  refine zcon_of (by decide +kernel) rfl rfl (lo := [.ref x]) rfl (fun X => ?_)
  obtain ⟨h1, h2, h3, h4⟩ := hM
  refine r_aload_n qX4_takeTube_0 rfl ?_
  refine r_iconst (v := nI 0) qX4_takeTube_1 (by decide) ?_
  refine r_aload_n qX4_takeTube_2 rfl ?_
  refine r_getr qX4_takeTube_3 fX4_24 rfl (by assumption) (by first | assumption | rfl) ?_
  refine r_iconst (v := nI 5) qX4_takeTube_6 (by decide) ?_
  refine r_ialdN qX4_takeTube_7 (by assumption) (by assumption) (by omega) rfl ?_
  refine r_iconst (v := nI 1) qX4_takeTube_8 (by decide) ?_
  refine r_isub qX4_takeTube_9 ?_
  refine r_cv2 (cu2 := 0) (su2 := 0) qX4_takeTube_10 kX4_280 rfl (by decide +kernel) (c := 4) (by assumption) (by decide) rfl rfl rfl rfl rfl rfl ?_
  refine c_X4_takeNumber hW hP h0 (fun hy i2 j2 a1 a2 => ?_) (fun hy => ?_)
  · show zR E _ _ X 13 _ _ _ _ _ _ _
    refine r_iret qX4_takeTube_13 rfl rfl rfl rfl ?_
    exact hKy hy i2 j2 a1 a2
  · show zR E _ _ X 13 _ _ _ _ _ _ _
    refine r_iret qX4_takeTube_13 rfl rfl rfl rfl ?_
    exact hKn hy
def aSpirit (N : Nat → Int32) (S : Nat) (w l e : Int32) : Nat → Int32 := upd (upd (upd (upd N 3 (nI (S + 1))) (10 + 4 * S + 0) w) (10 + 4 * S + 1) l) (10 + 4 * S + 2) e
def aBath (N : Nat → Int32) (S : Nat) (w l e : Int32) : Nat → Int32 := upd (upd (upd (upd N 4 (nI (S + 1))) (30 + 3 * S + 0) w) (30 + 3 * S + 1) l) (30 + 3 * S + 2) e
set_option maxHeartbeats 4000000 in
set_option maxRecDepth 20000 in
theorem c_X4_laySpirit {E : Ev} {g : Sh} {i : Ni} {j : Nj} {K : Kp} {x r S : Nat} {w l e : Int32} (hM : zM g x r) (hS : i r 3 = nI S) (hS5 : S < 5) (hK : K (.inl none) g (wA i r (aSpirit (i r) S w l e)) j) : zCon E mX4_laySpirit [.ref x, .int w, .int l, .int e] g i j K := by
  refine zcon_of (by decide +kernel) rfl rfl (lo := [.ref x, .int w, .int l, .int e, zJ]) rfl (fun X => ?_)
  obtain ⟨h1, h2, h3, h4⟩ := hM
  rw [aSpirit] at hK
  refine r_bipush (v := nI 10) qX4_laySpirit_0 (by decide) ?_
  refine r_iconst (v := nI 4) qX4_laySpirit_2 (by decide) ?_
  refine r_aload_n qX4_laySpirit_3 rfl ?_
  refine r_getr qX4_laySpirit_4 fX4_24 rfl (by assumption) (by first | assumption | rfl) ?_
  refine r_iconst (v := nI 3) qX4_laySpirit_7 (by decide) ?_
  refine r_ialdN qX4_laySpirit_8 (by assumption) (by assumption) (by omega) rfl ?_
  rw [hS]
  first | with_reducible refine r_imulN qX4_laySpirit_9 ?_ | refine r_imul qX4_laySpirit_9 ?_
  first | with_reducible refine r_iaddN qX4_laySpirit_10 ?_ | refine r_iadd qX4_laySpirit_10 ?_
  refine r_is_5_4 qX4_laySpirit_11 rfl rfl ?_
  refine r_aload_n qX4_laySpirit_13 rfl ?_
  refine r_getr qX4_laySpirit_14 fX4_24 rfl (by assumption) (by first | assumption | rfl) ?_
  refine r_iconst (v := nI 3) qX4_laySpirit_17 (by decide) ?_
  refine r_dup2 qX4_laySpirit_18 rfl rfl ?_
  refine r_ialdN qX4_laySpirit_19 (by assumption) (by assumption) (by omega) rfl ?_
  rw [hS]
  refine r_iconst (v := nI 1) qX4_laySpirit_20 (by decide) ?_
  first | with_reducible refine r_iaddN qX4_laySpirit_21 ?_ | refine r_iadd qX4_laySpirit_21 ?_
  refine r_iastN qX4_laySpirit_22 (by assumption) (by assumption) (by omega) rfl ?_
  refine r_aload_n qX4_laySpirit_23 rfl ?_
  refine r_getr qX4_laySpirit_24 fX4_24 rfl (by assumption) (by first | assumption | rfl) ?_
  refine r_iload qX4_laySpirit_27 rfl ?_
  refine r_iconst (v := nI 0) qX4_laySpirit_29 (by decide) ?_
  first | with_reducible refine r_iaddN qX4_laySpirit_30 ?_ | refine r_iadd qX4_laySpirit_30 ?_
  refine r_iload_n qX4_laySpirit_31 rfl ?_
  refine r_iastN qX4_laySpirit_32 (by assumption) (by assumption) (by omega) rfl ?_
  simp only [wA_s, wA_wA]
  refine r_aload_n qX4_laySpirit_33 rfl ?_
  refine r_getr qX4_laySpirit_34 fX4_24 rfl (by assumption) (by first | assumption | rfl) ?_
  refine r_iload qX4_laySpirit_37 rfl ?_
  refine r_iconst (v := nI 1) qX4_laySpirit_39 (by decide) ?_
  first | with_reducible refine r_iaddN qX4_laySpirit_40 ?_ | refine r_iadd qX4_laySpirit_40 ?_
  refine r_iload_n qX4_laySpirit_41 rfl ?_
  refine r_iastN qX4_laySpirit_42 (by assumption) (by assumption) (by omega) rfl ?_
  simp only [wA_s, wA_wA]
  refine r_aload_n qX4_laySpirit_43 rfl ?_
  refine r_getr qX4_laySpirit_44 fX4_24 rfl (by assumption) (by first | assumption | rfl) ?_
  refine r_iload qX4_laySpirit_47 rfl ?_
  refine r_iconst (v := nI 2) qX4_laySpirit_49 (by decide) ?_
  first | with_reducible refine r_iaddN qX4_laySpirit_50 ?_ | refine r_iadd qX4_laySpirit_50 ?_
  refine r_iload_n qX4_laySpirit_51 rfl ?_
  refine r_iastN qX4_laySpirit_52 (by assumption) (by assumption) (by omega) rfl ?_
  simp only [wA_s, wA_wA]
  refine r_vret qX4_laySpirit_53 rfl rfl rfl ?_
  exact hK
set_option maxHeartbeats 4000000 in
set_option maxRecDepth 20000 in
theorem c_X4_layBath {E : Ev} {g : Sh} {i : Ni} {j : Nj} {K : Kp} {x r S : Nat} {w l e : Int32} (hM : zM g x r) (hS : i r 4 = nI S) (hS5 : S < 4) (hK : K (.inl none) g (wA i r (aBath (i r) S w l e)) j) : zCon E mX4_layBath [.ref x, .int w, .int l, .int e] g i j K := by
  refine zcon_of (by decide +kernel) rfl rfl (lo := [.ref x, .int w, .int l, .int e, zJ]) rfl (fun X => ?_)
  obtain ⟨h1, h2, h3, h4⟩ := hM
  rw [aBath] at hK
  refine r_bipush (v := nI 30) qX4_layBath_0 (by decide) ?_
  refine r_iconst (v := nI 3) qX4_layBath_2 (by decide) ?_
  refine r_aload_n qX4_layBath_3 rfl ?_
  refine r_getr qX4_layBath_4 fX4_24 rfl (by assumption) (by first | assumption | rfl) ?_
  refine r_iconst (v := nI 4) qX4_layBath_7 (by decide) ?_
  refine r_ialdN qX4_layBath_8 (by assumption) (by assumption) (by omega) rfl ?_
  rw [hS]
  first | with_reducible refine r_imulN qX4_layBath_9 ?_ | refine r_imul qX4_layBath_9 ?_
  first | with_reducible refine r_iaddN qX4_layBath_10 ?_ | refine r_iadd qX4_layBath_10 ?_
  refine r_is_5_4 qX4_layBath_11 rfl rfl ?_
  refine r_aload_n qX4_layBath_13 rfl ?_
  refine r_getr qX4_layBath_14 fX4_24 rfl (by assumption) (by first | assumption | rfl) ?_
  refine r_iconst (v := nI 4) qX4_layBath_17 (by decide) ?_
  refine r_dup2 qX4_layBath_18 rfl rfl ?_
  refine r_ialdN qX4_layBath_19 (by assumption) (by assumption) (by omega) rfl ?_
  rw [hS]
  refine r_iconst (v := nI 1) qX4_layBath_20 (by decide) ?_
  first | with_reducible refine r_iaddN qX4_layBath_21 ?_ | refine r_iadd qX4_layBath_21 ?_
  refine r_iastN qX4_layBath_22 (by assumption) (by assumption) (by omega) rfl ?_
  refine r_aload_n qX4_layBath_23 rfl ?_
  refine r_getr qX4_layBath_24 fX4_24 rfl (by assumption) (by first | assumption | rfl) ?_
  refine r_iload qX4_layBath_27 rfl ?_
  refine r_iconst (v := nI 0) qX4_layBath_29 (by decide) ?_
  first | with_reducible refine r_iaddN qX4_layBath_30 ?_ | refine r_iadd qX4_layBath_30 ?_
  refine r_iload_n qX4_layBath_31 rfl ?_
  refine r_iastN qX4_layBath_32 (by assumption) (by assumption) (by omega) rfl ?_
  simp only [wA_s, wA_wA]
  refine r_aload_n qX4_layBath_33 rfl ?_
  refine r_getr qX4_layBath_34 fX4_24 rfl (by assumption) (by first | assumption | rfl) ?_
  refine r_iload qX4_layBath_37 rfl ?_
  refine r_iconst (v := nI 1) qX4_layBath_39 (by decide) ?_
  first | with_reducible refine r_iaddN qX4_layBath_40 ?_ | refine r_iadd qX4_layBath_40 ?_
  refine r_iload_n qX4_layBath_41 rfl ?_
  refine r_iastN qX4_layBath_42 (by assumption) (by assumption) (by omega) rfl ?_
  simp only [wA_s, wA_wA]
  refine r_aload_n qX4_layBath_43 rfl ?_
  refine r_getr qX4_layBath_44 fX4_24 rfl (by assumption) (by first | assumption | rfl) ?_
  refine r_iload qX4_layBath_47 rfl ?_
  refine r_iconst (v := nI 2) qX4_layBath_49 (by decide) ?_
  first | with_reducible refine r_iaddN qX4_layBath_50 ?_ | refine r_iadd qX4_layBath_50 ?_
  refine r_iload_n qX4_layBath_51 rfl ?_
  refine r_iastN qX4_layBath_52 (by assumption) (by assumption) (by omega) rfl ?_
  simp only [wA_s, wA_wA]
  refine r_vret qX4_layBath_53 rfl rfl rfl ?_
  exact hK

