/-! ===== AFTER AN ERROR THE MODEL'S PARSER DOES NOTHING ===== -/
set_option maxHeartbeats 4000000 in
set_option maxRecDepth 20000 in
theorem cB_takeNumber {E : Ev} {g : Sh} {i : Ni} {j : Nj} {K : Kp} {x : Nat} {l h : Int32} (h1 : gT g x = 5) (h0 : ¬ i x 12 = 0) (hK : K (.inl (some (.int l))) g i j) : zCon E mX4_takeNumber [.ref x, .int l, .int h] g i j K := by
  refine zcon_of (by decide +kernel) rfl rfl (lo := [.ref x, .int l, .int h, zJ]) rfl (fun X => ?_)
  refine r_aload_n qX4_takeNumber_0 rfl ?_
  refine r_cv0 (cu2 := 0) (su2 := 0) qX4_takeNumber_1 kX4_269 rfl (by decide +kernel) (c := 4) (by assumption) (by decide) rfl rfl rfl rfl rfl rfl ?_
  refine c_X4_isGood (by first | assumption | omega | rfl | decide) ?_
  show zR E _ _ X 4 _ _ _ _ _ _ _
  rw [zb_f h0]
  refine r_if_ne (t := 9) qX4_takeNumber_4 (by decide) (fun hc4 => absurd hc4 (fun h => h nI_0)) (fun hc4 => ?_)
  refine r_iload_n qX4_takeNumber_7 rfl ?_
  refine r_iret qX4_takeNumber_8 rfl rfl rfl rfl ?_
  exact hK
set_option maxHeartbeats 4000000 in
set_option maxRecDepth 20000 in
theorem cB_takeDegrees {E : Ev} {g : Sh} {i : Ni} {j : Nj} {K : Kp} {x : Nat} (h1 : gT g x = 5) (h0 : ¬ i x 12 = 0) (hK : K (.inl (some (.int (nI 0)))) g i j) : zCon E mX4_takeDegrees [.ref x] g i j K := by
  refine zcon_of (by decide +kernel) rfl rfl (lo := [.ref x]) rfl (fun X => ?_)
  refine r_aload_n qX4_takeDegrees_0 rfl ?_
  refine r_cv0 (cu2 := 0) (su2 := 0) qX4_takeDegrees_1 kX4_269 rfl (by decide +kernel) (c := 4) (by assumption) (by decide) rfl rfl rfl rfl rfl rfl ?_
  refine c_X4_isGood (by first | assumption | omega | rfl | decide) ?_
  show zR E _ _ X 4 _ _ _ _ _ _ _
  rw [zb_f h0]
  refine r_if_eq (t := 37) qX4_takeDegrees_4 (by decide) (fun hc4 => ?_) (fun hc4 => absurd hc4 (fun h => h nI_0))
  refine r_aload_n qX4_takeDegrees_37 rfl ?_
  refine r_iconst (v := nI 0) qX4_takeDegrees_38 (by decide) ?_
  refine r_sipush (v := nI 150) qX4_takeDegrees_39 (by decide) ?_
  refine r_cv2 (cu2 := 0) (su2 := 0) qX4_takeDegrees_42 kX4_280 rfl (by decide +kernel) (c := 4) (by assumption) (by decide) rfl rfl rfl rfl rfl rfl ?_
  refine cB_takeNumber h1 h0 ?_
  show zR E _ _ X 45 _ _ _ _ _ _ _
  refine r_iret qX4_takeDegrees_45 rfl rfl rfl rfl ?_
  exact hK
set_option maxHeartbeats 4000000 in
set_option maxRecDepth 20000 in
theorem cB_takeEnd {E : Ev} {g : Sh} {i : Ni} {j : Nj} {K : Kp} {x : Nat} {r : Int32} (h1 : gT g x = 5) (h0 : ¬ i x 12 = 0) (hK : K (.inl none) g i j) : zCon E mX4_takeEnd [.ref x, .int r] g i j K := by
  refine zcon_of (by decide +kernel) rfl rfl (lo := [.ref x, .int r]) rfl (fun X => ?_)
  refine r_aload_n qX4_takeEnd_0 rfl ?_
  refine r_cv0 (cu2 := 0) (su2 := 0) qX4_takeEnd_1 kX4_269 rfl (by decide +kernel) (c := 4) (by assumption) (by decide) rfl rfl rfl rfl rfl rfl ?_
  refine c_X4_isGood (by first | assumption | omega | rfl | decide) ?_
  show zR E _ _ X 4 _ _ _ _ _ _ _
  rw [zb_f h0]
  refine r_if_ne (t := 8) qX4_takeEnd_4 (by decide) (fun hc4 => absurd hc4 (fun h => h nI_0)) (fun hc4 => ?_)
  refine r_vret qX4_takeEnd_7 rfl rfl rfl ?_
  exact hK
set_option maxHeartbeats 4000000 in
set_option maxRecDepth 20000 in
theorem cB_takeNamed {E : Ev} {g : Sh} {i : Ni} {j : Nj} {K : Kp} {x : Nat} {r : Int32} (h1 : gT g x = 5) (h0 : ¬ i x 12 = 0) (hK : K (.inl (some (.int (nI 0)))) g i j) : zCon E mX4_takeNamed [.ref x, .int r] g i j K := by
  refine zcon_of (by decide +kernel) rfl rfl (lo := [.ref x, .int r, zJ]) rfl (fun X => ?_)
  refine r_aload_n qX4_takeNamed_0 rfl ?_
  refine r_cv0 (cu2 := 0) (su2 := 0) qX4_takeNamed_1 kX4_269 rfl (by decide +kernel) (c := 4) (by assumption) (by decide) rfl rfl rfl rfl rfl rfl ?_
  refine c_X4_isGood (by first | assumption | omega | rfl | decide) ?_
  show zR E _ _ X 4 _ _ _ _ _ _ _
  rw [zb_f h0]
  refine r_if_ne (t := 9) qX4_takeNamed_4 (by decide) (fun hc4 => absurd hc4 (fun h => h nI_0)) (fun hc4 => ?_)
  refine r_iconst (v := nI 0) qX4_takeNamed_7 (by decide) ?_
  refine r_iret qX4_takeNamed_8 rfl rfl rfl rfl ?_
  exact hK
set_option maxHeartbeats 4000000 in
set_option maxRecDepth 20000 in
theorem cB_takeTube {E : Ev} {g : Sh} {i : Ni} {j : Nj} {K : Kp} {x r : Nat} (hM : zM g x r) (h0 : ¬ i x 12 = 0) (hK : K (.inl (some (.int (nI 0)))) g i j) : zCon E mX4_takeTube [.ref x] g i j K := by
  refine zcon_of (by decide +kernel) rfl rfl (lo := [.ref x]) rfl (fun X => ?_)
  obtain ⟨h1, h2, h3, h4⟩ := hM
  refine r_aload_n qX4_takeTube_0 rfl ?_
  refine r_iconst (v := nI 0) qX4_takeTube_1 (by decide) ?_
  refine r_aload_n qX4_takeTube_2 rfl ?_
  refine r_getr qX4_takeTube_3 fX4_24 rfl (by assumption) (by first | assumption | rfl) ?_
  refine r_iconst (v := nI 5) qX4_takeTube_6 (by decide) ?_
  refine r_ialdN qX4_takeTube_7 (by assumption) (by assumption) (by omega) rfl ?_
  refine r_iconst (v := nI 1) qX4_takeTube_8 (by decide) ?_
  refine r_isub qX4_takeTube_9 ?_
  refine r_cv2 (cu2 := 0) (su2 := 0) qX4_takeTube_10 kX4_280 rfl (by decide +kernel) (c := 4) (by assumption) (by decide) rfl rfl rfl rfl rfl rfl ?_
  refine cB_takeNumber h1 h0 ?_
  show zR E _ _ X 13 _ _ _ _ _ _ _
  refine r_iret qX4_takeTube_13 rfl rfl rfl rfl ?_
  exact hK

