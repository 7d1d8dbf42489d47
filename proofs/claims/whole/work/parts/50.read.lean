/-! ===== THE MODEL READS STATEMENTS ===== -/
set_option maxHeartbeats 4000000 in
set_option maxRecDepth 20000 in
theorem c_X4_readLeaky {E : Ev} {g : Sh} {i : Ni} {j : Nj} {K : Kp} {x n d b p s o r L t : Nat} {B N : Nat → Int32} {i0 : Ni} {j0 : Nj} {v : Int32} (hW : zW g x n d b p s o) (hM : zM g x r) (hrx : r ≠ x) (hrb : r ≠ b) (hO : zOk N) (hG : zG x b r L B N i0 j0 t i j) (hK : ∀ i' j', zRes x b r L B i0 j0 (mLeaky v N B L t) i' j' → K (.inl none) g i' j') : zCon E mX4_readLeaky [.ref x, .int v] g i j K := by
  refine zcon_of (by decide +kernel) rfl rfl (lo := [.ref x, .int v, zJ]) rfl (fun X => ?_)
  have w1 := hW.1
  obtain ⟨hM1, hM2, hM3, hM4⟩ := id hM
  have Kb1 : ∀ (y2 : Int32) (i1 : Ni) (j1 : Nj) (c : Int32) (w : Nat), zE x r i0 j0 c w i1 j1 → mLeaky v N B L t = .error (c, w) → zR E mX4_readLeaky (zZ E mX4_readLeaky K) X 14 [.ref x, .int v, .int y2] [] g i1 j1 0 0 := by
    intro y2 i1 j1 c w e he
    have h0 := e.b
    refine r_aload_n qX4_readLeaky_14 rfl ?_
    refine r_cv0 (cu2 := 0) (su2 := 0) qX4_readLeaky_15 kX4_269 rfl (by decide +kernel) (c := 4) (by assumption) (by decide) rfl rfl rfl rfl rfl rfl ?_
    refine c_X4_isGood (by first | assumption | omega | rfl | decide) ?_
    show zR E _ _ X 18 _ _ _ _ _ _ _
    rw [zb_f (p := i1 x 12 = 0) h0]
    refine r_if_eq (t := 29) qX4_readLeaky_18 (by decide) (fun hc18 => ?_) (fun hc18 => absurd hc18 (by decide))
    refine r_vret qX4_readLeaky_29 rfl rfl rfl ?_
    refine hK _ _ ?_; rw [he]; exact e
  have Kb0 : ∀ (u : Int32) (i1 : Ni) (j1 : Nj) (c : Int32) (w : Nat), zE x r i0 j0 c w i1 j1 → mLeaky v N B L t = .error (c, w) → zR E mX4_readLeaky (zZ E mX4_readLeaky K) X 8 [.ref x, .int v, zJ] [.int u] g i1 j1 0 0 := by
    intro u i1 j1 c w e he
    have h0 := e.b
    refine r_is_3_2 qX4_readLeaky_8 rfl rfl ?_
    refine r_aload_n qX4_readLeaky_9 rfl ?_
    refine r_iconst (v := nI 0) qX4_readLeaky_10 (by decide) ?_
    refine r_cv1 (cu2 := 0) (su2 := 0) qX4_readLeaky_11 kX4_300 rfl (by decide +kernel) (c := 4) (by assumption) (by decide) rfl rfl rfl rfl rfl rfl ?_
    refine cB_takeEnd w1 h0 ?_
    show zR E _ _ X 14 _ _ _ _ _ _ _
    exact Kb1 _ i1 j1 c w e he
  refine r_aload_n qX4_readLeaky_0 rfl ?_
  refine r_cv0 (cu2 := 0) (su2 := 0) qX4_readLeaky_1 kX4_253 rfl (by decide +kernel) (c := 4) (by assumption) (by decide) rfl rfl rfl rfl rfl rfl ?_
  refine w_next hW hrx hG (fun iA jA GA => ?_)
  show zR E _ _ X 4 _ _ _ _ _ _ _
  refine r_aload_n qX4_readLeaky_4 rfl ?_
  refine r_cv0 (cu2 := 0) (su2 := 0) qX4_readLeaky_5 kX4_311 rfl (by decide +kernel) (c := 4) (by assumption) (by decide) rfl rfl rfl rfl rfl rfl ?_
  refine w_tube hW hM hrx GA (fun t0 v0 h0 ia0 ja0 G0 => ?_) (fun c w h u i2 j2 e => Kb0 u  i2 j2 c w e (by rw [mLeaky, h]; rfl))
  show zR E _ _ X 8 _ _ _ _ _ _ _
  obtain ⟨k, ek, hk⟩ := tTube_nat hO h0
  subst ek
  have k8 := hO.k8 hk
  refine r_is_3_2 qX4_readLeaky_8 rfl rfl ?_
  refine r_aload_n qX4_readLeaky_9 rfl ?_
  refine r_iconst (v := nI 0) qX4_readLeaky_10 (by decide) ?_
  refine r_cv1 (cu2 := 0) (su2 := 0) qX4_readLeaky_11 kX4_300 rfl (by decide +kernel) (c := 4) (by assumption) (by decide) rfl rfl rfl rfl rfl rfl ?_
  refine w_end (P := False) (dP := instDecidableFalse) hW hrx G0 (fun t1 v1 h1 hp ia1 ja1 G1 => ?_) (fun c w h i2 j2 e => Kb1 _ i2 j2 c w e (by rw [mLeaky, h0, tB_o, zn_nI (show k < 2 ^ 31 by omega), h]; rfl))
  show zR E _ _ X 14 _ _ _ _ _ _ _
  refine r_aload_n qX4_readLeaky_14 rfl ?_
  refine r_cv0 (cu2 := 0) (su2 := 0) qX4_readLeaky_15 kX4_269 rfl (by decide +kernel) (c := 4) (by assumption) (by decide) rfl rfl rfl rfl rfl rfl ?_
  refine c_X4_isGood (by first | assumption | omega | rfl | decide) ?_
  show zR E _ _ X 18 _ _ _ _ _ _ _
  rw [zb_t (p := ia1 x 12 = 0) G1.z]
  refine r_if_eq (t := 29) qX4_readLeaky_18 (by decide) (fun hc18 => absurd hc18 (by decide)) (fun hc18 => ?_)
  refine r_aload_n qX4_readLeaky_21 rfl ?_
  refine r_iload_n qX4_readLeaky_22 rfl ?_
  refine r_bipush (v := nI 6) qX4_readLeaky_23 (by decide) ?_
  refine r_iload_n qX4_readLeaky_25 rfl ?_
  refine r_cv3 (cu2 := 0) (su2 := 0) qX4_readLeaky_26 kX4_137 rfl (by decide +kernel) (c := 4) (by assumption) (by decide) rfl rfl rfl rfl rfl rfl ?_
  refine c_X4_set0 (by first | assumption | omega | rfl | decide) (by first | assumption | omega | rfl | decide) ?_
  show zR E _ _ X 29 _ _ _ _ _ _ _
  refine r_vret qX4_readLeaky_29 rfl rfl rfl ?_
  refine hK _ _ ?_
  rw [mLeaky, h0, tB_o, zn_nI (show k < 2 ^ 31 by omega), h1, tB_o]
  exact G1.put hrx hrb (by rw [G1.row])
set_option maxHeartbeats 4000000 in
set_option maxRecDepth 20000 in
theorem c_X4_readDip {E : Ev} {g : Sh} {i : Ni} {j : Nj} {K : Kp} {x n d b p s o r L t : Nat} {B N : Nat → Int32} {i0 : Ni} {j0 : Nj}  (hW : zW g x n d b p s o) (hM : zM g x r) (hrx : r ≠ x) (hrb : r ≠ b) (hO : zOk N) (hG : zG x b r L B N i0 j0 t i j) (hK : ∀ i' j', zRes x b r L B i0 j0 (mDip N B L t) i' j' → K (.inl none) g i' j') : zCon E mX4_readDip [.ref x] g i j K := by
  refine zcon_of (by decide +kernel) rfl rfl (lo := [.ref x, zJ, zJ]) rfl (fun X => ?_)
  have w1 := hW.1
  obtain ⟨hM1, hM2, hM3, hM4⟩ := id hM
  have Kb2 : ∀ (y1 : Int32) (y2 : Int32) (i1 : Ni) (j1 : Nj) (c : Int32) (w : Nat), zE x r i0 j0 c w i1 j1 → mDip N B L t = .error (c, w) → zR E mX4_readDip (zZ E mX4_readDip K) X 40 [.ref x, .int y1, .int y2] [] g i1 j1 0 0 := by
    intro y1 y2 i1 j1 c w e he
    have h0 := e.b
    refine r_aload_n qX4_readDip_40 rfl ?_
    refine r_cv0 (cu2 := 0) (su2 := 0) qX4_readDip_41 kX4_269 rfl (by decide +kernel) (c := 4) (by assumption) (by decide) rfl rfl rfl rfl rfl rfl ?_
    refine c_X4_isGood (by first | assumption | omega | rfl | decide) ?_
    show zR E _ _ X 44 _ _ _ _ _ _ _
    rw [zb_f (p := i1 x 12 = 0) h0]
    refine r_if_eq (t := 55) qX4_readDip_44 (by decide) (fun hc44 => ?_) (fun hc44 => absurd hc44 (by decide))
    refine r_vret qX4_readDip_55 rfl rfl rfl ?_
    refine hK _ _ ?_; rw [he]; exact e
  have Kb1 : ∀ (u : Int32) (y1 : Int32) (i1 : Ni) (j1 : Nj) (c : Int32) (w : Nat), zE x r i0 j0 c w i1 j1 → mDip N B L t = .error (c, w) → zR E mX4_readDip (zZ E mX4_readDip K) X 14 [.ref x, .int y1, zJ] [.int u] g i1 j1 0 0 := by
    intro u y1 i1 j1 c w e he
    have h0 := e.b
    refine r_is_3_2 qX4_readDip_14 rfl rfl ?_
    refine r_aload_n qX4_readDip_15 rfl ?_
    refine r_aload_n qX4_readDip_16 rfl ?_
    refine r_cv0 (cu2 := 0) (su2 := 0) qX4_readDip_17 kX4_269 rfl (by decide +kernel) (c := 4) (by assumption) (by decide) rfl rfl rfl rfl rfl rfl ?_
    refine c_X4_isGood (by first | assumption | omega | rfl | decide) ?_
    show zR E _ _ X 20 _ _ _ _ _ _ _
    rw [zb_f (p := i1 x 12 = 0) h0]
    refine r_if_eq (t := 36) qX4_readDip_20 (by decide) (fun hc20 => ?_) (fun hc20 => absurd hc20 (by decide))
    refine r_iconst (v := nI 0) qX4_readDip_36 (by decide) ?_
    refine r_cv1 (cu2 := 0) (su2 := 0) qX4_readDip_37 kX4_300 rfl (by decide +kernel) (c := 4) (by assumption) (by decide) rfl rfl rfl rfl rfl rfl ?_
    refine cB_takeEnd w1 h0 ?_
    show zR E _ _ X 40 _ _ _ _ _ _ _
    exact Kb2 _ _ i1 j1 c w e he
  have Kb0 : ∀ (u : Int32) (i1 : Ni) (j1 : Nj) (c : Int32) (w : Nat), zE x r i0 j0 c w i1 j1 → mDip N B L t = .error (c, w) → zR E mX4_readDip (zZ E mX4_readDip K) X 8 [.ref x, zJ, zJ] [.int u] g i1 j1 0 0 := by
    intro u i1 j1 c w e he
    have h0 := e.b
    refine r_is_3_1 qX4_readDip_8 rfl rfl ?_
    refine r_aload_n qX4_readDip_9 rfl ?_
    refine r_iconst (v := nI 0) qX4_readDip_10 (by decide) ?_
    refine r_cv1 (cu2 := 0) (su2 := 0) qX4_readDip_11 kX4_307 rfl (by decide +kernel) (c := 4) (by assumption) (by decide) rfl rfl rfl rfl rfl rfl ?_
    refine cB_takeNamed w1 h0 ?_
    show zR E _ _ X 14 _ _ _ _ _ _ _
    exact Kb1 _ _ i1 j1 c w e he
  have Kj : ∀ (k t0 t1 : Nat) (v1 : Int32) (i1 : Ni) (j1 : Nj), k < zn (N 5) → tNum B L (nI 0) (N 5 - nI 1) (sNext B L t) = .ok (t0, nI k) → tBa N B L t0 = .ok (t1, v1) → zG x b r L B N i0 j0 t1 i1 j1 → ∀ v : Int32, v = zb (¬ sDip N k v1 = 0) → zR E mX4_readDip (zZ E mX4_readDip K) X 37 [.ref x, .int (nI k), .int v1] [.int v, .ref x] g i1 j1 0 0 := by
    intro k t0 t1 v1 i1 j1 hk h0 h1 G1 v hv
    have k8 := hO.k8 hk
    subst hv
    refine r_cv1 (cu2 := 0) (su2 := 0) qX4_readDip_37 kX4_300 rfl (by decide +kernel) (c := 4) (by assumption) (by decide) rfl rfl rfl rfl rfl rfl ?_
    refine w_end (P := ¬ sDip N k v1 = 0) hW hrx G1 (fun t2 v2 h2 hp ia2 ja2 G2 => ?_) (fun c w h i2 j2 e => Kb2 _ _ i2 j2 c w e (by rw [mDip, h0, tB_o, zn_nI (show k < 2 ^ 31 by omega), h1, tB_o, h]; rfl))
    show zR E _ _ X 40 _ _ _ _ _ _ _
    refine r_aload_n qX4_readDip_40 rfl ?_
    refine r_cv0 (cu2 := 0) (su2 := 0) qX4_readDip_41 kX4_269 rfl (by decide +kernel) (c := 4) (by assumption) (by decide) rfl rfl rfl rfl rfl rfl ?_
    refine c_X4_isGood (by first | assumption | omega | rfl | decide) ?_
    show zR E _ _ X 44 _ _ _ _ _ _ _
    rw [zb_t (p := ia2 x 12 = 0) G2.z]
    refine r_if_eq (t := 55) qX4_readDip_44 (by decide) (fun hc44 => absurd hc44 (by decide)) (fun hc44 => ?_)
    refine r_aload_n qX4_readDip_47 rfl ?_
    refine r_iload_n qX4_readDip_48 rfl ?_
    refine r_bipush (v := nI 7) qX4_readDip_49 (by decide) ?_
    refine r_iload_n qX4_readDip_51 rfl ?_
    refine r_cv3 (cu2 := 0) (su2 := 0) qX4_readDip_52 kX4_137 rfl (by decide +kernel) (c := 4) (by assumption) (by decide) rfl rfl rfl rfl rfl rfl ?_
    refine c_X4_set0 (by first | assumption | omega | rfl | decide) (by first | assumption | omega | rfl | decide) ?_
    show zR E _ _ X 55 _ _ _ _ _ _ _
    refine r_vret qX4_readDip_55 rfl rfl rfl ?_
    refine hK _ _ ?_
    rw [mDip, h0, tB_o, zn_nI (show k < 2 ^ 31 by omega), h1, tB_o, h2, tB_o]
    exact G2.put hrx hrb (by rw [G2.row])
  refine r_aload_n qX4_readDip_0 rfl ?_
  refine r_cv0 (cu2 := 0) (su2 := 0) qX4_readDip_1 kX4_253 rfl (by decide +kernel) (c := 4) (by assumption) (by decide) rfl rfl rfl rfl rfl rfl ?_
  refine w_next hW hrx hG (fun iA jA GA => ?_)
  show zR E _ _ X 4 _ _ _ _ _ _ _
  refine r_aload_n qX4_readDip_4 rfl ?_
  refine r_cv0 (cu2 := 0) (su2 := 0) qX4_readDip_5 kX4_311 rfl (by decide +kernel) (c := 4) (by assumption) (by decide) rfl rfl rfl rfl rfl rfl ?_
  refine w_tube hW hM hrx GA (fun t0 v0 h0 ia0 ja0 G0 => ?_) (fun c w h u i2 j2 e => Kb0 u  i2 j2 c w e (by rw [mDip, h]; rfl))
  show zR E _ _ X 8 _ _ _ _ _ _ _
  obtain ⟨k, ek, hk⟩ := tTube_nat hO h0
  subst ek
  have k8 := hO.k8 hk
  refine r_is_3_1 qX4_readDip_8 rfl rfl ?_
  refine r_aload_n qX4_readDip_9 rfl ?_
  refine r_iconst (v := nI 0) qX4_readDip_10 (by decide) ?_
  refine r_cv1 (cu2 := 0) (su2 := 0) qX4_readDip_11 kX4_307 rfl (by decide +kernel) (c := 4) (by assumption) (by decide) rfl rfl rfl rfl rfl rfl ?_
  refine w_bath hW hM hrx hO G0 (fun t1 v1 h1 ia1 ja1 G1 => ?_) (fun c w h u i2 j2 e => Kb1 u _ i2 j2 c w e (by rw [mDip, h0, tB_o, zn_nI (show k < 2 ^ 31 by omega), h]; rfl))
  show zR E _ _ X 14 _ _ _ _ _ _ _
  refine r_is_3_2 qX4_readDip_14 rfl rfl ?_
  refine r_aload_n qX4_readDip_15 rfl ?_
  refine r_aload_n qX4_readDip_16 rfl ?_
  refine r_cv0 (cu2 := 0) (su2 := 0) qX4_readDip_17 kX4_269 rfl (by decide +kernel) (c := 4) (by assumption) (by decide) rfl rfl rfl rfl rfl rfl ?_
  refine c_X4_isGood (by first | assumption | omega | rfl | decide) ?_
  show zR E _ _ X 20 _ _ _ _ _ _ _
  rw [zb_t (p := ia1 x 12 = 0) G1.z]
  refine r_if_eq (t := 36) qX4_readDip_20 (by decide) (fun hc20 => absurd hc20 (by decide)) (fun hc20 => ?_)
  refine r_aload_n qX4_readDip_23 rfl ?_
  refine r_iload_n qX4_readDip_24 rfl ?_
  refine r_iload_n qX4_readDip_25 rfl ?_
  refine r_cv2 (cu2 := 0) (su2 := 0) qX4_readDip_26 kX4_314 rfl (by decide +kernel) (c := 4) (by assumption) (by decide) rfl rfl rfl rfl rfl rfl ?_
  refine c_X4_reasonToDip (by first | assumption | omega | rfl | decide) (by first | assumption | omega | rfl | decide) ?_
  show zR E _ _ X 29 _ _ _ _ _ _ _
  rw [G1.row]
  refine r_if_eq (t := 36) qX4_readDip_29 (by decide) (fun hc29 => ?_) (fun hc29 => ?_)
  · refine r_iconst (v := nI 0) qX4_readDip_36 (by decide) ?_
    first | exact Kj k t0 t1 v1 _ _ hk h0 h1 G1 _ (zb_f (p := ¬ sDip N k v1 = 0) (fun h => h hc29)).symm | exact Kj k t0 t1 v1 _ _ hk h0 h1 G1 _ (zb_t (p := ¬ sDip N k v1 = 0) hc29).symm
  · refine r_iconst (v := nI 1) qX4_readDip_32 (by decide) ?_
    refine r_goto (t := 37) qX4_readDip_33 (by decide) ?_
    first | exact Kj k t0 t1 v1 _ _ hk h0 h1 G1 _ (zb_f (p := ¬ sDip N k v1 = 0) (fun h => h hc29)).symm | exact Kj k t0 t1 v1 _ _ hk h0 h1 G1 _ (zb_t (p := ¬ sDip N k v1 = 0) hc29).symm
set_option maxHeartbeats 4000000 in
set_option maxRecDepth 20000 in
theorem c_X4_readLift {E : Ev} {g : Sh} {i : Ni} {j : Nj} {K : Kp} {x n d b p s o r L t : Nat} {B N : Nat → Int32} {i0 : Ni} {j0 : Nj}  (hW : zW g x n d b p s o) (hM : zM g x r) (hrx : r ≠ x) (hrb : r ≠ b) (hO : zOk N) (hG : zG x b r L B N i0 j0 t i j) (hK : ∀ i' j', zRes x b r L B i0 j0 (mLift N B L t) i' j' → K (.inl none) g i' j') : zCon E mX4_readLift [.ref x] g i j K := by
  refine zcon_of (by decide +kernel) rfl rfl (lo := [.ref x, zJ]) rfl (fun X => ?_)
  have w1 := hW.1
  obtain ⟨hM1, hM2, hM3, hM4⟩ := id hM
  have Kb1 : ∀ (y1 : Int32) (i1 : Ni) (j1 : Nj) (c : Int32) (w : Nat), zE x r i0 j0 c w i1 j1 → mLift N B L t = .error (c, w) → zR E mX4_readLift (zZ E mX4_readLift K) X 36 [.ref x, .int y1] [] g i1 j1 0 0 := by
    intro y1 i1 j1 c w e he
    have h0 := e.b
    refine r_aload_n qX4_readLift_36 rfl ?_
    refine r_cv0 (cu2 := 0) (su2 := 0) qX4_readLift_37 kX4_269 rfl (by decide +kernel) (c := 4) (by assumption) (by decide) rfl rfl rfl rfl rfl rfl ?_
    refine c_X4_isGood (by first | assumption | omega | rfl | decide) ?_
    show zR E _ _ X 40 _ _ _ _ _ _ _
    rw [zb_f (p := i1 x 12 = 0) h0]
    refine r_if_eq (t := 51) qX4_readLift_40 (by decide) (fun hc40 => ?_) (fun hc40 => absurd hc40 (by decide))
    refine r_vret qX4_readLift_51 rfl rfl rfl ?_
    refine hK _ _ ?_; rw [he]; exact e
  have Kb0 : ∀ (u : Int32) (i1 : Ni) (j1 : Nj) (c : Int32) (w : Nat), zE x r i0 j0 c w i1 j1 → mLift N B L t = .error (c, w) → zR E mX4_readLift (zZ E mX4_readLift K) X 8 [.ref x, zJ] [.int u] g i1 j1 0 0 := by
    intro u i1 j1 c w e he
    have h0 := e.b
    refine r_is_2_1 qX4_readLift_8 rfl rfl ?_
    refine r_aload_n qX4_readLift_9 rfl ?_
    refine r_aload_n qX4_readLift_10 rfl ?_
    refine r_cv0 (cu2 := 0) (su2 := 0) qX4_readLift_11 kX4_269 rfl (by decide +kernel) (c := 4) (by assumption) (by decide) rfl rfl rfl rfl rfl rfl ?_
    refine c_X4_isGood (by first | assumption | omega | rfl | decide) ?_
    show zR E _ _ X 14 _ _ _ _ _ _ _
    rw [zb_f (p := i1 x 12 = 0) h0]
    refine r_if_eq (t := 32) qX4_readLift_14 (by decide) (fun hc14 => ?_) (fun hc14 => absurd hc14 (by decide))
    refine r_iconst (v := nI 0) qX4_readLift_32 (by decide) ?_
    refine r_cv1 (cu2 := 0) (su2 := 0) qX4_readLift_33 kX4_300 rfl (by decide +kernel) (c := 4) (by assumption) (by decide) rfl rfl rfl rfl rfl rfl ?_
    refine cB_takeEnd w1 h0 ?_
    show zR E _ _ X 36 _ _ _ _ _ _ _
    exact Kb1 _ i1 j1 c w e he
  have Kj : ∀ (k t0 : Nat) (i1 : Ni) (j1 : Nj), k < zn (N 5) → tNum B L (nI 0) (N 5 - nI 1) (sNext B L t) = .ok (t0, nI k) → zG x b r L B N i0 j0 t0 i1 j1 → ∀ v : Int32, v = zb (N (42 + 21 * k + 7) = -1) → zR E mX4_readLift (zZ E mX4_readLift K) X 33 [.ref x, .int (nI k)] [.int v, .ref x] g i1 j1 0 0 := by
    intro k t0 i1 j1 hk h0 G0 v hv
    have k8 := hO.k8 hk
    subst hv
    refine r_cv1 (cu2 := 0) (su2 := 0) qX4_readLift_33 kX4_300 rfl (by decide +kernel) (c := 4) (by assumption) (by decide) rfl rfl rfl rfl rfl rfl ?_
    refine w_end (P := N (42 + 21 * k + 7) = -1) hW hrx G0 (fun t1 v1 h1 hp ia1 ja1 G1 => ?_) (fun c w h i2 j2 e => Kb1 _ i2 j2 c w e (by rw [mLift, h0, tB_o, zn_nI (show k < 2 ^ 31 by omega), h]; rfl))
    show zR E _ _ X 36 _ _ _ _ _ _ _
    refine r_aload_n qX4_readLift_36 rfl ?_
    refine r_cv0 (cu2 := 0) (su2 := 0) qX4_readLift_37 kX4_269 rfl (by decide +kernel) (c := 4) (by assumption) (by decide) rfl rfl rfl rfl rfl rfl ?_
    refine c_X4_isGood (by first | assumption | omega | rfl | decide) ?_
    show zR E _ _ X 40 _ _ _ _ _ _ _
    rw [zb_t (p := ia1 x 12 = 0) G1.z]
    refine r_if_eq (t := 51) qX4_readLift_40 (by decide) (fun hc40 => absurd hc40 (by decide)) (fun hc40 => ?_)
    refine r_aload_n qX4_readLift_43 rfl ?_
    refine r_iload_n qX4_readLift_44 rfl ?_
    refine r_bipush (v := nI 7) qX4_readLift_45 (by decide) ?_
    refine r_iconst (v := (-1)) qX4_readLift_47 (by decide) ?_
    refine r_cv3 (cu2 := 0) (su2 := 0) qX4_readLift_48 kX4_137 rfl (by decide +kernel) (c := 4) (by assumption) (by decide) rfl rfl rfl rfl rfl rfl ?_
    refine c_X4_set0 (by first | assumption | omega | rfl | decide) (by first | assumption | omega | rfl | decide) ?_
    show zR E _ _ X 51 _ _ _ _ _ _ _
    refine r_vret qX4_readLift_51 rfl rfl rfl ?_
    refine hK _ _ ?_
    rw [mLift, h0, tB_o, zn_nI (show k < 2 ^ 31 by omega), h1, tB_o]
    exact G1.put hrx hrb (by rw [G1.row])
  refine r_aload_n qX4_readLift_0 rfl ?_
  refine r_cv0 (cu2 := 0) (su2 := 0) qX4_readLift_1 kX4_253 rfl (by decide +kernel) (c := 4) (by assumption) (by decide) rfl rfl rfl rfl rfl rfl ?_
  refine w_next hW hrx hG (fun iA jA GA => ?_)
  show zR E _ _ X 4 _ _ _ _ _ _ _
  refine r_aload_n qX4_readLift_4 rfl ?_
  refine r_cv0 (cu2 := 0) (su2 := 0) qX4_readLift_5 kX4_311 rfl (by decide +kernel) (c := 4) (by assumption) (by decide) rfl rfl rfl rfl rfl rfl ?_
  refine w_tube hW hM hrx GA (fun t0 v0 h0 ia0 ja0 G0 => ?_) (fun c w h u i2 j2 e => Kb0 u  i2 j2 c w e (by rw [mLift, h]; rfl))
  show zR E _ _ X 8 _ _ _ _ _ _ _
  obtain ⟨k, ek, hk⟩ := tTube_nat hO h0
  subst ek
  have k8 := hO.k8 hk
  refine r_is_2_1 qX4_readLift_8 rfl rfl ?_
  refine r_aload_n qX4_readLift_9 rfl ?_
  refine r_aload_n qX4_readLift_10 rfl ?_
  refine r_cv0 (cu2 := 0) (su2 := 0) qX4_readLift_11 kX4_269 rfl (by decide +kernel) (c := 4) (by assumption) (by decide) rfl rfl rfl rfl rfl rfl ?_
  refine c_X4_isGood (by first | assumption | omega | rfl | decide) ?_
  show zR E _ _ X 14 _ _ _ _ _ _ _
  rw [zb_t (p := ia0 x 12 = 0) G0.z]
  refine r_if_eq (t := 32) qX4_readLift_14 (by decide) (fun hc14 => absurd hc14 (by decide)) (fun hc14 => ?_)
  refine r_aload_n qX4_readLift_17 rfl ?_
  refine r_iload_n qX4_readLift_18 rfl ?_
  refine r_bipush (v := nI 7) qX4_readLift_19 (by decide) ?_
  refine r_cv2 (cu2 := 0) (su2 := 0) qX4_readLift_21 kX4_148 rfl (by decide +kernel) (c := 4) (by assumption) (by decide) rfl rfl rfl rfl rfl rfl ?_
  refine c_X4_of (by first | assumption | omega | rfl | decide) (by first | assumption | omega | rfl | decide) ?_
  show zR E _ _ X 24 _ _ _ _ _ _ _
  refine r_iconst (v := (-1)) qX4_readLift_24 (by decide) ?_
  rw [G0.row]
  refine r_icmp_ne (t := 32) qX4_readLift_25 (by decide) (fun hc25 => ?_) (fun hc25 => ?_)
  · refine r_iconst (v := nI 0) qX4_readLift_32 (by decide) ?_
    first | exact Kj k t0 _ _ hk h0 G0 _ (by rw [zb_f hc25]) | exact Kj k t0 _ _ hk h0 G0 _ (by rw [zb_t hc25])
  · refine r_iconst (v := nI 1) qX4_readLift_28 (by decide) ?_
    refine r_goto (t := 33) qX4_readLift_29 (by decide) ?_
    first | exact Kj k t0 _ _ hk h0 G0 _ (by rw [zb_f hc25]) | exact Kj k t0 _ _ hk h0 G0 _ (by rw [zb_t hc25])
set_option maxHeartbeats 4000000 in
set_option maxRecDepth 20000 in
theorem c_X4_readMark {E : Ev} {g : Sh} {i : Ni} {j : Nj} {K : Kp} {x n d b p s o r L t : Nat} {B N : Nat → Int32} {i0 : Ni} {j0 : Nj}  (hW : zW g x n d b p s o) (hM : zM g x r) (hrx : r ≠ x) (hrb : r ≠ b) (hO : zOk N) (hG : zG x b r L B N i0 j0 t i j) (hK : ∀ i' j', zRes x b r L B i0 j0 (mMark N B L t) i' j' → K (.inl none) g i' j') : zCon E mX4_readMark [.ref x] g i j K := by
  refine zcon_of (by decide +kernel) rfl rfl (lo := [.ref x, zJ, zJ]) rfl (fun X => ?_)
  have w1 := hW.1
  obtain ⟨hM1, hM2, hM3, hM4⟩ := id hM
  have Kb1 : ∀ (y1 : Int32) (i1 : Ni) (j1 : Nj) (c : Int32) (w : Nat), zE x r i0 j0 c w i1 j1 → mMark N B L t = .error (c, w) → zR E mX4_readMark (zZ E mX4_readMark K) X 33 [.ref x, .int y1, zJ] [] g i1 j1 0 0 := by
    intro y1 i1 j1 c w e he
    have h0 := e.b
    refine r_aload_n qX4_readMark_33 rfl ?_
    refine r_cv0 (cu2 := 0) (su2 := 0) qX4_readMark_34 kX4_269 rfl (by decide +kernel) (c := 4) (by assumption) (by decide) rfl rfl rfl rfl rfl rfl ?_
    refine c_X4_isGood (by first | assumption | omega | rfl | decide) ?_
    show zR E _ _ X 37 _ _ _ _ _ _ _
    rw [zb_f (p := i1 x 12 = 0) h0]
    refine r_if_eq (t := 46) qX4_readMark_37 (by decide) (fun hc37 => ?_) (fun hc37 => absurd hc37 (by decide))
    refine r_vret qX4_readMark_46 rfl rfl rfl ?_
    refine hK _ _ ?_; rw [he]; exact e
  have Kb0 : ∀ (u : Int32) (i1 : Ni) (j1 : Nj) (c : Int32) (w : Nat), zE x r i0 j0 c w i1 j1 → mMark N B L t = .error (c, w) → zR E mX4_readMark (zZ E mX4_readMark K) X 8 [.ref x, zJ, zJ] [.int u] g i1 j1 0 0 := by
    intro u i1 j1 c w e he
    have h0 := e.b
    refine r_is_3_1 qX4_readMark_8 rfl rfl ?_
    refine r_aload_n qX4_readMark_9 rfl ?_
    refine r_aload_n qX4_readMark_10 rfl ?_
    refine r_cv0 (cu2 := 0) (su2 := 0) qX4_readMark_11 kX4_269 rfl (by decide +kernel) (c := 4) (by assumption) (by decide) rfl rfl rfl rfl rfl rfl ?_
    refine c_X4_isGood (by first | assumption | omega | rfl | decide) ?_
    show zR E _ _ X 14 _ _ _ _ _ _ _
    rw [zb_f (p := i1 x 12 = 0) h0]
    refine r_if_eq (t := 29) qX4_readMark_14 (by decide) (fun hc14 => ?_) (fun hc14 => absurd hc14 (by decide))
    refine r_iconst (v := nI 0) qX4_readMark_29 (by decide) ?_
    refine r_cv1 (cu2 := 0) (su2 := 0) qX4_readMark_30 kX4_300 rfl (by decide +kernel) (c := 4) (by assumption) (by decide) rfl rfl rfl rfl rfl rfl ?_
    refine cB_takeEnd w1 h0 ?_
    show zR E _ _ X 33 _ _ _ _ _ _ _
    exact Kb1 _ i1 j1 c w e he
  have Kj : ∀ (k t0 : Nat) (i1 : Ni) (j1 : Nj), k < zn (N 5) → tNum B L (nI 0) (N 5 - nI 1) (sNext B L t) = .ok (t0, nI k) → zG x b r L B N i0 j0 t0 i1 j1 → ∀ v : Int32, v = zb (¬ sMark N k = 0) → zR E mX4_readMark (zZ E mX4_readMark K) X 30 [.ref x, .int (nI k), zJ] [.int v, .ref x] g i1 j1 0 0 := by
    intro k t0 i1 j1 hk h0 G0 v hv
    have k8 := hO.k8 hk
    subst hv
    refine r_cv1 (cu2 := 0) (su2 := 0) qX4_readMark_30 kX4_300 rfl (by decide +kernel) (c := 4) (by assumption) (by decide) rfl rfl rfl rfl rfl rfl ?_
    refine w_end (P := ¬ sMark N k = 0) hW hrx G0 (fun t1 v1 h1 hp ia1 ja1 G1 => ?_) (fun c w h i2 j2 e => Kb1 _ i2 j2 c w e (by rw [mMark, h0, tB_o, zn_nI (show k < 2 ^ 31 by omega), h]; rfl))
    show zR E _ _ X 33 _ _ _ _ _ _ _
    obtain ⟨b0, hb0, hb4, hm5⟩ := sMark_0 hO hk (Classical.not_not.mp hp)
    have hm := hO.many hk
    refine r_aload_n qX4_readMark_33 rfl ?_
    refine r_cv0 (cu2 := 0) (su2 := 0) qX4_readMark_34 kX4_269 rfl (by decide +kernel) (c := 4) (by assumption) (by decide) rfl rfl rfl rfl rfl rfl ?_
    refine c_X4_isGood (by first | assumption | omega | rfl | decide) ?_
    show zR E _ _ X 37 _ _ _ _ _ _ _
    rw [zb_t (p := ia1 x 12 = 0) G1.z]
    refine r_if_eq (t := 46) qX4_readMark_37 (by decide) (fun hc37 => absurd hc37 (by decide)) (fun hc37 => ?_)
    refine r_aload_n qX4_readMark_40 rfl ?_
    refine r_iload_n qX4_readMark_41 rfl ?_
    refine r_cv1 (cu2 := 0) (su2 := 0) qX4_readMark_42 kX4_144 rfl (by decide +kernel) (c := 4) (by assumption) (by decide) rfl rfl rfl rfl rfl rfl ?_
    refine c_X4_markNow hM (by rw [G1.row]; exact hO.f hk) (by rw [G1.row]; exact hm.1) (by rw [G1.row]; exact hm5) (by rw [G1.row]; exact hb0) hb4 ?_
    show zR E _ _ X 45 _ _ _ _ _ _ _
    refine r_is_3_2 qX4_readMark_45 rfl rfl ?_
    refine r_vret qX4_readMark_46 rfl rfl rfl ?_
    refine hK _ _ ?_
    rw [mMark, h0, tB_o, zn_nI (show k < 2 ^ 31 by omega), h1, tB_o]
    exact G1.put hrx hrb (by rw [G1.row])
  refine r_aload_n qX4_readMark_0 rfl ?_
  refine r_cv0 (cu2 := 0) (su2 := 0) qX4_readMark_1 kX4_253 rfl (by decide +kernel) (c := 4) (by assumption) (by decide) rfl rfl rfl rfl rfl rfl ?_
  refine w_next hW hrx hG (fun iA jA GA => ?_)
  show zR E _ _ X 4 _ _ _ _ _ _ _
  refine r_aload_n qX4_readMark_4 rfl ?_
  refine r_cv0 (cu2 := 0) (su2 := 0) qX4_readMark_5 kX4_311 rfl (by decide +kernel) (c := 4) (by assumption) (by decide) rfl rfl rfl rfl rfl rfl ?_
  refine w_tube hW hM hrx GA (fun t0 v0 h0 ia0 ja0 G0 => ?_) (fun c w h u i2 j2 e => Kb0 u  i2 j2 c w e (by rw [mMark, h]; rfl))
  show zR E _ _ X 8 _ _ _ _ _ _ _
  obtain ⟨k, ek, hk⟩ := tTube_nat hO h0
  subst ek
  have k8 := hO.k8 hk
  refine r_is_3_1 qX4_readMark_8 rfl rfl ?_
  refine r_aload_n qX4_readMark_9 rfl ?_
  refine r_aload_n qX4_readMark_10 rfl ?_
  refine r_cv0 (cu2 := 0) (su2 := 0) qX4_readMark_11 kX4_269 rfl (by decide +kernel) (c := 4) (by assumption) (by decide) rfl rfl rfl rfl rfl rfl ?_
  refine c_X4_isGood (by first | assumption | omega | rfl | decide) ?_
  show zR E _ _ X 14 _ _ _ _ _ _ _
  rw [zb_t (p := ia0 x 12 = 0) G0.z]
  refine r_if_eq (t := 29) qX4_readMark_14 (by decide) (fun hc14 => absurd hc14 (by decide)) (fun hc14 => ?_)
  refine r_aload_n qX4_readMark_17 rfl ?_
  refine r_iload_n qX4_readMark_18 rfl ?_
  refine r_cv1 (cu2 := 0) (su2 := 0) qX4_readMark_19 kX4_317 rfl (by decide +kernel) (c := 4) (by assumption) (by decide) rfl rfl rfl rfl rfl rfl ?_
  refine c_X4_reasonToMark hM (by rw [G0.row]; exact hO) (by rw [G0.row]; exact hk) ?_
  show zR E _ _ X 22 _ _ _ _ _ _ _
  rw [G0.row]
  refine r_if_eq (t := 29) qX4_readMark_22 (by decide) (fun hc22 => ?_) (fun hc22 => ?_)
  · refine r_iconst (v := nI 0) qX4_readMark_29 (by decide) ?_
    first | exact Kj k t0 _ _ hk h0 G0 _ (zb_f (p := ¬ sMark N k = 0) (fun h => h hc22)).symm | exact Kj k t0 _ _ hk h0 G0 _ (zb_t (p := ¬ sMark N k = 0) hc22).symm
  · refine r_iconst (v := nI 1) qX4_readMark_25 (by decide) ?_
    refine r_goto (t := 30) qX4_readMark_26 (by decide) ?_
    first | exact Kj k t0 _ _ hk h0 G0 _ (zb_f (p := ¬ sMark N k = 0) (fun h => h hc22)).symm | exact Kj k t0 _ _ hk h0 G0 _ (zb_t (p := ¬ sMark N k = 0) hc22).symm
set_option maxHeartbeats 4000000 in
set_option maxRecDepth 20000 in
theorem c_X4_readThumb {E : Ev} {g : Sh} {i : Ni} {j : Nj} {K : Kp} {x n d b p s o r L t : Nat} {B N : Nat → Int32} {i0 : Ni} {j0 : Nj}  (hW : zW g x n d b p s o) (hM : zM g x r) (hrx : r ≠ x) (hrb : r ≠ b) (hO : zOk N) (hG : zG x b r L B N i0 j0 t i j) (hK : ∀ i' j', zRes x b r L B i0 j0 (mThumb N B L t) i' j' → K (.inl none) g i' j') : zCon E mX4_readThumb [.ref x] g i j K := by
  refine zcon_of (by decide +kernel) rfl rfl (lo := [.ref x, zJ, zJ]) rfl (fun X => ?_)
  have w1 := hW.1
  obtain ⟨hM1, hM2, hM3, hM4⟩ := id hM
  have Kb2 : ∀ (y1 : Int32) (y2 : Int32) (i1 : Ni) (j1 : Nj) (c : Int32) (w : Nat), zE x r i0 j0 c w i1 j1 → mThumb N B L t = .error (c, w) → zR E mX4_readThumb (zZ E mX4_readThumb K) X 22 [.ref x, .int y1, .int y2] [] g i1 j1 0 0 := by
    intro y1 y2 i1 j1 c w e he
    have h0 := e.b
    refine r_aload_n qX4_readThumb_22 rfl ?_
    refine r_cv0 (cu2 := 0) (su2 := 0) qX4_readThumb_23 kX4_269 rfl (by decide +kernel) (c := 4) (by assumption) (by decide) rfl rfl rfl rfl rfl rfl ?_
    refine c_X4_isGood (by first | assumption | omega | rfl | decide) ?_
    show zR E _ _ X 26 _ _ _ _ _ _ _
    rw [zb_f (p := i1 x 12 = 0) h0]
    refine r_if_eq (t := 45) qX4_readThumb_26 (by decide) (fun hc26 => ?_) (fun hc26 => absurd hc26 (by decide))
    refine r_vret qX4_readThumb_45 rfl rfl rfl ?_
    refine hK _ _ ?_; rw [he]; exact e
  have Kb1 : ∀ (u : Int32) (y1 : Int32) (i1 : Ni) (j1 : Nj) (c : Int32) (w : Nat), zE x r i0 j0 c w i1 j1 → mThumb N B L t = .error (c, w) → zR E mX4_readThumb (zZ E mX4_readThumb K) X 16 [.ref x, .int y1, zJ] [.int u] g i1 j1 0 0 := by
    intro u y1 i1 j1 c w e he
    have h0 := e.b
    refine r_is_3_2 qX4_readThumb_16 rfl rfl ?_
    refine r_aload_n qX4_readThumb_17 rfl ?_
    refine r_iconst (v := nI 0) qX4_readThumb_18 (by decide) ?_
    refine r_cv1 (cu2 := 0) (su2 := 0) qX4_readThumb_19 kX4_300 rfl (by decide +kernel) (c := 4) (by assumption) (by decide) rfl rfl rfl rfl rfl rfl ?_
    refine cB_takeEnd w1 h0 ?_
    show zR E _ _ X 22 _ _ _ _ _ _ _
    exact Kb2 _ _ i1 j1 c w e he
  have Kb0 : ∀ (u : Int32) (i1 : Ni) (j1 : Nj) (c : Int32) (w : Nat), zE x r i0 j0 c w i1 j1 → mThumb N B L t = .error (c, w) → zR E mX4_readThumb (zZ E mX4_readThumb K) X 8 [.ref x, zJ, zJ] [.int u] g i1 j1 0 0 := by
    intro u i1 j1 c w e he
    have h0 := e.b
    refine r_is_3_1 qX4_readThumb_8 rfl rfl ?_
    refine r_aload_n qX4_readThumb_9 rfl ?_
    refine r_iconst (v := nI 1) qX4_readThumb_10 (by decide) ?_
    refine r_bipush (v := nI 60) qX4_readThumb_11 (by decide) ?_
    refine r_cv2 (cu2 := 0) (su2 := 0) qX4_readThumb_13 kX4_280 rfl (by decide +kernel) (c := 4) (by assumption) (by decide) rfl rfl rfl rfl rfl rfl ?_
    refine cB_takeNumber w1 h0 ?_
    show zR E _ _ X 16 _ _ _ _ _ _ _
    exact Kb1 _ _ i1 j1 c w e he
  refine r_aload_n qX4_readThumb_0 rfl ?_
  refine r_cv0 (cu2 := 0) (su2 := 0) qX4_readThumb_1 kX4_253 rfl (by decide +kernel) (c := 4) (by assumption) (by decide) rfl rfl rfl rfl rfl rfl ?_
  refine w_next hW hrx hG (fun iA jA GA => ?_)
  show zR E _ _ X 4 _ _ _ _ _ _ _
  refine r_aload_n qX4_readThumb_4 rfl ?_
  refine r_cv0 (cu2 := 0) (su2 := 0) qX4_readThumb_5 kX4_311 rfl (by decide +kernel) (c := 4) (by assumption) (by decide) rfl rfl rfl rfl rfl rfl ?_
  refine w_tube hW hM hrx GA (fun t0 v0 h0 ia0 ja0 G0 => ?_) (fun c w h u i2 j2 e => Kb0 u  i2 j2 c w e (by rw [mThumb, h]; rfl))
  show zR E _ _ X 8 _ _ _ _ _ _ _
  obtain ⟨k, ek, hk⟩ := tTube_nat hO h0
  subst ek
  have k8 := hO.k8 hk
  refine r_is_3_1 qX4_readThumb_8 rfl rfl ?_
  refine r_aload_n qX4_readThumb_9 rfl ?_
  refine r_iconst (v := nI 1) qX4_readThumb_10 (by decide) ?_
  refine r_bipush (v := nI 60) qX4_readThumb_11 (by decide) ?_
  refine r_cv2 (cu2 := 0) (su2 := 0) qX4_readThumb_13 kX4_280 rfl (by decide +kernel) (c := 4) (by assumption) (by decide) rfl rfl rfl rfl rfl rfl ?_
  refine w_num hW hrx G0 (fun t1 v1 h1 ia1 ja1 G1 => ?_) (fun c w h u i2 j2 e => Kb1 u _ i2 j2 c w e (by rw [mThumb, h0, tB_o, zn_nI (show k < 2 ^ 31 by omega), h]; rfl))
  show zR E _ _ X 16 _ _ _ _ _ _ _
  refine r_is_3_2 qX4_readThumb_16 rfl rfl ?_
  refine r_aload_n qX4_readThumb_17 rfl ?_
  refine r_iconst (v := nI 0) qX4_readThumb_18 (by decide) ?_
  refine r_cv1 (cu2 := 0) (su2 := 0) qX4_readThumb_19 kX4_300 rfl (by decide +kernel) (c := 4) (by assumption) (by decide) rfl rfl rfl rfl rfl rfl ?_
  refine w_end (P := False) (dP := instDecidableFalse) hW hrx G1 (fun t2 v2 h2 hp ia2 ja2 G2 => ?_) (fun c w h i2 j2 e => Kb2 _ _ i2 j2 c w e (by rw [mThumb, h0, tB_o, zn_nI (show k < 2 ^ 31 by omega), h1, tB_o, h]; rfl))
  show zR E _ _ X 22 _ _ _ _ _ _ _
  refine r_aload_n qX4_readThumb_22 rfl ?_
  refine r_cv0 (cu2 := 0) (su2 := 0) qX4_readThumb_23 kX4_269 rfl (by decide +kernel) (c := 4) (by assumption) (by decide) rfl rfl rfl rfl rfl rfl ?_
  refine c_X4_isGood (by first | assumption | omega | rfl | decide) ?_
  show zR E _ _ X 26 _ _ _ _ _ _ _
  rw [zb_t (p := ia2 x 12 = 0) G2.z]
  refine r_if_eq (t := 45) qX4_readThumb_26 (by decide) (fun hc26 => absurd hc26 (by decide)) (fun hc26 => ?_)
  refine r_aload_n qX4_readThumb_29 rfl ?_
  refine r_getr qX4_readThumb_30 fX4_24 rfl (by assumption) (by first | assumption | rfl) ?_
  refine r_bipush (v := nI 6) qX4_readThumb_33 (by decide) ?_
  refine r_iload_n qX4_readThumb_35 rfl ?_
  refine r_iastN qX4_readThumb_36 (by assumption) (by assumption) (by omega) rfl ?_
  refine r_aload_n qX4_readThumb_37 rfl ?_
  refine r_getr qX4_readThumb_38 fX4_24 rfl (by assumption) (by first | assumption | rfl) ?_
  refine r_bipush (v := nI 7) qX4_readThumb_41 (by decide) ?_
  refine r_iload_n qX4_readThumb_43 rfl ?_
  refine r_iastN qX4_readThumb_44 (by assumption) (by assumption) (by omega) rfl ?_
  simp only [wA_s, wA_wA]
  refine r_vret qX4_readThumb_45 rfl rfl rfl ?_
  refine hK _ _ ?_
  rw [mThumb, h0, tB_o, zn_nI (show k < 2 ^ 31 by omega), h1, tB_o, h2, tB_o]
  rw [aThumb]; exact G2.put hrx hrb (by rw [G2.row])
set_option maxHeartbeats 4000000 in
set_option maxRecDepth 20000 in
theorem c_X4_readFill {E : Ev} {g : Sh} {i : Ni} {j : Nj} {K : Kp} {x n d b p s o r L t : Nat} {B N : Nat → Int32} {i0 : Ni} {j0 : Nj}  (hW : zW g x n d b p s o) (hM : zM g x r) (hrx : r ≠ x) (hrb : r ≠ b) (hO : zOk N) (hG : zG x b r L B N i0 j0 t i j) (hK : ∀ i' j', zRes x b r L B i0 j0 (mFill N B L t) i' j' → K (.inl none) g i' j') : zCon E mX4_readFill [.ref x] g i j K := by
  refine zcon_of (by decide +kernel) rfl rfl (lo := [.ref x, zJ, zJ]) rfl (fun X => ?_)
  have w1 := hW.1
  obtain ⟨hM1, hM2, hM3, hM4⟩ := id hM
  have Kb2 : ∀ (y1 : Int32) (y2 : Int32) (i1 : Ni) (j1 : Nj) (c : Int32) (w : Nat), zE x r i0 j0 c w i1 j1 → mFill N B L t = .error (c, w) → zR E mX4_readFill (zZ E mX4_readFill K) X 48 [.ref x, .int y1, .int y2] [] g i1 j1 0 0 := by
    intro y1 y2 i1 j1 c w e he
    have h0 := e.b
    refine r_aload_n qX4_readFill_48 rfl ?_
    refine r_cv0 (cu2 := 0) (su2 := 0) qX4_readFill_49 kX4_269 rfl (by decide +kernel) (c := 4) (by assumption) (by decide) rfl rfl rfl rfl rfl rfl ?_
    refine c_X4_isGood (by first | assumption | omega | rfl | decide) ?_
    show zR E _ _ X 52 _ _ _ _ _ _ _
    rw [zb_f (p := i1 x 12 = 0) h0]
    refine r_if_eq (t := 61) qX4_readFill_52 (by decide) (fun hc52 => ?_) (fun hc52 => absurd hc52 (by decide))
    refine r_vret qX4_readFill_61 rfl rfl rfl ?_
    refine hK _ _ ?_; rw [he]; exact e
  have Kb1 : ∀ (u : Int32) (y1 : Int32) (i1 : Ni) (j1 : Nj) (c : Int32) (w : Nat), zE x r i0 j0 c w i1 j1 → mFill N B L t = .error (c, w) → zR E mX4_readFill (zZ E mX4_readFill K) X 17 [.ref x, .int y1, zJ] [.int u] g i1 j1 0 0 := by
    intro u y1 i1 j1 c w e he
    have h0 := e.b
    refine r_is_3_2 qX4_readFill_17 rfl rfl ?_
    refine r_aload_n qX4_readFill_18 rfl ?_
    refine r_aload_n qX4_readFill_19 rfl ?_
    refine r_cv0 (cu2 := 0) (su2 := 0) qX4_readFill_20 kX4_269 rfl (by decide +kernel) (c := 4) (by assumption) (by decide) rfl rfl rfl rfl rfl rfl ?_
    refine c_X4_isGood (by first | assumption | omega | rfl | decide) ?_
    show zR E _ _ X 23 _ _ _ _ _ _ _
    rw [zb_f (p := i1 x 12 = 0) h0]
    refine r_if_eq (t := 44) qX4_readFill_23 (by decide) (fun hc23 => ?_) (fun hc23 => absurd hc23 (by decide))
    refine r_iconst (v := nI 0) qX4_readFill_44 (by decide) ?_
    refine r_cv1 (cu2 := 0) (su2 := 0) qX4_readFill_45 kX4_300 rfl (by decide +kernel) (c := 4) (by assumption) (by decide) rfl rfl rfl rfl rfl rfl ?_
    refine cB_takeEnd w1 h0 ?_
    show zR E _ _ X 48 _ _ _ _ _ _ _
    exact Kb2 _ _ i1 j1 c w e he
  have Kb0 : ∀ (u : Int32) (i1 : Ni) (j1 : Nj) (c : Int32) (w : Nat), zE x r i0 j0 c w i1 j1 → mFill N B L t = .error (c, w) → zR E mX4_readFill (zZ E mX4_readFill K) X 8 [.ref x, zJ, zJ] [.int u] g i1 j1 0 0 := by
    intro u i1 j1 c w e he
    have h0 := e.b
    refine r_is_3_1 qX4_readFill_8 rfl rfl ?_
    refine r_aload_n qX4_readFill_9 rfl ?_
    refine r_iconst (v := nI 1) qX4_readFill_10 (by decide) ?_
    refine r_sipush (v := nI 999) qX4_readFill_11 (by decide) ?_
    refine r_cv2 (cu2 := 0) (su2 := 0) qX4_readFill_14 kX4_280 rfl (by decide +kernel) (c := 4) (by assumption) (by decide) rfl rfl rfl rfl rfl rfl ?_
    refine cB_takeNumber w1 h0 ?_
    show zR E _ _ X 17 _ _ _ _ _ _ _
    exact Kb1 _ _ i1 j1 c w e he
  have Kj : ∀ (k t0 t1 : Nat) (v1 : Int32) (i1 : Ni) (j1 : Nj), k < zn (N 5) → tNum B L (nI 0) (N 5 - nI 1) (sNext B L t) = .ok (t0, nI k) → tNum B L (nI 1) (nI 999) t0 = .ok (t1, v1) → zG x b r L B N i0 j0 t1 i1 j1 → ∀ v : Int32, v = zb (nI 999 < N (42 + 21 * k + 4) + v1) → zR E mX4_readFill (zZ E mX4_readFill K) X 45 [.ref x, .int (nI k), .int v1] [.int v, .ref x] g i1 j1 0 0 := by
    intro k t0 t1 v1 i1 j1 hk h0 h1 G1 v hv
    have k8 := hO.k8 hk
    subst hv
    refine r_cv1 (cu2 := 0) (su2 := 0) qX4_readFill_45 kX4_300 rfl (by decide +kernel) (c := 4) (by assumption) (by decide) rfl rfl rfl rfl rfl rfl ?_
    refine w_end (P := nI 999 < N (42 + 21 * k + 4) + v1) hW hrx G1 (fun t2 v2 h2 hp ia2 ja2 G2 => ?_) (fun c w h i2 j2 e => Kb2 _ _ i2 j2 c w e (by rw [mFill, h0, tB_o, zn_nI (show k < 2 ^ 31 by omega), h1, tB_o, h]; rfl))
    show zR E _ _ X 48 _ _ _ _ _ _ _
    refine r_aload_n qX4_readFill_48 rfl ?_
    refine r_cv0 (cu2 := 0) (su2 := 0) qX4_readFill_49 kX4_269 rfl (by decide +kernel) (c := 4) (by assumption) (by decide) rfl rfl rfl rfl rfl rfl ?_
    refine c_X4_isGood (by first | assumption | omega | rfl | decide) ?_
    show zR E _ _ X 52 _ _ _ _ _ _ _
    rw [zb_t (p := ia2 x 12 = 0) G2.z]
    refine r_if_eq (t := 61) qX4_readFill_52 (by decide) (fun hc52 => absurd hc52 (by decide)) (fun hc52 => ?_)
    refine r_aload_n qX4_readFill_55 rfl ?_
    refine r_iload_n qX4_readFill_56 rfl ?_
    refine r_iload_n qX4_readFill_57 rfl ?_
    refine r_cv2 (cu2 := 0) (su2 := 0) qX4_readFill_58 kX4_320 rfl (by decide +kernel) (c := 4) (by assumption) (by decide) rfl rfl rfl rfl rfl rfl ?_
    refine c_X4_pour (by first | assumption | omega | rfl | decide) (by first | assumption | omega | rfl | decide) ?_
    show zR E _ _ X 61 _ _ _ _ _ _ _
    refine r_vret qX4_readFill_61 rfl rfl rfl ?_
    refine hK _ _ ?_
    rw [mFill, h0, tB_o, zn_nI (show k < 2 ^ 31 by omega), h1, tB_o, h2, tB_o]
    exact G2.put hrx hrb (by rw [G2.row])
  refine r_aload_n qX4_readFill_0 rfl ?_
  refine r_cv0 (cu2 := 0) (su2 := 0) qX4_readFill_1 kX4_253 rfl (by decide +kernel) (c := 4) (by assumption) (by decide) rfl rfl rfl rfl rfl rfl ?_
  refine w_next hW hrx hG (fun iA jA GA => ?_)
  show zR E _ _ X 4 _ _ _ _ _ _ _
  refine r_aload_n qX4_readFill_4 rfl ?_
  refine r_cv0 (cu2 := 0) (su2 := 0) qX4_readFill_5 kX4_311 rfl (by decide +kernel) (c := 4) (by assumption) (by decide) rfl rfl rfl rfl rfl rfl ?_
  refine w_tube hW hM hrx GA (fun t0 v0 h0 ia0 ja0 G0 => ?_) (fun c w h u i2 j2 e => Kb0 u  i2 j2 c w e (by rw [mFill, h]; rfl))
  show zR E _ _ X 8 _ _ _ _ _ _ _
  obtain ⟨k, ek, hk⟩ := tTube_nat hO h0
  subst ek
  have k8 := hO.k8 hk
  refine r_is_3_1 qX4_readFill_8 rfl rfl ?_
  refine r_aload_n qX4_readFill_9 rfl ?_
  refine r_iconst (v := nI 1) qX4_readFill_10 (by decide) ?_
  refine r_sipush (v := nI 999) qX4_readFill_11 (by decide) ?_
  refine r_cv2 (cu2 := 0) (su2 := 0) qX4_readFill_14 kX4_280 rfl (by decide +kernel) (c := 4) (by assumption) (by decide) rfl rfl rfl rfl rfl rfl ?_
  refine w_num hW hrx G0 (fun t1 v1 h1 ia1 ja1 G1 => ?_) (fun c w h u i2 j2 e => Kb1 u _ i2 j2 c w e (by rw [mFill, h0, tB_o, zn_nI (show k < 2 ^ 31 by omega), h]; rfl))
  show zR E _ _ X 17 _ _ _ _ _ _ _
  refine r_is_3_2 qX4_readFill_17 rfl rfl ?_
  refine r_aload_n qX4_readFill_18 rfl ?_
  refine r_aload_n qX4_readFill_19 rfl ?_
  refine r_cv0 (cu2 := 0) (su2 := 0) qX4_readFill_20 kX4_269 rfl (by decide +kernel) (c := 4) (by assumption) (by decide) rfl rfl rfl rfl rfl rfl ?_
  refine c_X4_isGood (by first | assumption | omega | rfl | decide) ?_
  show zR E _ _ X 23 _ _ _ _ _ _ _
  rw [zb_t (p := ia1 x 12 = 0) G1.z]
  refine r_if_eq (t := 44) qX4_readFill_23 (by decide) (fun hc23 => absurd hc23 (by decide)) (fun hc23 => ?_)
  refine r_aload_n qX4_readFill_26 rfl ?_
  refine r_iload_n qX4_readFill_27 rfl ?_
  refine r_iconst (v := nI 4) qX4_readFill_28 (by decide) ?_
  refine r_cv2 (cu2 := 0) (su2 := 0) qX4_readFill_29 kX4_148 rfl (by decide +kernel) (c := 4) (by assumption) (by decide) rfl rfl rfl rfl rfl rfl ?_
  refine c_X4_of (by first | assumption | omega | rfl | decide) (by first | assumption | omega | rfl | decide) ?_
  show zR E _ _ X 32 _ _ _ _ _ _ _
  rw [G1.row]
  refine r_iload_n qX4_readFill_32 rfl ?_
  first | with_reducible refine r_iaddN qX4_readFill_33 ?_ | refine r_iadd qX4_readFill_33 ?_
  refine r_sipush (v := nI 999) qX4_readFill_34 (by decide) ?_
  refine r_icmp_le (t := 44) qX4_readFill_37 (by decide) (fun hc37 => ?_) (fun hc37 => ?_)
  · refine r_iconst (v := nI 0) qX4_readFill_44 (by decide) ?_
    first | exact Kj k t0 t1 v1 _ _ hk h0 h1 G1 _ (by rw [zb_f (Int32.not_lt.mpr hc37)]) | exact Kj k t0 t1 v1 _ _ hk h0 h1 G1 _ (by rw [zb_t (Int32.not_le.mp hc37)])
  · refine r_iconst (v := nI 1) qX4_readFill_40 (by decide) ?_
    refine r_goto (t := 45) qX4_readFill_41 (by decide) ?_
    first | exact Kj k t0 t1 v1 _ _ hk h0 h1 G1 _ (by rw [zb_f (Int32.not_lt.mpr hc37)]) | exact Kj k t0 t1 v1 _ _ hk h0 h1 G1 _ (by rw [zb_t (Int32.not_le.mp hc37)])
set_option maxHeartbeats 4000000 in
set_option maxRecDepth 20000 in
theorem c_X4_readErase {E : Ev} {g : Sh} {i : Ni} {j : Nj} {K : Kp} {x n d b p s o r L t : Nat} {B N : Nat → Int32} {i0 : Ni} {j0 : Nj}  (hW : zW g x n d b p s o) (hM : zM g x r) (hrx : r ≠ x) (hrb : r ≠ b) (hO : zOk N) (hG : zG x b r L B N i0 j0 t i j) (hK : ∀ i' j', zRes x b r L B i0 j0 (mErase N B L t) i' j' → K (.inl none) g i' j') : zCon E mX4_readErase [.ref x] g i j K := by
  refine zcon_of (by decide +kernel) rfl rfl (lo := [.ref x, zJ, zJ, zJ]) rfl (fun X => ?_)
  have w1 := hW.1
  obtain ⟨hM1, hM2, hM3, hM4⟩ := id hM
  have Kb2 : ∀ (y1 : Int32) (y2 : Int32) (i1 : Ni) (j1 : Nj) (c : Int32) (w : Nat), zE x r i0 j0 c w i1 j1 → mErase N B L t = .error (c, w) → zR E mX4_readErase (zZ E mX4_readErase K) X 40 [.ref x, .int y1, .int y2, zJ] [] g i1 j1 0 0 := by
    intro y1 y2 i1 j1 c w e he
    have h0 := e.b
    refine r_aload_n qX4_readErase_40 rfl ?_
    refine r_cv0 (cu2 := 0) (su2 := 0) qX4_readErase_41 kX4_269 rfl (by decide +kernel) (c := 4) (by assumption) (by decide) rfl rfl rfl rfl rfl rfl ?_
    refine c_X4_isGood (by first | assumption | omega | rfl | decide) ?_
    show zR E _ _ X 44 _ _ _ _ _ _ _
    rw [zb_f (p := i1 x 12 = 0) h0]
    refine r_if_eq (t := 54) qX4_readErase_44 (by decide) (fun hc44 => ?_) (fun hc44 => absurd hc44 (by decide))
    refine r_vret qX4_readErase_54 rfl rfl rfl ?_
    refine hK _ _ ?_; rw [he]; exact e
  have Kb1 : ∀ (u : Int32) (y1 : Int32) (i1 : Ni) (j1 : Nj) (c : Int32) (w : Nat), zE x r i0 j0 c w i1 j1 → mErase N B L t = .error (c, w) → zR E mX4_readErase (zZ E mX4_readErase K) X 34 [.ref x, .int y1, zJ, zJ] [.int u] g i1 j1 0 0 := by
    intro u y1 i1 j1 c w e he
    have h0 := e.b
    refine r_is_4_2 qX4_readErase_34 rfl rfl ?_
    refine r_aload_n qX4_readErase_35 rfl ?_
    refine r_iconst (v := nI 0) qX4_readErase_36 (by decide) ?_
    refine r_cv1 (cu2 := 0) (su2 := 0) qX4_readErase_37 kX4_300 rfl (by decide +kernel) (c := 4) (by assumption) (by decide) rfl rfl rfl rfl rfl rfl ?_
    refine cB_takeEnd w1 h0 ?_
    show zR E _ _ X 40 _ _ _ _ _ _ _
    exact Kb2 _ _ i1 j1 c w e he
  have Kb0 : ∀ (u : Int32) (i1 : Ni) (j1 : Nj) (c : Int32) (w : Nat), zE x r i0 j0 c w i1 j1 → mErase N B L t = .error (c, w) → zR E mX4_readErase (zZ E mX4_readErase K) X 8 [.ref x, zJ, zJ, zJ] [.int u] g i1 j1 0 0 := by
    intro u i1 j1 c w e he
    have h0 := e.b
    refine r_is_4_1 qX4_readErase_8 rfl rfl ?_
    refine r_aload_n qX4_readErase_9 rfl ?_
    refine r_iconst (v := nI 0) qX4_readErase_10 (by decide) ?_
    refine r_aload_n qX4_readErase_11 rfl ?_
    refine r_cv0 (cu2 := 0) (su2 := 0) qX4_readErase_12 kX4_269 rfl (by decide +kernel) (c := 4) (by assumption) (by decide) rfl rfl rfl rfl rfl rfl ?_
    refine c_X4_isGood (by first | assumption | omega | rfl | decide) ?_
    show zR E _ _ X 15 _ _ _ _ _ _ _
    rw [zb_f (p := i1 x 12 = 0) h0]
    refine r_if_eq (t := 30) qX4_readErase_15 (by decide) (fun hc15 => ?_) (fun hc15 => absurd hc15 (by decide))
    refine r_iconst (v := nI 0) qX4_readErase_30 (by decide) ?_
    refine r_cv2 (cu2 := 0) (su2 := 0) qX4_readErase_31 kX4_280 rfl (by decide +kernel) (c := 4) (by assumption) (by decide) rfl rfl rfl rfl rfl rfl ?_
    refine cB_takeNumber w1 h0 ?_
    show zR E _ _ X 34 _ _ _ _ _ _ _
    exact Kb1 _ _ i1 j1 c w e he
  refine r_aload_n qX4_readErase_0 rfl ?_
  refine r_cv0 (cu2 := 0) (su2 := 0) qX4_readErase_1 kX4_253 rfl (by decide +kernel) (c := 4) (by assumption) (by decide) rfl rfl rfl rfl rfl rfl ?_
  refine w_next hW hrx hG (fun iA jA GA => ?_)
  show zR E _ _ X 4 _ _ _ _ _ _ _
  refine r_aload_n qX4_readErase_4 rfl ?_
  refine r_cv0 (cu2 := 0) (su2 := 0) qX4_readErase_5 kX4_311 rfl (by decide +kernel) (c := 4) (by assumption) (by decide) rfl rfl rfl rfl rfl rfl ?_
  refine w_tube hW hM hrx GA (fun t0 v0 h0 ia0 ja0 G0 => ?_) (fun c w h u i2 j2 e => Kb0 u  i2 j2 c w e (by rw [mErase, h]; rfl))
  show zR E _ _ X 8 _ _ _ _ _ _ _
  obtain ⟨k, ek, hk⟩ := tTube_nat hO h0
  subst ek
  have k8 := hO.k8 hk
  refine r_is_4_1 qX4_readErase_8 rfl rfl ?_
  refine r_aload_n qX4_readErase_9 rfl ?_
  refine r_iconst (v := nI 0) qX4_readErase_10 (by decide) ?_
  refine r_aload_n qX4_readErase_11 rfl ?_
  refine r_cv0 (cu2 := 0) (su2 := 0) qX4_readErase_12 kX4_269 rfl (by decide +kernel) (c := 4) (by assumption) (by decide) rfl rfl rfl rfl rfl rfl ?_
  refine c_X4_isGood (by first | assumption | omega | rfl | decide) ?_
  show zR E _ _ X 15 _ _ _ _ _ _ _
  rw [zb_t (p := ia0 x 12 = 0) G0.z]
  refine r_if_eq (t := 30) qX4_readErase_15 (by decide) (fun hc15 => absurd hc15 (by decide)) (fun hc15 => ?_)
  refine r_aload_n qX4_readErase_18 rfl ?_
  refine r_iload_n qX4_readErase_19 rfl ?_
  refine r_bipush (v := nI 8) qX4_readErase_20 (by decide) ?_
  refine r_cv2 (cu2 := 0) (su2 := 0) qX4_readErase_22 kX4_148 rfl (by decide +kernel) (c := 4) (by assumption) (by decide) rfl rfl rfl rfl rfl rfl ?_
  refine c_X4_of (by first | assumption | omega | rfl | decide) (by first | assumption | omega | rfl | decide) ?_
  show zR E _ _ X 25 _ _ _ _ _ _ _
  rw [G0.row]
  refine r_iconst (v := nI 1) qX4_readErase_25 (by decide) ?_
  refine r_isub qX4_readErase_26 ?_
  refine r_goto (t := 31) qX4_readErase_27 (by decide) ?_
  refine r_cv2 (cu2 := 0) (su2 := 0) qX4_readErase_31 kX4_280 rfl (by decide +kernel) (c := 4) (by assumption) (by decide) rfl rfl rfl rfl rfl rfl ?_
  refine w_num hW hrx G0 (fun t1 v1 h1 ia1 ja1 G1 => ?_) (fun c w h u i2 j2 e => Kb1 u _ i2 j2 c w e (by rw [mErase, h0, tB_o, zn_nI (show k < 2 ^ 31 by omega), h]; rfl))
  show zR E _ _ X 34 _ _ _ _ _ _ _
  obtain ⟨q, eq, hq⟩ := tPoint_nat hO hk h1
  subst eq
  obtain ⟨hm, hm6⟩ := hO.many hk
  refine r_is_4_2 qX4_readErase_34 rfl rfl ?_
  refine r_aload_n qX4_readErase_35 rfl ?_
  refine r_iconst (v := nI 0) qX4_readErase_36 (by decide) ?_
  refine r_cv1 (cu2 := 0) (su2 := 0) qX4_readErase_37 kX4_300 rfl (by decide +kernel) (c := 4) (by assumption) (by decide) rfl rfl rfl rfl rfl rfl ?_
  refine w_end (P := False) (dP := instDecidableFalse) hW hrx G1 (fun t2 v2 h2 hp ia2 ja2 G2 => ?_) (fun c w h i2 j2 e => Kb2 _ _ i2 j2 c w e (by rw [mErase, h0, tB_o, zn_nI (show k < 2 ^ 31 by omega), h1, tB_o, zn_nI (show q < 2 ^ 31 by omega), h]; rfl))
  show zR E _ _ X 40 _ _ _ _ _ _ _
  refine r_aload_n qX4_readErase_40 rfl ?_
  refine r_cv0 (cu2 := 0) (su2 := 0) qX4_readErase_41 kX4_269 rfl (by decide +kernel) (c := 4) (by assumption) (by decide) rfl rfl rfl rfl rfl rfl ?_
  refine c_X4_isGood (by first | assumption | omega | rfl | decide) ?_
  show zR E _ _ X 44 _ _ _ _ _ _ _
  rw [zb_t (p := ia2 x 12 = 0) G2.z]
  refine r_if_eq (t := 54) qX4_readErase_44 (by decide) (fun hc44 => absurd hc44 (by decide)) (fun hc44 => ?_)
  refine r_aload_n qX4_readErase_47 rfl ?_
  refine r_iload_n qX4_readErase_48 rfl ?_
  refine r_iload_n qX4_readErase_49 rfl ?_
  refine r_cv2 (cu2 := 0) (su2 := 0) qX4_readErase_50 kX4_323 rfl (by decide +kernel) (c := 4) (by assumption) (by decide) rfl rfl rfl rfl rfl rfl ?_
  refine c_X4_eraseNow hM k8 (by rw [G2.row]; exact hm) (by rw [G2.row]; exact hm6) (by rw [G2.row]; exact hq) ?_
  show zR E _ _ X 53 _ _ _ _ _ _ _
  refine r_is_4_3 qX4_readErase_53 rfl rfl ?_
  refine r_vret qX4_readErase_54 rfl rfl rfl ?_
  refine hK _ _ ?_
  rw [mErase, h0, tB_o, zn_nI (show k < 2 ^ 31 by omega), h1, tB_o, zn_nI (show q < 2 ^ 31 by omega), h2, tB_o]
  exact G2.put hrx hrb (by rw [G2.row])
set_option maxHeartbeats 4000000 in
set_option maxRecDepth 20000 in
theorem c_X4_readRoom {E : Ev} {g : Sh} {i : Ni} {j : Nj} {K : Kp} {x n d b p s o r L t : Nat} {B N : Nat → Int32} {i0 : Ni} {j0 : Nj}  (hW : zW g x n d b p s o) (hM : zM g x r) (hrx : r ≠ x) (hrb : r ≠ b) (hO : zOk N) (hG : zG x b r L B N i0 j0 t i j) (hK : ∀ i' j', zRes x b r L B i0 j0 (mRoom N B L t) i' j' → K (.inl none) g i' j') : zCon E mX4_readRoom [.ref x] g i j K := by
  refine zcon_of (by decide +kernel) rfl rfl (lo := [.ref x, zJ]) rfl (fun X => ?_)
  have w1 := hW.1
  obtain ⟨hM1, hM2, hM3, hM4⟩ := id hM
  have Kb1 : ∀ (y1 : Int32) (i1 : Ni) (j1 : Nj) (c : Int32) (w : Nat), zE x r i0 j0 c w i1 j1 → mRoom N B L t = .error (c, w) → zR E mX4_readRoom (zZ E mX4_readRoom K) X 14 [.ref x, .int y1] [] g i1 j1 0 0 := by
    intro y1 i1 j1 c w e he
    have h0 := e.b
    refine r_aload_n qX4_readRoom_14 rfl ?_
    refine r_cv0 (cu2 := 0) (su2 := 0) qX4_readRoom_15 kX4_269 rfl (by decide +kernel) (c := 4) (by assumption) (by decide) rfl rfl rfl rfl rfl rfl ?_
    refine c_X4_isGood (by first | assumption | omega | rfl | decide) ?_
    show zR E _ _ X 18 _ _ _ _ _ _ _
    rw [zb_f (p := i1 x 12 = 0) h0]
    refine r_if_eq (t := 28) qX4_readRoom_18 (by decide) (fun hc18 => ?_) (fun hc18 => absurd hc18 (by decide))
    refine r_vret qX4_readRoom_28 rfl rfl rfl ?_
    refine hK _ _ ?_; rw [he]; exact e
  have Kb0 : ∀ (u : Int32) (i1 : Ni) (j1 : Nj) (c : Int32) (w : Nat), zE x r i0 j0 c w i1 j1 → mRoom N B L t = .error (c, w) → zR E mX4_readRoom (zZ E mX4_readRoom K) X 8 [.ref x, zJ] [.int u] g i1 j1 0 0 := by
    intro u i1 j1 c w e he
    have h0 := e.b
    refine r_is_2_1 qX4_readRoom_8 rfl rfl ?_
    refine r_aload_n qX4_readRoom_9 rfl ?_
    refine r_iconst (v := nI 0) qX4_readRoom_10 (by decide) ?_
    refine r_cv1 (cu2 := 0) (su2 := 0) qX4_readRoom_11 kX4_300 rfl (by decide +kernel) (c := 4) (by assumption) (by decide) rfl rfl rfl rfl rfl rfl ?_
    refine cB_takeEnd w1 h0 ?_
    show zR E _ _ X 14 _ _ _ _ _ _ _
    exact Kb1 _ i1 j1 c w e he
  refine r_aload_n qX4_readRoom_0 rfl ?_
  refine r_cv0 (cu2 := 0) (su2 := 0) qX4_readRoom_1 kX4_253 rfl (by decide +kernel) (c := 4) (by assumption) (by decide) rfl rfl rfl rfl rfl rfl ?_
  refine w_next hW hrx hG (fun iA jA GA => ?_)
  show zR E _ _ X 4 _ _ _ _ _ _ _
  refine r_aload_n qX4_readRoom_4 rfl ?_
  refine r_cv0 (cu2 := 0) (su2 := 0) qX4_readRoom_5 kX4_297 rfl (by decide +kernel) (c := 4) (by assumption) (by decide) rfl rfl rfl rfl rfl rfl ?_
  refine w_deg hW hrx GA (fun t0 v0 h0 ia0 ja0 G0 => ?_) (fun c w h u i2 j2 e => Kb0 u  i2 j2 c w e (by rw [mRoom, h]; rfl))
  show zR E _ _ X 8 _ _ _ _ _ _ _
  refine r_is_2_1 qX4_readRoom_8 rfl rfl ?_
  refine r_aload_n qX4_readRoom_9 rfl ?_
  refine r_iconst (v := nI 0) qX4_readRoom_10 (by decide) ?_
  refine r_cv1 (cu2 := 0) (su2 := 0) qX4_readRoom_11 kX4_300 rfl (by decide +kernel) (c := 4) (by assumption) (by decide) rfl rfl rfl rfl rfl rfl ?_
  refine w_end (P := False) (dP := instDecidableFalse) hW hrx G0 (fun t1 v1 h1 hp ia1 ja1 G1 => ?_) (fun c w h i2 j2 e => Kb1 _ i2 j2 c w e (by rw [mRoom, h0, tB_o, h]; rfl))
  show zR E _ _ X 14 _ _ _ _ _ _ _
  refine r_aload_n qX4_readRoom_14 rfl ?_
  refine r_cv0 (cu2 := 0) (su2 := 0) qX4_readRoom_15 kX4_269 rfl (by decide +kernel) (c := 4) (by assumption) (by decide) rfl rfl rfl rfl rfl rfl ?_
  refine c_X4_isGood (by first | assumption | omega | rfl | decide) ?_
  show zR E _ _ X 18 _ _ _ _ _ _ _
  rw [zb_t (p := ia1 x 12 = 0) G1.z]
  refine r_if_eq (t := 28) qX4_readRoom_18 (by decide) (fun hc18 => absurd hc18 (by decide)) (fun hc18 => ?_)
  refine r_aload_n qX4_readRoom_21 rfl ?_
  refine r_getr qX4_readRoom_22 fX4_24 rfl (by assumption) (by first | assumption | rfl) ?_
  refine r_iconst (v := nI 0) qX4_readRoom_25 (by decide) ?_
  refine r_iload_n qX4_readRoom_26 rfl ?_
  refine r_iastN qX4_readRoom_27 (by assumption) (by assumption) (by omega) rfl ?_
  refine r_vret qX4_readRoom_28 rfl rfl rfl ?_
  refine hK _ _ ?_
  rw [mRoom, h0, tB_o, h1, tB_o]
  exact G1.put hrx hrb (by rw [G1.row])
set_option maxHeartbeats 4000000 in
set_option maxRecDepth 20000 in
theorem c_X4_readPass {E : Ev} {g : Sh} {i : Ni} {j : Nj} {K : Kp} {x n d b p s o r L t : Nat} {B N : Nat → Int32} {i0 : Ni} {j0 : Nj}  (hW : zW g x n d b p s o) (hM : zM g x r) (hrx : r ≠ x) (hrb : r ≠ b) (hO : zOk N) (hG : zG x b r L B N i0 j0 t i j) (hK : ∀ i' j', zRes x b r L B i0 j0 (mPass N B L t) i' j' → K (.inl none) g i' j') : zCon E mX4_readPass [.ref x] g i j K := by
  refine zcon_of (by decide +kernel) rfl rfl (lo := [.ref x, zJ]) rfl (fun X => ?_)
  have w1 := hW.1
  obtain ⟨hM1, hM2, hM3, hM4⟩ := id hM
  have Kb1 : ∀ (y1 : Int32) (i1 : Ni) (j1 : Nj) (c : Int32) (w : Nat), zE x r i0 j0 c w i1 j1 → mPass N B L t = .error (c, w) → zR E mX4_readPass (zZ E mX4_readPass K) X 18 [.ref x, .int y1] [] g i1 j1 0 0 := by
    intro y1 i1 j1 c w e he
    have h0 := e.b
    refine r_aload_n qX4_readPass_18 rfl ?_
    refine r_cv0 (cu2 := 0) (su2 := 0) qX4_readPass_19 kX4_269 rfl (by decide +kernel) (c := 4) (by assumption) (by decide) rfl rfl rfl rfl rfl rfl ?_
    refine c_X4_isGood (by first | assumption | omega | rfl | decide) ?_
    show zR E _ _ X 22 _ _ _ _ _ _ _
    rw [zb_f (p := i1 x 12 = 0) h0]
    refine r_if_eq (t := 30) qX4_readPass_22 (by decide) (fun hc22 => ?_) (fun hc22 => absurd hc22 (by decide))
    refine r_vret qX4_readPass_30 rfl rfl rfl ?_
    refine hK _ _ ?_; rw [he]; exact e
  have Kb0 : ∀ (u : Int32) (i1 : Ni) (j1 : Nj) (c : Int32) (w : Nat), zE x r i0 j0 c w i1 j1 → mPass N B L t = .error (c, w) → zR E mX4_readPass (zZ E mX4_readPass K) X 12 [.ref x, zJ] [.int u] g i1 j1 0 0 := by
    intro u i1 j1 c w e he
    have h0 := e.b
    refine r_is_2_1 qX4_readPass_12 rfl rfl ?_
    refine r_aload_n qX4_readPass_13 rfl ?_
    refine r_iconst (v := nI 0) qX4_readPass_14 (by decide) ?_
    refine r_cv1 (cu2 := 0) (su2 := 0) qX4_readPass_15 kX4_300 rfl (by decide +kernel) (c := 4) (by assumption) (by decide) rfl rfl rfl rfl rfl rfl ?_
    refine cB_takeEnd w1 h0 ?_
    show zR E _ _ X 18 _ _ _ _ _ _ _
    exact Kb1 _ i1 j1 c w e he
  refine r_aload_n qX4_readPass_0 rfl ?_
  refine r_cv0 (cu2 := 0) (su2 := 0) qX4_readPass_1 kX4_253 rfl (by decide +kernel) (c := 4) (by assumption) (by decide) rfl rfl rfl rfl rfl rfl ?_
  refine w_next hW hrx hG (fun iA jA GA => ?_)
  show zR E _ _ X 4 _ _ _ _ _ _ _
  refine r_aload_n qX4_readPass_4 rfl ?_
  refine r_iconst (v := nI 0) qX4_readPass_5 (by decide) ?_
  refine r_sipush (v := nI 300) qX4_readPass_6 (by decide) ?_
  refine r_cv2 (cu2 := 0) (su2 := 0) qX4_readPass_9 kX4_280 rfl (by decide +kernel) (c := 4) (by assumption) (by decide) rfl rfl rfl rfl rfl rfl ?_
  refine w_num hW hrx GA (fun t0 v0 h0 ia0 ja0 G0 => ?_) (fun c w h u i2 j2 e => Kb0 u  i2 j2 c w e (by rw [mPass, h]; rfl))
  show zR E _ _ X 12 _ _ _ _ _ _ _
  obtain ⟨q, eq, -, hq⟩ := tNum_nat h0 (by decide) (by decide)
  subst eq
  refine r_is_2_1 qX4_readPass_12 rfl rfl ?_
  refine r_aload_n qX4_readPass_13 rfl ?_
  refine r_iconst (v := nI 0) qX4_readPass_14 (by decide) ?_
  refine r_cv1 (cu2 := 0) (su2 := 0) qX4_readPass_15 kX4_300 rfl (by decide +kernel) (c := 4) (by assumption) (by decide) rfl rfl rfl rfl rfl rfl ?_
  refine w_end (P := False) (dP := instDecidableFalse) hW hrx G0 (fun t1 v1 h1 hp ia1 ja1 G1 => ?_) (fun c w h i2 j2 e => Kb1 _ i2 j2 c w e (by rw [mPass, h0, tB_o, zn_nI (show q < 2 ^ 31 by omega), h]; rfl))
  show zR E _ _ X 18 _ _ _ _ _ _ _
  refine r_aload_n qX4_readPass_18 rfl ?_
  refine r_cv0 (cu2 := 0) (su2 := 0) qX4_readPass_19 kX4_269 rfl (by decide +kernel) (c := 4) (by assumption) (by decide) rfl rfl rfl rfl rfl rfl ?_
  refine c_X4_isGood (by first | assumption | omega | rfl | decide) ?_
  show zR E _ _ X 22 _ _ _ _ _ _ _
  rw [zb_t (p := ia1 x 12 = 0) G1.z]
  refine r_if_eq (t := 30) qX4_readPass_22 (by decide) (fun hc22 => absurd hc22 (by decide)) (fun hc22 => ?_)
  refine r_aload_n qX4_readPass_25 rfl ?_
  refine r_iload_n qX4_readPass_26 rfl ?_
  refine r_cv1 (cu2 := 0) (su2 := 0) qX4_readPass_27 kX4_140 rfl (by decide +kernel) (c := 4) (by assumption) (by decide) rfl rfl rfl rfl rfl rfl ?_
  refine c_X4_walk hM (by rw [G1.row]; exact hO) (by omega) ?_
  show zR E _ _ X 30 _ _ _ _ _ _ _
  refine r_vret qX4_readPass_30 rfl rfl rfl ?_
  refine hK _ _ ?_
  rw [mPass, h0, tB_o, zn_nI (show q < 2 ^ 31 by omega), h1, tB_o]
  exact G1.put hrx hrb (by rw [G1.row])
set_option maxHeartbeats 4000000 in
set_option maxRecDepth 20000 in
theorem c_X4_readTube {E : Ev} {g : Sh} {i : Ni} {j : Nj} {K : Kp} {x n d b p s o r L t : Nat} {B N : Nat → Int32} {i0 : Ni} {j0 : Nj}  (hW : zW g x n d b p s o) (hM : zM g x r) (hrx : r ≠ x) (hrb : r ≠ b) (hO : zOk N) (hG : zG x b r L B N i0 j0 t i j) (hK : ∀ i' j', zRes x b r L B i0 j0 (mTube N B L t) i' j' → K (.inl none) g i' j') : zCon E mX4_readTube [.ref x] g i j K := by
  refine zcon_of (by decide +kernel) rfl rfl (lo := [.ref x, zJ, zJ, zJ, zJ, zJ]) rfl (fun X => ?_)
  have w1 := hW.1
  obtain ⟨hM1, hM2, hM3, hM4⟩ := id hM
  have Kbm : ∀ (i1 : Ni) (j1 : Nj), zE x r i0 j0 (nI 5) t i1 j1 → N 5 = nI 8 → zR E mX4_readTube (zZ E mX4_readTube K) X 7 [.ref x, zJ, zJ, zJ, zJ, zJ] [.int (nI 0)] g i1 j1 0 0 := by
    intro i1 j1 e he
    refine r_if_ne (t := 11) qX4_readTube_7 (by decide) (fun hc7 => absurd hc7 (by decide)) (fun hc7 => ?_)
    refine r_vret qX4_readTube_10 rfl rfl rfl ?_
    refine hK _ _ ?_; rw [mTube, if_pos he]; exact e
  have Kb5 : ∀ (y1 : Int32) (y2 : Int32) (y3 : Int32) (y4 : Int32) (y5 : Int32) (i1 : Ni) (j1 : Nj) (c : Int32) (w : Nat), zE x r i0 j0 c w i1 j1 → mTube N B L t = .error (c, w) → zR E mX4_readTube (zZ E mX4_readTube K) X 59 [.ref x, .int y1, .int y2, .int y3, .int y4, .int y5] [] g i1 j1 0 0 := by
    intro y1 y2 y3 y4 y5 i1 j1 c w e he
    have h0 := e.b
    refine r_aload_n qX4_readTube_59 rfl ?_
    refine r_cv0 (cu2 := 0) (su2 := 0) qX4_readTube_60 kX4_269 rfl (by decide +kernel) (c := 4) (by assumption) (by decide) rfl rfl rfl rfl rfl rfl ?_
    refine c_X4_isGood (by first | assumption | omega | rfl | decide) ?_
    show zR E _ _ X 63 _ _ _ _ _ _ _
    rw [zb_f (p := i1 x 12 = 0) h0]
    refine r_if_eq (t := 77) qX4_readTube_63 (by decide) (fun hc63 => ?_) (fun hc63 => absurd hc63 (by decide))
    refine r_vret qX4_readTube_77 rfl rfl rfl ?_
    refine hK _ _ ?_; rw [he]; exact e
  have Kb4 : ∀ (u : Int32) (y1 : Int32) (y2 : Int32) (y3 : Int32) (y4 : Int32) (i1 : Ni) (j1 : Nj) (c : Int32) (w : Nat), zE x r i0 j0 c w i1 j1 → mTube N B L t = .error (c, w) → zR E mX4_readTube (zZ E mX4_readTube K) X 52 [.ref x, .int y1, .int y2, .int y3, .int y4, zJ] [.int u] g i1 j1 0 0 := by
    intro u y1 y2 y3 y4 i1 j1 c w e he
    have h0 := e.b
    refine r_is_6_5 qX4_readTube_52 rfl rfl ?_
    refine r_aload_n qX4_readTube_54 rfl ?_
    refine r_iconst (v := nI 0) qX4_readTube_55 (by decide) ?_
    refine r_cv1 (cu2 := 0) (su2 := 0) qX4_readTube_56 kX4_300 rfl (by decide +kernel) (c := 4) (by assumption) (by decide) rfl rfl rfl rfl rfl rfl ?_
    refine cB_takeEnd w1 h0 ?_
    show zR E _ _ X 59 _ _ _ _ _ _ _
    exact Kb5 _ _ _ _ _ i1 j1 c w e he
  have Kb3 : ∀ (u : Int32) (y1 : Int32) (y2 : Int32) (y3 : Int32) (i1 : Ni) (j1 : Nj) (c : Int32) (w : Nat), zE x r i0 j0 c w i1 j1 → mTube N B L t = .error (c, w) → zR E mX4_readTube (zZ E mX4_readTube K) X 42 [.ref x, .int y1, .int y2, .int y3, zJ, zJ] [.int u] g i1 j1 0 0 := by
    intro u y1 y2 y3 i1 j1 c w e he
    have h0 := e.b
    refine r_is_6_4 qX4_readTube_42 rfl rfl ?_
    refine r_aload_n qX4_readTube_44 rfl ?_
    refine r_iconst (v := nI 0) qX4_readTube_45 (by decide) ?_
    refine r_sipush (v := nI 999) qX4_readTube_46 (by decide) ?_
    refine r_cv2 (cu2 := 0) (su2 := 0) qX4_readTube_49 kX4_280 rfl (by decide +kernel) (c := 4) (by assumption) (by decide) rfl rfl rfl rfl rfl rfl ?_
    refine cB_takeNumber w1 h0 ?_
    show zR E _ _ X 52 _ _ _ _ _ _ _
    exact Kb4 _ _ _ _ _ i1 j1 c w e he
  have Kb2 : ∀ (u : Int32) (y1 : Int32) (y2 : Int32) (i1 : Ni) (j1 : Nj) (c : Int32) (w : Nat), zE x r i0 j0 c w i1 j1 → mTube N B L t = .error (c, w) → zR E mX4_readTube (zZ E mX4_readTube K) X 32 [.ref x, .int y1, .int y2, zJ, zJ, zJ] [.int u] g i1 j1 0 0 := by
    intro u y1 y2 i1 j1 c w e he
    have h0 := e.b
    refine r_is_6_3 qX4_readTube_32 rfl rfl ?_
    refine r_aload_n qX4_readTube_33 rfl ?_
    refine r_bipush (v := nI 10) qX4_readTube_34 (by decide) ?_
    refine r_sipush (v := nI 999) qX4_readTube_36 (by decide) ?_
    refine r_cv2 (cu2 := 0) (su2 := 0) qX4_readTube_39 kX4_280 rfl (by decide +kernel) (c := 4) (by assumption) (by decide) rfl rfl rfl rfl rfl rfl ?_
    refine cB_takeNumber w1 h0 ?_
    show zR E _ _ X 42 _ _ _ _ _ _ _
    exact Kb3 _ _ _ _ i1 j1 c w e he
  have Kb1 : ∀ (u : Int32) (y1 : Int32) (i1 : Ni) (j1 : Nj) (c : Int32) (w : Nat), zE x r i0 j0 c w i1 j1 → mTube N B L t = .error (c, w) → zR E mX4_readTube (zZ E mX4_readTube K) X 24 [.ref x, .int y1, zJ, zJ, zJ, zJ] [.int u] g i1 j1 0 0 := by
    intro u y1 i1 j1 c w e he
    have h0 := e.b
    refine r_is_6_2 qX4_readTube_24 rfl rfl ?_
    refine r_aload_n qX4_readTube_25 rfl ?_
    refine r_iconst (v := nI 1) qX4_readTube_26 (by decide) ?_
    refine r_bipush (v := nI 9) qX4_readTube_27 (by decide) ?_
    refine r_cv2 (cu2 := 0) (su2 := 0) qX4_readTube_29 kX4_280 rfl (by decide +kernel) (c := 4) (by assumption) (by decide) rfl rfl rfl rfl rfl rfl ?_
    refine cB_takeNumber w1 h0 ?_
    show zR E _ _ X 32 _ _ _ _ _ _ _
    exact Kb2 _ _ _ i1 j1 c w e he
  have Kb0 : ∀ (u : Int32) (i1 : Ni) (j1 : Nj) (c : Int32) (w : Nat), zE x r i0 j0 c w i1 j1 → mTube N B L t = .error (c, w) → zR E mX4_readTube (zZ E mX4_readTube K) X 16 [.ref x, zJ, zJ, zJ, zJ, zJ] [.int u] g i1 j1 0 0 := by
    intro u i1 j1 c w e he
    have h0 := e.b
    refine r_is_6_1 qX4_readTube_16 rfl rfl ?_
    refine r_aload_n qX4_readTube_17 rfl ?_
    refine r_iconst (v := nI 1) qX4_readTube_18 (by decide) ?_
    refine r_bipush (v := nI 50) qX4_readTube_19 (by decide) ?_
    refine r_cv2 (cu2 := 0) (su2 := 0) qX4_readTube_21 kX4_280 rfl (by decide +kernel) (c := 4) (by assumption) (by decide) rfl rfl rfl rfl rfl rfl ?_
    refine cB_takeNumber w1 h0 ?_
    show zR E _ _ X 24 _ _ _ _ _ _ _
    exact Kb1 _ _ i1 j1 c w e he
  refine r_aload_n qX4_readTube_0 rfl ?_
  refine r_iconst (v := nI 5) qX4_readTube_1 (by decide) ?_
  refine r_bipush (v := nI 8) qX4_readTube_2 (by decide) ?_
  refine r_cv2 (cu2 := 0) (su2 := 0) qX4_readTube_4 kX4_304 rfl (by decide +kernel) (c := 4) (by assumption) (by decide) rfl rfl rfl rfl rfl rfl ?_
  refine w_more hW hM hrx hG (by decide) (fun hk0 iA jA GA => ?_) (fun he i2 j2 e => Kbm i2 j2 e he)
  show zR E _ _ X 7 _ _ _ _ _ _ _
  have hT8 : zn (N 5) < 8 := by
    obtain ⟨z1, z2⟩ := hO.T8
    rcases Nat.lt_or_ge (zn (N 5)) 8 with z3 | z3
    · exact z3
    · exact absurd (z1.trans (congrArg nI (show zn (N 5) = 8 by omega))) hk0
  refine r_if_ne (t := 11) qX4_readTube_7 (by decide) (fun hc7 => ?_) (fun hc7 => absurd hc7 (by decide))
  refine r_aload_n qX4_readTube_11 rfl ?_
  refine r_iconst (v := nI 1) qX4_readTube_12 (by decide) ?_
  refine r_cv1 (cu2 := 0) (su2 := 0) qX4_readTube_13 kX4_307 rfl (by decide +kernel) (c := 4) (by assumption) (by decide) rfl rfl rfl rfl rfl rfl ?_
  refine w_spirit hW hM hrx hO GA (fun t0 v0 h0 ia0 ja0 G0 => ?_) (fun c w h u i2 j2 e => Kb0 u  i2 j2 c w e (by rw [mTube, if_neg hk0, h]; rfl))
  show zR E _ _ X 16 _ _ _ _ _ _ _
  refine r_is_6_1 qX4_readTube_16 rfl rfl ?_
  refine r_aload_n qX4_readTube_17 rfl ?_
  refine r_iconst (v := nI 1) qX4_readTube_18 (by decide) ?_
  refine r_bipush (v := nI 50) qX4_readTube_19 (by decide) ?_
  refine r_cv2 (cu2 := 0) (su2 := 0) qX4_readTube_21 kX4_280 rfl (by decide +kernel) (c := 4) (by assumption) (by decide) rfl rfl rfl rfl rfl rfl ?_
  refine w_num hW hrx G0 (fun t1 v1 h1 ia1 ja1 G1 => ?_) (fun c w h u i2 j2 e => Kb1 u _ i2 j2 c w e (by rw [mTube, if_neg hk0, h0, tB_o, h]; rfl))
  show zR E _ _ X 24 _ _ _ _ _ _ _
  refine r_is_6_2 qX4_readTube_24 rfl rfl ?_
  refine r_aload_n qX4_readTube_25 rfl ?_
  refine r_iconst (v := nI 1) qX4_readTube_26 (by decide) ?_
  refine r_bipush (v := nI 9) qX4_readTube_27 (by decide) ?_
  refine r_cv2 (cu2 := 0) (su2 := 0) qX4_readTube_29 kX4_280 rfl (by decide +kernel) (c := 4) (by assumption) (by decide) rfl rfl rfl rfl rfl rfl ?_
  refine w_num hW hrx G1 (fun t2 v2 h2 ia2 ja2 G2 => ?_) (fun c w h u i2 j2 e => Kb2 u _ _ i2 j2 c w e (by rw [mTube, if_neg hk0, h0, tB_o, h1, tB_o, h]; rfl))
  show zR E _ _ X 32 _ _ _ _ _ _ _
  refine r_is_6_3 qX4_readTube_32 rfl rfl ?_
  refine r_aload_n qX4_readTube_33 rfl ?_
  refine r_bipush (v := nI 10) qX4_readTube_34 (by decide) ?_
  refine r_sipush (v := nI 999) qX4_readTube_36 (by decide) ?_
  refine r_cv2 (cu2 := 0) (su2 := 0) qX4_readTube_39 kX4_280 rfl (by decide +kernel) (c := 4) (by assumption) (by decide) rfl rfl rfl rfl rfl rfl ?_
  refine w_num hW hrx G2 (fun t3 v3 h3 ia3 ja3 G3 => ?_) (fun c w h u i2 j2 e => Kb3 u _ _ _ i2 j2 c w e (by rw [mTube, if_neg hk0, h0, tB_o, h1, tB_o, h2, tB_o, h]; rfl))
  show zR E _ _ X 42 _ _ _ _ _ _ _
  refine r_is_6_4 qX4_readTube_42 rfl rfl ?_
  refine r_aload_n qX4_readTube_44 rfl ?_
  refine r_iconst (v := nI 0) qX4_readTube_45 (by decide) ?_
  refine r_sipush (v := nI 999) qX4_readTube_46 (by decide) ?_
  refine r_cv2 (cu2 := 0) (su2 := 0) qX4_readTube_49 kX4_280 rfl (by decide +kernel) (c := 4) (by assumption) (by decide) rfl rfl rfl rfl rfl rfl ?_
  refine w_num hW hrx G3 (fun t4 v4 h4 ia4 ja4 G4 => ?_) (fun c w h u i2 j2 e => Kb4 u _ _ _ _ i2 j2 c w e (by rw [mTube, if_neg hk0, h0, tB_o, h1, tB_o, h2, tB_o, h3, tB_o, h]; rfl))
  show zR E _ _ X 52 _ _ _ _ _ _ _
  refine r_is_6_5 qX4_readTube_52 rfl rfl ?_
  refine r_aload_n qX4_readTube_54 rfl ?_
  refine r_iconst (v := nI 0) qX4_readTube_55 (by decide) ?_
  refine r_cv1 (cu2 := 0) (su2 := 0) qX4_readTube_56 kX4_300 rfl (by decide +kernel) (c := 4) (by assumption) (by decide) rfl rfl rfl rfl rfl rfl ?_
  refine w_end (P := False) (dP := instDecidableFalse) hW hrx G4 (fun t5 v5 h5 hp ia5 ja5 G5 => ?_) (fun c w h i2 j2 e => Kb5 _ _ _ _ _ i2 j2 c w e (by rw [mTube, if_neg hk0, h0, tB_o, h1, tB_o, h2, tB_o, h3, tB_o, h4, tB_o, h]; rfl))
  show zR E _ _ X 59 _ _ _ _ _ _ _
  refine r_aload_n qX4_readTube_59 rfl ?_
  refine r_cv0 (cu2 := 0) (su2 := 0) qX4_readTube_60 kX4_269 rfl (by decide +kernel) (c := 4) (by assumption) (by decide) rfl rfl rfl rfl rfl rfl ?_
  refine c_X4_isGood (by first | assumption | omega | rfl | decide) ?_
  show zR E _ _ X 63 _ _ _ _ _ _ _
  rw [zb_t (p := ia5 x 12 = 0) G5.z]
  refine r_if_eq (t := 77) qX4_readTube_63 (by decide) (fun hc63 => absurd hc63 (by decide)) (fun hc63 => ?_)
  refine r_aload_n qX4_readTube_66 rfl ?_
  refine r_iload_n qX4_readTube_67 rfl ?_
  refine r_iload_n qX4_readTube_68 rfl ?_
  refine r_iload_n qX4_readTube_69 rfl ?_
  refine r_iload qX4_readTube_70 rfl ?_
  refine r_iload qX4_readTube_72 rfl ?_
  refine r_cv5 (cu2 := 0) (su2 := 0) qX4_readTube_74 kX4_133 rfl (by decide +kernel) (c := 4) (by assumption) (by decide) rfl rfl rfl rfl rfl rfl ?_
  refine c_X4_layTube (T := zn (N 5)) hM (by rw [G5.row]; exact hO.T8.1) hT8 ?_
  show zR E _ _ X 77 _ _ _ _ _ _ _
  refine r_vret qX4_readTube_77 rfl rfl rfl ?_
  refine hK _ _ ?_
  rw [mTube, if_neg hk0, h0, tB_o, h1, tB_o, h2, tB_o, h3, tB_o, h4, tB_o, h5, tB_o]
  exact G5.put hrx hrb (by rw [G5.row])

