/-! ===== THE CLASS READS STATEMENTS ===== -/
def yRes (rd tx L : Nat) (B : Nat → Int32) (a : Nat → Nat) (N : Nat → Int32) (i0 : Ni) (R : PE (Nat → Int32)) (i : Ni) : Prop := match R with
  | .error (c, w) => yE rd tx L B a N i0 c w i
  | .ok (t, N') => yG rd tx L B a N' i0 t i
section
variable {g : Sh} {rd tx L t : Nat} {B : Nat → Int32} {a : Nat → Nat} {N N' : Nat → Int32} {i0 i i' : Ni}
/-- the gallery changes alone -/
theorem yG.to (hS : yS g rd tx a) (h : yG rd tx L B a N i0 t i) (hH : zH i' a N') (o : zOu a i' i) : yG rd tx L B a N' i0 t i' := by
  obtain ⟨⟨p1, p2, p3, p4, p5, p6⟩, h0, -, f1, f2⟩ := h
  have e1 : i' rd = i rd := o rd (fun q hq => Ne.symm (hS.ar hq))
  have e2 : i' tx = i tx := o tx (fun q hq => Ne.symm (hS.at hq))
  exact ⟨⟨by rw [e1]; exact p1, p2, p3, by rw [e2]; exact p4, p5, by rw [e1]; exact p6⟩, by rw [e1]; exact h0, hH, fun m a b c d e => by rw [e1]; exact f1 m a b c d e, fun r h1 h2 => (o r h2).trans (f2 r h1 h2)⟩
theorem yS.nz (hS : yS g rd tx a) {k : Nat} (hk : k < 8) : ¬ a (6 + 3 * k) = 0 := fun e => by
  have z := (hS.2.2.1.tb hk).2.1
  rw [e, hS.2.2.2] at z
  omega
end
set_option maxHeartbeats 4000000 in
set_option maxRecDepth 20000 in
theorem c_X1_readLeaky {E : Ev} {g : Sh} {i : Ni} {j : Nj} {K : Kp} {rd tx L t : Nat} {B : Nat → Int32} {a : Nat → Nat} {N : Nat → Int32} {i0 : Ni} {v : Int32} (hS : yS g rd tx a) (hZ : zZr N) (hG : yG rd tx L B a N i0 (sNext B L t) i) (hv : v = nI 0 ∨ v = nI 1) (hK : ∀ i', yRes rd tx L B a N i0 (mLeaky v N B L t) i' → K (.inl none) g i' j) : zCon E mX1_readLeaky [.ref rd, .int v] g i j K := by
  refine zcon_of (by decide +kernel) rfl rfl (lo := [.ref rd, .int v, zJ]) rfl (fun X => ?_)
  obtain ⟨hR, r5, hC, g0⟩ := id hS
  have r1 := hR.1
  have hO := hG.2.2.1.1
  obtain ⟨a1, a2, a3, a4, a5, a6, a7, a8, a9, a10, a11, a12, a13, a14, a15, a16, -⟩ := id hC
  obtain ⟨hBt, hB4⟩ := hO.B4
  obtain ⟨hSt, hS5⟩ := hO.S5
  have nv : narrow .boolean (.int v) = .int v := by rcases hv with e | e <;> rw [e] <;> decide
  have fv : fits .boolean (.int v) = true := by rcases hv with e | e <;> rw [e] <;> decide
  have Kb1 : ∀ (y : Nat) (i1 : Ni) (c : Int32) (w : Nat), mLeaky v N B L t = .error (c, w) → yE rd tx L B a N i0 c w i1 → zR E mX1_readLeaky (zZ E mX1_readLeaky K) X 10 [.ref rd, .int v, .ref y] [.int (nI 0)] g i1 j 0 0 := by
    intro y i1 c w he e
    refine r_if_eq (t := 22) qX1_readLeaky_10 (by decide) (fun hc10 => ?_) (fun hc10 => absurd hc10 (by decide))
    refine r_vret qX1_readLeaky_22 rfl rfl rfl ?_
    refine hK _ ?_; rw [he]; exact e
  have Kb0 : ∀ (i1 : Ni) (c : Int32) (w : Nat), mLeaky v N B L t = .error (c, w) → yE rd tx L B a N i0 c w i1 → zR E mX1_readLeaky (zZ E mX1_readLeaky K) X 4 [.ref rd, .int v, zJ] [.ref 0] g i1 j 0 0 := by
    intro i1 c w he e
    refine r_as_3_2 qX1_readLeaky_4 rfl rfl ?_
    refine r_aload_n qX1_readLeaky_5 rfl ?_
    refine r_iconst (v := nI 0) qX1_readLeaky_6 (by decide) ?_
    refine r_cv1 (cu2 := 0) (su2 := 0) qX1_readLeaky_7 kX1_83 rfl (by decide +kernel) (c := 1) (by assumption) (by decide) rfl rfl rfl rfl rfl rfl ?_
    refine yE_end hS e (fun i2 e2 => ?_)
    show zR E _ _ X 10 _ _ _ _ _ _ _
    exact Kb1 _ i2 c w he e2
  refine r_aload_n qX1_readLeaky_0 rfl ?_
  refine r_cv0 (cu2 := 0) (su2 := 0) qX1_readLeaky_1 kX1_192 rfl (by decide +kernel) (c := 1) (by assumption) (by decide) rfl rfl rfl rfl rfl rfl ?_
  refine y_tube hS hG (fun t0 k h0 hk ia0 G0 => ?_) (fun c w h i2 e => Kb0 i2 c w (by rw [mLeaky, h]; rfl) e)
  have k8 := hO.k8 hk
  have kz := hS.nz k8
  obtain ⟨tb1, hT3⟩ := hC.tb k8
  have u1 := hT3.1
  have zk : zn (nI k) = k := zn_nI (by omega)
  show zR E _ _ X 4 _ _ _ _ _ _ _
  refine r_as_3_2 qX1_readLeaky_4 rfl rfl ?_
  refine r_aload_n qX1_readLeaky_5 rfl ?_
  refine r_iconst (v := nI 0) qX1_readLeaky_6 (by decide) ?_
  refine r_cv1 (cu2 := 0) (su2 := 0) qX1_readLeaky_7 kX1_83 rfl (by decide +kernel) (c := 1) (by assumption) (by decide) rfl rfl rfl rfl rfl rfl ?_
  refine y_end (P := False) (dP := instDecidableFalse) hS G0 (fun t1 v1 h1 hp ia1 G1 => ?_) (fun c w h i2 e => Kb1 _ i2 c w (by rw [mLeaky, h0, tB_o, zk, h]; rfl) e)
  show zR E _ _ X 10 _ _ _ _ _ _ _
  refine r_if_eq (t := 22) qX1_readLeaky_10 (by decide) (fun hc10 => absurd hc10 (by decide)) (fun hc10 => ?_)
  refine r_aload_n qX1_readLeaky_13 rfl ?_
  refine r_ifnull (t := 22) qX1_readLeaky_14 (by decide) (fun hc14 => absurd hc14 (kz)) (fun hc14 => ?_)
  refine r_aload_n qX1_readLeaky_17 rfl ?_
  refine r_iload_n qX1_readLeaky_18 rfl ?_
  refine r_puti qX1_readLeaky_19 fX1_196 (Or.inl rfl) rfl nv fv (by assumption) ?_
  refine r_vret qX1_readLeaky_22 rfl rfl rfl ?_
  refine hK _ ?_
  rw [mLeaky, h0, tB_o, zk, h1, tB_o]
  exact G1.to hS (G1.2.2.1.leaky hC hk hv) (zOu.w (by omega))
set_option maxHeartbeats 4000000 in
set_option maxRecDepth 20000 in
theorem c_X1_readRoom {E : Ev} {g : Sh} {i : Ni} {j : Nj} {K : Kp} {rd tx L t : Nat} {B : Nat → Int32} {a : Nat → Nat} {N : Nat → Int32} {i0 : Ni}  (hS : yS g rd tx a) (hZ : zZr N) (hG : yG rd tx L B a N i0 (sNext B L t) i) (hK : ∀ i', yRes rd tx L B a N i0 (mRoom N B L t) i' → K (.inl none) g i' j) : zCon E mX1_readRoom [.ref rd] g i j K := by
  refine zcon_of (by decide +kernel) rfl rfl (lo := [.ref rd, zJ]) rfl (fun X => ?_)
  obtain ⟨hR, r5, hC, g0⟩ := id hS
  have r1 := hR.1
  have hO := hG.2.2.1.1
  obtain ⟨a1, a2, a3, a4, a5, a6, a7, a8, a9, a10, a11, a12, a13, a14, a15, a16, -⟩ := id hC
  obtain ⟨hBt, hB4⟩ := hO.B4
  obtain ⟨hSt, hS5⟩ := hO.S5
  have Kb1 : ∀ (y : Int32) (i1 : Ni) (c : Int32) (w : Nat), mRoom N B L t = .error (c, w) → yE rd tx L B a N i0 c w i1 → zR E mX1_readRoom (zZ E mX1_readRoom K) X 10 [.ref rd, .int y] [.int (nI 0)] g i1 j 0 0 := by
    intro y i1 c w he e
    refine r_if_eq (t := 21) qX1_readRoom_10 (by decide) (fun hc10 => ?_) (fun hc10 => absurd hc10 (by decide))
    refine r_vret qX1_readRoom_21 rfl rfl rfl ?_
    refine hK _ ?_; rw [he]; exact e
  have Kb0 : ∀ (u : Int32) (i1 : Ni) (c : Int32) (w : Nat), mRoom N B L t = .error (c, w) → yE rd tx L B a N i0 c w i1 → zR E mX1_readRoom (zZ E mX1_readRoom K) X 4 [.ref rd, zJ] [.int u] g i1 j 0 0 := by
    intro u i1 c w he e
    refine r_is_2_1 qX1_readRoom_4 rfl rfl ?_
    refine r_aload_n qX1_readRoom_5 rfl ?_
    refine r_iconst (v := nI 0) qX1_readRoom_6 (by decide) ?_
    refine r_cv1 (cu2 := 0) (su2 := 0) qX1_readRoom_7 kX1_83 rfl (by decide +kernel) (c := 1) (by assumption) (by decide) rfl rfl rfl rfl rfl rfl ?_
    refine yE_end hS e (fun i2 e2 => ?_)
    show zR E _ _ X 10 _ _ _ _ _ _ _
    exact Kb1 _ i2 c w he e2
  refine r_aload_n qX1_readRoom_0 rfl ?_
  refine r_cv0 (cu2 := 0) (su2 := 0) qX1_readRoom_1 kX1_76 rfl (by decide +kernel) (c := 1) (by assumption) (by decide) rfl rfl rfl rfl rfl rfl ?_
  refine y_deg hS hG (fun t0 v0 h0 ia0 G0 => ?_) (fun c w h u i2 e => Kb0 u i2 c w (by rw [mRoom, h]; rfl) e)
  show zR E _ _ X 4 _ _ _ _ _ _ _
  refine r_is_2_1 qX1_readRoom_4 rfl rfl ?_
  refine r_aload_n qX1_readRoom_5 rfl ?_
  refine r_iconst (v := nI 0) qX1_readRoom_6 (by decide) ?_
  refine r_cv1 (cu2 := 0) (su2 := 0) qX1_readRoom_7 kX1_83 rfl (by decide +kernel) (c := 1) (by assumption) (by decide) rfl rfl rfl rfl rfl rfl ?_
  refine y_end (P := False) (dP := instDecidableFalse) hS G0 (fun t1 v1 h1 hp ia1 G1 => ?_) (fun c w h i2 e => Kb1 _ i2 c w (by rw [mRoom, h0, tB_o, h]; rfl) e)
  show zR E _ _ X 10 _ _ _ _ _ _ _
  refine r_if_eq (t := 21) qX1_readRoom_10 (by decide) (fun hc10 => absurd hc10 (by decide)) (fun hc10 => ?_)
  refine r_aload_n qX1_readRoom_13 rfl ?_
  refine r_getr qX1_readRoom_14 fX1_18 rfl (by assumption) (by first | assumption | rfl) ?_
  refine r_iload_n qX1_readRoom_17 rfl ?_
  refine r_puti qX1_readRoom_18 fX1_87 (Or.inl rfl) rfl rfl rfl (by assumption) ?_
  refine r_vret qX1_readRoom_21 rfl rfl rfl ?_
  refine hK _ ?_
  rw [mRoom, h0, tB_o, h1, tB_o]
  exact G1.to hS (G1.2.2.1.room hC (tDeg_in h0).1) (zOu.w (by omega))
set_option maxHeartbeats 4000000 in
set_option maxRecDepth 20000 in
theorem c_X1_readPass {E : Ev} {g : Sh} {i : Ni} {j : Nj} {K : Kp} {rd tx L t : Nat} {B : Nat → Int32} {a : Nat → Nat} {N : Nat → Int32} {i0 : Ni}  (hS : yS g rd tx a) (hZ : zZr N) (hG : yG rd tx L B a N i0 (sNext B L t) i) (hK : ∀ i', yRes rd tx L B a N i0 (mPass N B L t) i' → K (.inl none) g i' j) : zCon E mX1_readPass [.ref rd] g i j K := by
  refine zcon_of (by decide +kernel) rfl rfl (lo := [.ref rd, zJ]) rfl (fun X => ?_)
  obtain ⟨hR, r5, hC, g0⟩ := id hS
  have r1 := hR.1
  have hO := hG.2.2.1.1
  obtain ⟨a1, a2, a3, a4, a5, a6, a7, a8, a9, a10, a11, a12, a13, a14, a15, a16, -⟩ := id hC
  obtain ⟨hBt, hB4⟩ := hO.B4
  obtain ⟨hSt, hS5⟩ := hO.S5
  have Kb1 : ∀ (y : Int32) (i1 : Ni) (c : Int32) (w : Nat), mPass N B L t = .error (c, w) → yE rd tx L B a N i0 c w i1 → zR E mX1_readPass (zZ E mX1_readPass K) X 14 [.ref rd, .int y] [.int (nI 0)] g i1 j 0 0 := by
    intro y i1 c w he e
    refine r_if_eq (t := 26) qX1_readPass_14 (by decide) (fun hc14 => ?_) (fun hc14 => absurd hc14 (by decide))
    refine r_vret qX1_readPass_26 rfl rfl rfl ?_
    refine hK _ ?_; rw [he]; exact e
  have Kb0 : ∀ (u : Int32) (i1 : Ni) (c : Int32) (w : Nat), mPass N B L t = .error (c, w) → yE rd tx L B a N i0 c w i1 → zR E mX1_readPass (zZ E mX1_readPass K) X 8 [.ref rd, zJ] [.int u] g i1 j 0 0 := by
    intro u i1 c w he e
    refine r_is_2_1 qX1_readPass_8 rfl rfl ?_
    refine r_aload_n qX1_readPass_9 rfl ?_
    refine r_iconst (v := nI 0) qX1_readPass_10 (by decide) ?_
    refine r_cv1 (cu2 := 0) (su2 := 0) qX1_readPass_11 kX1_83 rfl (by decide +kernel) (c := 1) (by assumption) (by decide) rfl rfl rfl rfl rfl rfl ?_
    refine yE_end hS e (fun i2 e2 => ?_)
    show zR E _ _ X 14 _ _ _ _ _ _ _
    exact Kb1 _ i2 c w he e2
  refine r_aload_n qX1_readPass_0 rfl ?_
  refine r_iconst (v := nI 0) qX1_readPass_1 (by decide) ?_
  refine r_sipush (v := nI 300) qX1_readPass_2 (by decide) ?_
  refine r_cv2 (cu2 := 0) (su2 := 0) qX1_readPass_5 kX1_79 rfl (by decide +kernel) (c := 1) (by assumption) (by decide) rfl rfl rfl rfl rfl rfl ?_
  refine y_num hS (by decide) hG (fun t0 v0 h0 ia0 G0 => ?_) (fun c w h i2 e => Kb0 _ i2 c w (by rw [mPass, h]; rfl) e)
  obtain ⟨l, el, -, hl⟩ := tNum_nat h0 (by decide) (by decide)
  subst el
  show zR E _ _ X 8 _ _ _ _ _ _ _
  refine r_is_2_1 qX1_readPass_8 rfl rfl ?_
  refine r_aload_n qX1_readPass_9 rfl ?_
  refine r_iconst (v := nI 0) qX1_readPass_10 (by decide) ?_
  refine r_cv1 (cu2 := 0) (su2 := 0) qX1_readPass_11 kX1_83 rfl (by decide +kernel) (c := 1) (by assumption) (by decide) rfl rfl rfl rfl rfl rfl ?_
  refine y_end (P := False) (dP := instDecidableFalse) hS G0 (fun t1 v1 h1 hp ia1 G1 => ?_) (fun c w h i2 e => Kb1 _ i2 c w (by rw [mPass, h0, tB_o, h]; rfl) e)
  show zR E _ _ X 14 _ _ _ _ _ _ _
  refine r_if_eq (t := 26) qX1_readPass_14 (by decide) (fun hc14 => absurd hc14 (by decide)) (fun hc14 => ?_)
  refine r_aload_n qX1_readPass_17 rfl ?_
  refine r_getr qX1_readPass_18 fX1_18 rfl (by assumption) (by first | assumption | rfl) ?_
  refine r_iload_n qX1_readPass_21 rfl ?_
  refine r_cv1 (cu2 := 0) (su2 := 0) qX1_readPass_22 kX1_238 rfl (by decide +kernel) (c := 0) (by assumption) (by decide) rfl rfl rfl rfl rfl rfl ?_
  refine c_X0_passMinutes hC G1.2.2.1 (show l < 1000 by omega) (fun i3 H3 o3 _ => ?_)
  show zR E _ _ X 25 _ _ _ _ _ _ _
  refine r_pop qX1_readPass_25 rfl ?_
  refine r_vret qX1_readPass_26 rfl rfl rfl ?_
  refine hK _ ?_
  rw [mPass, h0, tB_o, h1, tB_o, zn_nI (show l < 2 ^ 31 by omega)]
  exact G1.to hS (H3) (o3)
set_option maxHeartbeats 4000000 in
set_option maxRecDepth 20000 in
theorem c_X1_readThumb {E : Ev} {g : Sh} {i : Ni} {j : Nj} {K : Kp} {rd tx L t : Nat} {B : Nat → Int32} {a : Nat → Nat} {N : Nat → Int32} {i0 : Ni}  (hS : yS g rd tx a) (hZ : zZr N) (hG : yG rd tx L B a N i0 (sNext B L t) i) (hK : ∀ i', yRes rd tx L B a N i0 (mThumb N B L t) i' → K (.inl none) g i' j) : zCon E mX1_readThumb [.ref rd] g i j K := by
  refine zcon_of (by decide +kernel) rfl rfl (lo := [.ref rd, zJ, zJ]) rfl (fun X => ?_)
  obtain ⟨hR, r5, hC, g0⟩ := id hS
  have r1 := hR.1
  have hO := hG.2.2.1.1
  obtain ⟨a1, a2, a3, a4, a5, a6, a7, a8, a9, a10, a11, a12, a13, a14, a15, a16, -⟩ := id hC
  obtain ⟨hBt, hB4⟩ := hO.B4
  obtain ⟨hSt, hS5⟩ := hO.S5
  have Kb2 : ∀ (y : Nat) (z : Int32) (i1 : Ni) (c : Int32) (w : Nat), mThumb N B L t = .error (c, w) → yE rd tx L B a N i0 c w i1 → zR E mX1_readThumb (zZ E mX1_readThumb K) X 18 [.ref rd, .ref y, .int z] [.int (nI 0)] g i1 j 0 0 := by
    intro y z i1 c w he e
    refine r_if_eq (t := 44) qX1_readThumb_18 (by decide) (fun hc18 => ?_) (fun hc18 => absurd hc18 (by decide))
    refine r_vret qX1_readThumb_44 rfl rfl rfl ?_
    refine hK _ ?_; rw [he]; exact e
  have Kb1 : ∀ (u : Int32) (y : Nat) (i1 : Ni) (c : Int32) (w : Nat), mThumb N B L t = .error (c, w) → yE rd tx L B a N i0 c w i1 → zR E mX1_readThumb (zZ E mX1_readThumb K) X 12 [.ref rd, .ref y, zJ] [.int u] g i1 j 0 0 := by
    intro u y i1 c w he e
    refine r_is_3_2 qX1_readThumb_12 rfl rfl ?_
    refine r_aload_n qX1_readThumb_13 rfl ?_
    refine r_iconst (v := nI 0) qX1_readThumb_14 (by decide) ?_
    refine r_cv1 (cu2 := 0) (su2 := 0) qX1_readThumb_15 kX1_83 rfl (by decide +kernel) (c := 1) (by assumption) (by decide) rfl rfl rfl rfl rfl rfl ?_
    refine yE_end hS e (fun i2 e2 => ?_)
    show zR E _ _ X 18 _ _ _ _ _ _ _
    exact Kb2 _ _ i2 c w he e2
  have Kb0 : ∀ (i1 : Ni) (c : Int32) (w : Nat), mThumb N B L t = .error (c, w) → yE rd tx L B a N i0 c w i1 → zR E mX1_readThumb (zZ E mX1_readThumb K) X 4 [.ref rd, zJ, zJ] [.ref 0] g i1 j 0 0 := by
    intro i1 c w he e
    refine r_as_3_1 qX1_readThumb_4 rfl rfl ?_
    refine r_aload_n qX1_readThumb_5 rfl ?_
    refine r_iconst (v := nI 1) qX1_readThumb_6 (by decide) ?_
    refine r_bipush (v := nI 60) qX1_readThumb_7 (by decide) ?_
    refine r_cv2 (cu2 := 0) (su2 := 0) qX1_readThumb_9 kX1_79 rfl (by decide +kernel) (c := 1) (by assumption) (by decide) rfl rfl rfl rfl rfl rfl ?_
    refine yE_num hS e (fun i2 e2 => ?_)
    show zR E _ _ X 12 _ _ _ _ _ _ _
    exact Kb1 _ _ i2 c w he e2
  refine r_aload_n qX1_readThumb_0 rfl ?_
  refine r_cv0 (cu2 := 0) (su2 := 0) qX1_readThumb_1 kX1_192 rfl (by decide +kernel) (c := 1) (by assumption) (by decide) rfl rfl rfl rfl rfl rfl ?_
  refine y_tube hS hG (fun t0 k h0 hk ia0 G0 => ?_) (fun c w h i2 e => Kb0 i2 c w (by rw [mThumb, h]; rfl) e)
  have k8 := hO.k8 hk
  have kz := hS.nz k8
  obtain ⟨tb1, hT3⟩ := hC.tb k8
  have u1 := hT3.1
  have zk : zn (nI k) = k := zn_nI (by omega)
  show zR E _ _ X 4 _ _ _ _ _ _ _
  refine r_as_3_1 qX1_readThumb_4 rfl rfl ?_
  refine r_aload_n qX1_readThumb_5 rfl ?_
  refine r_iconst (v := nI 1) qX1_readThumb_6 (by decide) ?_
  refine r_bipush (v := nI 60) qX1_readThumb_7 (by decide) ?_
  refine r_cv2 (cu2 := 0) (su2 := 0) qX1_readThumb_9 kX1_79 rfl (by decide +kernel) (c := 1) (by assumption) (by decide) rfl rfl rfl rfl rfl rfl ?_
  refine y_num hS (by decide) G0 (fun t1 v1 h1 ia1 G1 => ?_) (fun c w h i2 e => Kb1 _ _ i2 c w (by rw [mThumb, h0, tB_o, h]; rfl) e)
  show zR E _ _ X 12 _ _ _ _ _ _ _
  refine r_is_3_2 qX1_readThumb_12 rfl rfl ?_
  refine r_aload_n qX1_readThumb_13 rfl ?_
  refine r_iconst (v := nI 0) qX1_readThumb_14 (by decide) ?_
  refine r_cv1 (cu2 := 0) (su2 := 0) qX1_readThumb_15 kX1_83 rfl (by decide +kernel) (c := 1) (by assumption) (by decide) rfl rfl rfl rfl rfl rfl ?_
  refine y_end (P := False) (dP := instDecidableFalse) hS G1 (fun t2 v2 h2 hp ia2 G2 => ?_) (fun c w h i2 e => Kb2 _ _ i2 c w (by rw [mThumb, h0, tB_o, h1, tB_o, h]; rfl) e)
  show zR E _ _ X 18 _ _ _ _ _ _ _
  refine r_if_eq (t := 44) qX1_readThumb_18 (by decide) (fun hc18 => absurd hc18 (by decide)) (fun hc18 => ?_)
  refine r_aload_n qX1_readThumb_21 rfl ?_
  refine r_ifnull (t := 44) qX1_readThumb_22 (by decide) (fun hc22 => absurd hc22 (kz)) (fun hc22 => ?_)
  refine r_aload_n qX1_readThumb_25 rfl ?_
  refine r_getr qX1_readThumb_26 fX1_18 rfl (by assumption) (by first | assumption | rfl) ?_
  refine r_aload_n qX1_readThumb_29 rfl ?_
  refine r_geti qX1_readThumb_30 fX1_219 rfl (by assumption) ?_
  rw [(G2.2.2.1.tu hk).1]
  refine r_puti qX1_readThumb_33 fX1_222 (Or.inl rfl) rfl rfl rfl (by assumption) ?_
  refine r_aload_n qX1_readThumb_36 rfl ?_
  refine r_getr qX1_readThumb_37 fX1_18 rfl (by assumption) (by first | assumption | rfl) ?_
  refine r_iload_n qX1_readThumb_40 rfl ?_
  refine r_puti qX1_readThumb_41 fX1_225 (Or.inl rfl) rfl rfl rfl (by assumption) ?_
  simp only [wA_s, wA_wA]
  refine r_vret qX1_readThumb_44 rfl rfl rfl ?_
  refine hK _ ?_
  rw [mThumb, h0, tB_o, h1, tB_o, h2, tB_o, zk]
  exact G2.to hS (G2.2.2.1.thumb hC hk (tNum_zin h1 (by decide) (by decide))) (zOu.w (by omega))
set_option maxHeartbeats 4000000 in
set_option maxRecDepth 20000 in
theorem c_X1_readLift {E : Ev} {g : Sh} {i : Ni} {j : Nj} {K : Kp} {rd tx L t : Nat} {B : Nat → Int32} {a : Nat → Nat} {N : Nat → Int32} {i0 : Ni}  (hS : yS g rd tx a) (hZ : zZr N) (hG : yG rd tx L B a N i0 (sNext B L t) i) (hK : ∀ i', yRes rd tx L B a N i0 (mLift N B L t) i' → K (.inl none) g i' j) : zCon E mX1_readLift [.ref rd] g i j K := by
  refine zcon_of (by decide +kernel) rfl rfl (lo := [.ref rd, zJ, zJ]) rfl (fun X => ?_)
  obtain ⟨hR, r5, hC, g0⟩ := id hS
  have r1 := hR.1
  have hO := hG.2.2.1.1
  obtain ⟨a1, a2, a3, a4, a5, a6, a7, a8, a9, a10, a11, a12, a13, a14, a15, a16, -⟩ := id hC
  obtain ⟨hBt, hB4⟩ := hO.B4
  obtain ⟨hSt, hS5⟩ := hO.S5
  have Kb1 : ∀ (y : Nat) (z : Int32) (i1 : Ni) (c : Int32) (w : Nat), mLift N B L t = .error (c, w) → yE rd tx L B a N i0 c w i1 → zR E mX1_readLift (zZ E mX1_readLift K) X 28 [.ref rd, .ref y, .int z] [.int (nI 0)] g i1 j 0 0 := by
    intro y z i1 c w he e
    refine r_if_eq (t := 40) qX1_readLift_28 (by decide) (fun hc28 => ?_) (fun hc28 => absurd hc28 (by decide))
    refine r_vret qX1_readLift_40 rfl rfl rfl ?_
    refine hK _ ?_; rw [he]; exact e
  have Kb0 : ∀ (i1 : Ni) (c : Int32) (w : Nat), mLift N B L t = .error (c, w) → yE rd tx L B a N i0 c w i1 → zR E mX1_readLift (zZ E mX1_readLift K) X 4 [.ref rd, zJ, zJ] [.ref 0] g i1 j 0 0 := by
    intro i1 c w he e
    refine r_as_3_1 qX1_readLift_4 rfl rfl ?_
    refine r_aload_n qX1_readLift_5 rfl ?_
    refine r_ifnull (t := 21) qX1_readLift_6 (by decide) (fun hc6 => ?_) (fun hc6 => absurd hc6 (fun h => h rfl))
    refine r_iconst (v := nI 0) qX1_readLift_21 (by decide) ?_
    refine r_is_3_2 qX1_readLift_22 rfl rfl ?_
    refine r_aload_n qX1_readLift_23 rfl ?_
    refine r_iload_n qX1_readLift_24 rfl ?_
    refine r_cv1 (cu2 := 0) (su2 := 0) qX1_readLift_25 kX1_83 rfl (by decide +kernel) (c := 1) (by assumption) (by decide) rfl rfl rfl rfl rfl rfl ?_
    refine yE_end hS e (fun i2 e2 => ?_)
    show zR E _ _ X 28 _ _ _ _ _ _ _
    exact Kb1 _ _ i2 c w he e2
  have Kj : ∀ (k t0 : Nat) (ia0 : Ni), k < zn (N 5) → tNum B L (nI 0) (N 5 - nI 1) (sNext B L t) = .ok (t0, nI k) → yG rd tx L B a N i0 t0 ia0 → ∀ v : Int32, v = zb (N (42 + 21 * k + 7) = -1) → zR E mX1_readLift (zZ E mX1_readLift K) X 22 [.ref rd, .ref (a (6 + 3 * k)), zJ] [.int v] g ia0 j 0 0 := by
    intro k t0 ia0 hk h0 G0 v hv
    subst hv
    have k8 := hO.k8 hk
    have kz := hS.nz k8
    obtain ⟨tb1, hT3⟩ := hC.tb k8
    have u1 := hT3.1
    have zk : zn (nI k) = k := zn_nI (by omega)
    refine r_is_3_2 qX1_readLift_22 rfl rfl ?_
    refine r_aload_n qX1_readLift_23 rfl ?_
    refine r_iload_n qX1_readLift_24 rfl ?_
    refine r_cv1 (cu2 := 0) (su2 := 0) qX1_readLift_25 kX1_83 rfl (by decide +kernel) (c := 1) (by assumption) (by decide) rfl rfl rfl rfl rfl rfl ?_
    refine y_end (P := N (42 + 21 * k + 7) = -1) hS G0 (fun t1 v1 h1 hp ia1 G1 => ?_) (fun c w h i2 e => Kb1 _ _ i2 c w (by rw [mLift, h0, tB_o, zk, h]; rfl) e)
    show zR E _ _ X 28 _ _ _ _ _ _ _
    refine r_if_eq (t := 40) qX1_readLift_28 (by decide) (fun hc28 => absurd hc28 (by decide)) (fun hc28 => ?_)
    refine r_aload_n qX1_readLift_31 rfl ?_
    refine r_ifnull (t := 40) qX1_readLift_32 (by decide) (fun hc32 => absurd hc32 (kz)) (fun hc32 => ?_)
    refine r_aload_n qX1_readLift_35 rfl ?_
    refine r_iconst (v := (-1)) qX1_readLift_36 (by decide) ?_
    refine r_puti qX1_readLift_37 fX1_209 (Or.inl rfl) rfl rfl rfl (by assumption) ?_
    refine r_vret qX1_readLift_40 rfl rfl rfl ?_
    refine hK _ ?_
    rw [mLift, h0, tB_o, zk, h1, tB_o]
    exact G1.to hS (G1.2.2.1.bath hC hk (Or.inl rfl)) (zOu.w (by omega))
  refine r_aload_n qX1_readLift_0 rfl ?_
  refine r_cv0 (cu2 := 0) (su2 := 0) qX1_readLift_1 kX1_192 rfl (by decide +kernel) (c := 1) (by assumption) (by decide) rfl rfl rfl rfl rfl rfl ?_
  refine y_tube hS hG (fun t0 k h0 hk ia0 G0 => ?_) (fun c w h i2 e => Kb0 i2 c w (by rw [mLift, h]; rfl) e)
  have k8 := hO.k8 hk
  have kz := hS.nz k8
  obtain ⟨tb1, hT3⟩ := hC.tb k8
  have u1 := hT3.1
  have zk : zn (nI k) = k := zn_nI (by omega)
  show zR E _ _ X 4 _ _ _ _ _ _ _
  refine r_as_3_1 qX1_readLift_4 rfl rfl ?_
  refine r_aload_n qX1_readLift_5 rfl ?_
  refine r_ifnull (t := 21) qX1_readLift_6 (by decide) (fun hc6 => absurd hc6 (kz)) (fun hc6 => ?_)
  refine r_aload_n qX1_readLift_9 rfl ?_
  refine r_geti qX1_readLift_10 fX1_209 rfl (by assumption) ?_
  rw [(G0.2.2.1.tu hk).2.2.2.2.2.2.2.2.2.1]
  refine r_iconst (v := (-1)) qX1_readLift_13 (by decide) ?_
  refine r_icmp_ne (t := 21) qX1_readLift_14 (by decide) (fun hc14 => ?_) (fun hc14 => ?_)
  · refine r_iconst (v := nI 0) qX1_readLift_21 (by decide) ?_
    first | exact Kj k t0 _ hk h0 G0 _ (zb_f (p := N (42 + 21 * k + 7) = -1) hc14).symm | exact Kj k t0 _ hk h0 G0 _ (zb_t (p := N (42 + 21 * k + 7) = -1) hc14).symm
  · refine r_iconst (v := nI 1) qX1_readLift_17 (by decide) ?_
    refine r_goto (t := 22) qX1_readLift_18 (by decide) ?_
    first | exact Kj k t0 _ hk h0 G0 _ (zb_f (p := N (42 + 21 * k + 7) = -1) hc14).symm | exact Kj k t0 _ hk h0 G0 _ (zb_t (p := N (42 + 21 * k + 7) = -1) hc14).symm
set_option maxHeartbeats 4000000 in
set_option maxRecDepth 20000 in
theorem c_X1_readMark {E : Ev} {g : Sh} {i : Ni} {j : Nj} {K : Kp} {rd tx L t : Nat} {B : Nat → Int32} {a : Nat → Nat} {N : Nat → Int32} {i0 : Ni}  (hS : yS g rd tx a) (hZ : zZr N) (hG : yG rd tx L B a N i0 (sNext B L t) i) (hK : ∀ i', yRes rd tx L B a N i0 (mMark N B L t) i' → K (.inl none) g i' j) : zCon E mX1_readMark [.ref rd] g i j K := by
  refine zcon_of (by decide +kernel) rfl rfl (lo := [.ref rd, zJ, zJ]) rfl (fun X => ?_)
  obtain ⟨hR, r5, hC, g0⟩ := id hS
  have r1 := hR.1
  have hO := hG.2.2.1.1
  obtain ⟨a1, a2, a3, a4, a5, a6, a7, a8, a9, a10, a11, a12, a13, a14, a15, a16, -⟩ := id hC
  obtain ⟨hBt, hB4⟩ := hO.B4
  obtain ⟨hSt, hS5⟩ := hO.S5
  have Kb1 : ∀ (y : Nat) (z : Int32) (i1 : Ni) (c : Int32) (w : Nat), mMark N B L t = .error (c, w) → yE rd tx L B a N i0 c w i1 → zR E mX1_readMark (zZ E mX1_readMark K) X 31 [.ref rd, .ref y, .int z] [.int (nI 0)] g i1 j 0 0 := by
    intro y z i1 c w he e
    refine r_if_eq (t := 46) qX1_readMark_31 (by decide) (fun hc31 => ?_) (fun hc31 => absurd hc31 (by decide))
    refine r_vret qX1_readMark_46 rfl rfl rfl ?_
    refine hK _ ?_; rw [he]; exact e
  have Kb0 : ∀ (i1 : Ni) (c : Int32) (w : Nat), mMark N B L t = .error (c, w) → yE rd tx L B a N i0 c w i1 → zR E mX1_readMark (zZ E mX1_readMark K) X 4 [.ref rd, zJ, zJ] [.ref 0] g i1 j 0 0 := by
    intro i1 c w he e
    refine r_as_3_1 qX1_readMark_4 rfl rfl ?_
    refine r_aload_n qX1_readMark_5 rfl ?_
    refine r_ifnull (t := 24) qX1_readMark_6 (by decide) (fun hc6 => ?_) (fun hc6 => absurd hc6 (fun h => h rfl))
    refine r_iconst (v := nI 0) qX1_readMark_24 (by decide) ?_
    refine r_is_3_2 qX1_readMark_25 rfl rfl ?_
    refine r_aload_n qX1_readMark_26 rfl ?_
    refine r_iload_n qX1_readMark_27 rfl ?_
    refine r_cv1 (cu2 := 0) (su2 := 0) qX1_readMark_28 kX1_83 rfl (by decide +kernel) (c := 1) (by assumption) (by decide) rfl rfl rfl rfl rfl rfl ?_
    refine yE_end hS e (fun i2 e2 => ?_)
    show zR E _ _ X 31 _ _ _ _ _ _ _
    exact Kb1 _ _ i2 c w he e2
  have Kj : ∀ (k t0 : Nat) (ia0 : Ni), k < zn (N 5) → tNum B L (nI 0) (N 5 - nI 1) (sNext B L t) = .ok (t0, nI k) → yG rd tx L B a N i0 t0 ia0 → ∀ v : Int32, v = zb (¬ sMark N k = 0) → zR E mX1_readMark (zZ E mX1_readMark K) X 25 [.ref rd, .ref (a (6 + 3 * k)), zJ] [.int v] g ia0 j 0 0 := by
    intro k t0 ia0 hk h0 G0 v hv
    subst hv
    have k8 := hO.k8 hk
    have kz := hS.nz k8
    obtain ⟨tb1, hT3⟩ := hC.tb k8
    have u1 := hT3.1
    have zk : zn (nI k) = k := zn_nI (by omega)
    refine r_is_3_2 qX1_readMark_25 rfl rfl ?_
    refine r_aload_n qX1_readMark_26 rfl ?_
    refine r_iload_n qX1_readMark_27 rfl ?_
    refine r_cv1 (cu2 := 0) (su2 := 0) qX1_readMark_28 kX1_83 rfl (by decide +kernel) (c := 1) (by assumption) (by decide) rfl rfl rfl rfl rfl rfl ?_
    refine y_end (P := ¬ sMark N k = 0) hS G0 (fun t1 v1 h1 hp ia1 G1 => ?_) (fun c w h i2 e => Kb1 _ _ i2 c w (by rw [mMark, h0, tB_o, zk, h]; rfl) e)
    show zR E _ _ X 31 _ _ _ _ _ _ _
    refine r_if_eq (t := 46) qX1_readMark_31 (by decide) (fun hc31 => absurd hc31 (by decide)) (fun hc31 => ?_)
    refine r_aload_n qX1_readMark_34 rfl ?_
    refine r_ifnull (t := 46) qX1_readMark_35 (by decide) (fun hc35 => absurd hc35 (kz)) (fun hc35 => ?_)
    refine r_aload_n qX1_readMark_38 rfl ?_
    refine r_getr qX1_readMark_39 fX1_18 rfl (by assumption) (by first | assumption | rfl) ?_
    refine r_aload_n qX1_readMark_42 rfl ?_
    refine r_cv1 (cu2 := 0) (su2 := 0) qX1_readMark_43 kX1_215 rfl (by decide +kernel) (c := 0) (by assumption) (by decide) rfl rfl rfl rfl rfl rfl ?_
    refine c_X0_markPoint hC G1.2.2.1 hk (Classical.not_not.mp hp) (fun i3 H3 o3 _ => ?_)
    show zR E _ _ X 46 _ _ _ _ _ _ _
    refine r_vret qX1_readMark_46 rfl rfl rfl ?_
    refine hK _ ?_
    rw [mMark, h0, tB_o, zk, h1, tB_o]
    exact G1.to hS (H3) (o3)
  refine r_aload_n qX1_readMark_0 rfl ?_
  refine r_cv0 (cu2 := 0) (su2 := 0) qX1_readMark_1 kX1_192 rfl (by decide +kernel) (c := 1) (by assumption) (by decide) rfl rfl rfl rfl rfl rfl ?_
  refine y_tube hS hG (fun t0 k h0 hk ia0 G0 => ?_) (fun c w h i2 e => Kb0 i2 c w (by rw [mMark, h]; rfl) e)
  have k8 := hO.k8 hk
  have kz := hS.nz k8
  obtain ⟨tb1, hT3⟩ := hC.tb k8
  have u1 := hT3.1
  have zk : zn (nI k) = k := zn_nI (by omega)
  show zR E _ _ X 4 _ _ _ _ _ _ _
  refine r_as_3_1 qX1_readMark_4 rfl rfl ?_
  refine r_aload_n qX1_readMark_5 rfl ?_
  refine r_ifnull (t := 24) qX1_readMark_6 (by decide) (fun hc6 => absurd hc6 (kz)) (fun hc6 => ?_)
  refine r_aload_n qX1_readMark_9 rfl ?_
  refine r_getr qX1_readMark_10 fX1_18 rfl (by assumption) (by first | assumption | rfl) ?_
  refine r_aload_n qX1_readMark_13 rfl ?_
  refine r_cv1 (cu2 := 0) (su2 := 0) qX1_readMark_14 kX1_211 rfl (by decide +kernel) (c := 0) (by assumption) (by decide) rfl rfl rfl rfl rfl rfl ?_
  refine c_X0_whyNotMark hC G0.2.2.1 hk ?_
  show zR E _ _ X 17 _ _ _ _ _ _ _
  refine r_if_eq (t := 24) qX1_readMark_17 (by decide) (fun hc17 => ?_) (fun hc17 => ?_)
  · refine r_iconst (v := nI 0) qX1_readMark_24 (by decide) ?_
    first | exact Kj k t0 _ hk h0 G0 _ (zb_f (p := ¬ sMark N k = 0) (fun h => h hc17)).symm | exact Kj k t0 _ hk h0 G0 _ (zb_t (p := ¬ sMark N k = 0) hc17).symm
  · refine r_iconst (v := nI 1) qX1_readMark_20 (by decide) ?_
    refine r_goto (t := 25) qX1_readMark_21 (by decide) ?_
    first | exact Kj k t0 _ hk h0 G0 _ (zb_f (p := ¬ sMark N k = 0) (fun h => h hc17)).symm | exact Kj k t0 _ hk h0 G0 _ (zb_t (p := ¬ sMark N k = 0) hc17).symm
set_option maxHeartbeats 4000000 in
set_option maxRecDepth 20000 in
theorem c_X1_readErase {E : Ev} {g : Sh} {i : Ni} {j : Nj} {K : Kp} {rd tx L t : Nat} {B : Nat → Int32} {a : Nat → Nat} {N : Nat → Int32} {i0 : Ni}  (hS : yS g rd tx a) (hZ : zZr N) (hG : yG rd tx L B a N i0 (sNext B L t) i) (hK : ∀ i', yRes rd tx L B a N i0 (mErase N B L t) i' → K (.inl none) g i' j) : zCon E mX1_readErase [.ref rd] g i j K := by
  refine zcon_of (by decide +kernel) rfl rfl (lo := [.ref rd, zJ, zJ]) rfl (fun X => ?_)
  obtain ⟨hR, r5, hC, g0⟩ := id hS
  have r1 := hR.1
  have hO := hG.2.2.1.1
  obtain ⟨a1, a2, a3, a4, a5, a6, a7, a8, a9, a10, a11, a12, a13, a14, a15, a16, -⟩ := id hC
  obtain ⟨hBt, hB4⟩ := hO.B4
  obtain ⟨hSt, hS5⟩ := hO.S5
  have Kb2 : ∀ (y : Nat) (z : Int32) (i1 : Ni) (c : Int32) (w : Nat), mErase N B L t = .error (c, w) → yE rd tx L B a N i0 c w i1 → zR E mX1_readErase (zZ E mX1_readErase K) X 30 [.ref rd, .ref y, .int z] [.int (nI 0)] g i1 j 0 0 := by
    intro y z i1 c w he e
    refine r_if_eq (t := 42) qX1_readErase_30 (by decide) (fun hc30 => ?_) (fun hc30 => absurd hc30 (by decide))
    refine r_vret qX1_readErase_42 rfl rfl rfl ?_
    refine hK _ ?_; rw [he]; exact e
  have Kb1 : ∀ (u : Int32) (y : Nat) (i1 : Ni) (c : Int32) (w : Nat), mErase N B L t = .error (c, w) → yE rd tx L B a N i0 c w i1 → zR E mX1_readErase (zZ E mX1_readErase K) X 24 [.ref rd, .ref y, zJ] [.int u] g i1 j 0 0 := by
    intro u y i1 c w he e
    refine r_is_3_2 qX1_readErase_24 rfl rfl ?_
    refine r_aload_n qX1_readErase_25 rfl ?_
    refine r_iconst (v := nI 0) qX1_readErase_26 (by decide) ?_
    refine r_cv1 (cu2 := 0) (su2 := 0) qX1_readErase_27 kX1_83 rfl (by decide +kernel) (c := 1) (by assumption) (by decide) rfl rfl rfl rfl rfl rfl ?_
    refine yE_end hS e (fun i2 e2 => ?_)
    show zR E _ _ X 30 _ _ _ _ _ _ _
    exact Kb2 _ _ i2 c w he e2
  have Kb0 : ∀ (i1 : Ni) (c : Int32) (w : Nat), mErase N B L t = .error (c, w) → yE rd tx L B a N i0 c w i1 → zR E mX1_readErase (zZ E mX1_readErase K) X 4 [.ref rd, zJ, zJ] [.ref 0] g i1 j 0 0 := by
    intro i1 c w he e
    refine r_as_3_1 qX1_readErase_4 rfl rfl ?_
    refine r_aload_n qX1_readErase_5 rfl ?_
    refine r_ifnonnull (t := 13) qX1_readErase_6 (by decide) (fun hc6 => absurd hc6 (fun h => h rfl)) (fun hc6 => ?_)
    refine r_iconst (v := (-1)) qX1_readErase_9 (by decide) ?_
    refine r_goto (t := 24) qX1_readErase_10 (by decide) ?_
    exact Kb1 _ _ i1 c w he e
  refine r_aload_n qX1_readErase_0 rfl ?_
  refine r_cv0 (cu2 := 0) (su2 := 0) qX1_readErase_1 kX1_192 rfl (by decide +kernel) (c := 1) (by assumption) (by decide) rfl rfl rfl rfl rfl rfl ?_
  refine y_tube hS hG (fun t0 k h0 hk ia0 G0 => ?_) (fun c w h i2 e => Kb0 i2 c w (by rw [mErase, h]; rfl) e)
  have k8 := hO.k8 hk
  have kz := hS.nz k8
  obtain ⟨tb1, hT3⟩ := hC.tb k8
  have u1 := hT3.1
  have zk : zn (nI k) = k := zn_nI (by omega)
  obtain ⟨hm, hm6⟩ := hO.many hk
  have f3 := (G0.2.2.1.tu hk).2.1
  have h9 : (N (42 + 21 * k + 8) - nI 1).toInt ≤ 999 := by
    rw [hm, Int32.toInt_sub, nI_toInt (by omega), nI_toInt (by omega), Int.bmod_eq_of_le] <;> omega
  show zR E _ _ X 4 _ _ _ _ _ _ _
  refine r_as_3_1 qX1_readErase_4 rfl rfl ?_
  refine r_aload_n qX1_readErase_5 rfl ?_
  refine r_ifnonnull (t := 13) qX1_readErase_6 (by decide) (fun hc6 => ?_) (fun hc6 => absurd hc6 (kz))
  refine r_aload_n qX1_readErase_13 rfl ?_
  refine r_iconst (v := nI 0) qX1_readErase_14 (by decide) ?_
  refine r_aload_n qX1_readErase_15 rfl ?_
  refine r_geti qX1_readErase_16 fX1_232 rfl (by assumption) ?_
  rw [f3]
  refine r_iconst (v := nI 1) qX1_readErase_19 (by decide) ?_
  refine r_isub qX1_readErase_20 ?_
  refine r_cv2 (cu2 := 0) (su2 := 0) qX1_readErase_21 kX1_79 rfl (by decide +kernel) (c := 1) (by assumption) (by decide) rfl rfl rfl rfl rfl rfl ?_
  refine y_num hS h9 G0 (fun t1 v1 h1 ia1 G1 => ?_) (fun c w h i2 e => Kb1 _ _ i2 c w (by rw [mErase, h0, tB_o, zk, h]; rfl) e)
  obtain ⟨q, eq, hq⟩ := tPoint_nat hO hk h1
  subst eq
  show zR E _ _ X 24 _ _ _ _ _ _ _
  refine r_is_3_2 qX1_readErase_24 rfl rfl ?_
  refine r_aload_n qX1_readErase_25 rfl ?_
  refine r_iconst (v := nI 0) qX1_readErase_26 (by decide) ?_
  refine r_cv1 (cu2 := 0) (su2 := 0) qX1_readErase_27 kX1_83 rfl (by decide +kernel) (c := 1) (by assumption) (by decide) rfl rfl rfl rfl rfl rfl ?_
  refine y_end (P := False) (dP := instDecidableFalse) hS G1 (fun t2 v2 h2 hp ia2 G2 => ?_) (fun c w h i2 e => Kb2 _ _ i2 c w (by rw [mErase, h0, tB_o, zk, h1, tB_o, h]; rfl) e)
  show zR E _ _ X 30 _ _ _ _ _ _ _
  refine r_if_eq (t := 42) qX1_readErase_30 (by decide) (fun hc30 => absurd hc30 (by decide)) (fun hc30 => ?_)
  refine r_aload_n qX1_readErase_33 rfl ?_
  refine r_ifnull (t := 42) qX1_readErase_34 (by decide) (fun hc34 => absurd hc34 (kz)) (fun hc34 => ?_)
  refine r_aload_n qX1_readErase_37 rfl ?_
  refine r_iload_n qX1_readErase_38 rfl ?_
  refine r_cv1 (cu2 := 0) (su2 := 0) qX1_readErase_39 kX1_235 rfl (by decide +kernel) (c := 2) (by assumption) (by decide) rfl rfl rfl rfl rfl rfl ?_
  refine c_X2_removePoint hT3 ((G2.2.2.1.tu hk).2.1.trans hm) hm6 hq (fun i3 q1 q2 q3 q4 => ?_)
  show zR E _ _ X 42 _ _ _ _ _ _ _
  refine r_vret qX1_readErase_42 rfl rfl rfl ?_
  refine hK _ ?_
  rw [mErase, h0, tB_o, zk, h1, tB_o, zn_nI (show q < 2 ^ 31 by omega), h2, tB_o]
  exact G2.to hS (G2.2.2.1.erase hC hk hq q1 q2 q3 q4) (fun r hr => q4 r (hr _ (by omega)) (hr _ (by omega)) (hr _ (by omega)))
set_option maxHeartbeats 4000000 in
set_option maxRecDepth 20000 in
theorem c_X1_readFill {E : Ev} {g : Sh} {i : Ni} {j : Nj} {K : Kp} {rd tx L t : Nat} {B : Nat → Int32} {a : Nat → Nat} {N : Nat → Int32} {i0 : Ni}  (hS : yS g rd tx a) (hZ : zZr N) (hG : yG rd tx L B a N i0 (sNext B L t) i) (hK : ∀ i', yRes rd tx L B a N i0 (mFill N B L t) i' → K (.inl none) g i' j) : zCon E mX1_readFill [.ref rd] g i j K := by
  refine zcon_of (by decide +kernel) rfl rfl (lo := [.ref rd, zJ, zJ, zJ]) rfl (fun X => ?_)
  obtain ⟨hR, r5, hC, g0⟩ := id hS
  have r1 := hR.1
  have hO := hG.2.2.1.1
  obtain ⟨a1, a2, a3, a4, a5, a6, a7, a8, a9, a10, a11, a12, a13, a14, a15, a16, -⟩ := id hC
  obtain ⟨hBt, hB4⟩ := hO.B4
  obtain ⟨hSt, hS5⟩ := hO.S5
  have Kb2 : ∀ (y : Nat) (z x : Int32) (i1 : Ni) (c : Int32) (w : Nat), mFill N B L t = .error (c, w) → yE rd tx L B a N i0 c w i1 → zR E mX1_readFill (zZ E mX1_readFill K) X 41 [.ref rd, .ref y, .int z, .int x] [.int (nI 0)] g i1 j 0 0 := by
    intro y z x i1 c w he e
    refine r_if_eq (t := 53) qX1_readFill_41 (by decide) (fun hc41 => ?_) (fun hc41 => absurd hc41 (by decide))
    refine r_vret qX1_readFill_53 rfl rfl rfl ?_
    refine hK _ ?_; rw [he]; exact e
  have Kb35 : ∀ (u : Int32) (y : Nat) (z : Int32) (i1 : Ni) (c : Int32) (w : Nat), mFill N B L t = .error (c, w) → yE rd tx L B a N i0 c w i1 → zR E mX1_readFill (zZ E mX1_readFill K) X 35 [.ref rd, .ref y, .int z, zJ] [.int u] g i1 j 0 0 := by
    intro u y z i1 c w he e
    refine r_is_4_3 qX1_readFill_35 rfl rfl ?_
    refine r_aload_n qX1_readFill_36 rfl ?_
    refine r_iload_n qX1_readFill_37 rfl ?_
    refine r_cv1 (cu2 := 0) (su2 := 0) qX1_readFill_38 kX1_83 rfl (by decide +kernel) (c := 1) (by assumption) (by decide) rfl rfl rfl rfl rfl rfl ?_
    refine yE_end hS e (fun i2 e2 => ?_)
    show zR E _ _ X 41 _ _ _ _ _ _ _
    exact Kb2 _ _ _ i2 c w he e2
  have Kb1 : ∀ (u : Int32) (k : Nat) (i1 : Ni) (c : Int32) (w : Nat), k < zn (N 5) → mFill N B L t = .error (c, w) → yE rd tx L B a N i0 c w i1 → zR E mX1_readFill (zZ E mX1_readFill K) X 13 [.ref rd, .ref (a (6 + 3 * k)), zJ, zJ] [.int u] g i1 j 0 0 := by
    intro u k i1 c w hk he e
    have k8 := hO.k8 hk
    have kz := hS.nz k8
    obtain ⟨tb1, hT3⟩ := hC.tb k8
    have u1 := hT3.1
    have zk : zn (nI k) = k := zn_nI (by omega)
    refine r_is_4_2 qX1_readFill_13 rfl rfl ?_
    refine r_aload_n qX1_readFill_14 rfl ?_
    refine r_ifnull (t := 34) qX1_readFill_15 (by decide) (fun hc15 => absurd hc15 (kz)) (fun hc15 => ?_)
    refine r_aload_n qX1_readFill_18 rfl ?_
    refine r_geti qX1_readFill_19 fX1_228 rfl (by assumption) ?_
    refine r_iload_n qX1_readFill_22 rfl ?_
    first | with_reducible refine r_iaddN qX1_readFill_23 ?_ | refine r_iadd qX1_readFill_23 ?_
    refine r_sipush (v := nI 999) qX1_readFill_24 (by decide) ?_
    refine r_icmp_le (t := 34) qX1_readFill_27 (by decide) (fun hc27 => ?_) (fun hc27 => ?_)
    · refine r_iconst (v := nI 0) qX1_readFill_34 (by decide) ?_
      exact Kb35 _ _ _ i1 c w he e
    · refine r_iconst (v := nI 1) qX1_readFill_30 (by decide) ?_
      refine r_goto (t := 35) qX1_readFill_31 (by decide) ?_
      exact Kb35 _ _ _ i1 c w he e
  have Kb0 : ∀ (i1 : Ni) (c : Int32) (w : Nat), mFill N B L t = .error (c, w) → yE rd tx L B a N i0 c w i1 → zR E mX1_readFill (zZ E mX1_readFill K) X 4 [.ref rd, zJ, zJ, zJ] [.ref 0] g i1 j 0 0 := by
    intro i1 c w he e
    refine r_as_4_1 qX1_readFill_4 rfl rfl ?_
    refine r_aload_n qX1_readFill_5 rfl ?_
    refine r_iconst (v := nI 1) qX1_readFill_6 (by decide) ?_
    refine r_sipush (v := nI 999) qX1_readFill_7 (by decide) ?_
    refine r_cv2 (cu2 := 0) (su2 := 0) qX1_readFill_10 kX1_79 rfl (by decide +kernel) (c := 1) (by assumption) (by decide) rfl rfl rfl rfl rfl rfl ?_
    refine yE_num hS e (fun i2 e2 => ?_)
    show zR E _ _ X 13 _ _ _ _ _ _ _
    refine r_is_4_2 qX1_readFill_13 rfl rfl ?_
    refine r_aload_n qX1_readFill_14 rfl ?_
    refine r_ifnull (t := 34) qX1_readFill_15 (by decide) (fun hc15 => ?_) (fun hc15 => absurd hc15 (fun h => h rfl))
    refine r_iconst (v := nI 0) qX1_readFill_34 (by decide) ?_
    exact Kb35 _ _ _ i2 c w he e2
  have Kj : ∀ (k t0 t1 : Nat) (v1 : Int32) (ia1 : Ni), k < zn (N 5) → tNum B L (nI 0) (N 5 - nI 1) (sNext B L t) = .ok (t0, nI k) → tNum B L (nI 1) (nI 999) t0 = .ok (t1, v1) → yG rd tx L B a N i0 t1 ia1 → ∀ v : Int32, v = zb (nI 999 < N (42 + 21 * k + 4) + v1) → zR E mX1_readFill (zZ E mX1_readFill K) X 35 [.ref rd, .ref (a (6 + 3 * k)), .int v1, zJ] [.int v] g ia1 j 0 0 := by
    intro k t0 t1 v1 ia1 hk h0 h1 G1 v hv
    subst hv
    have k8 := hO.k8 hk
    have kz := hS.nz k8
    obtain ⟨tb1, hT3⟩ := hC.tb k8
    have u1 := hT3.1
    have zk : zn (nI k) = k := zn_nI (by omega)
    refine r_is_4_3 qX1_readFill_35 rfl rfl ?_
    refine r_aload_n qX1_readFill_36 rfl ?_
    refine r_iload_n qX1_readFill_37 rfl ?_
    refine r_cv1 (cu2 := 0) (su2 := 0) qX1_readFill_38 kX1_83 rfl (by decide +kernel) (c := 1) (by assumption) (by decide) rfl rfl rfl rfl rfl rfl ?_
    refine y_end (P := nI 999 < N (42 + 21 * k + 4) + v1) hS G1 (fun t2 v2 h2 hp ia2 G2 => ?_) (fun c w h i2 e => Kb2 _ _ _ i2 c w (by rw [mFill, h0, tB_o, zk, h1, tB_o, h]; rfl) e)
    have hz : zIn (N (42 + 21 * k + 4) + v1) 0 999 := by
      have hf : zIn (N (42 + 21 * k + 4)) 0 999 := by
        obtain ⟨-, -, -, -, z4, -⟩ := hO.tu hk
        exact z4
      have hv1 := tNum_zin h1 (by decide) (by decide)
      have hs := add_in hf hv1 (by decide) (by decide) (by decide) (by decide)
      have hq := hp
      rw [Int32.lt_iff_toInt_lt, nI_toInt (by omega)] at hq
      obtain ⟨z1, z2⟩ := hf
      obtain ⟨z3, z4⟩ := hv1
      exact ⟨by omega, by omega⟩
    show zR E _ _ X 41 _ _ _ _ _ _ _
    refine r_if_eq (t := 53) qX1_readFill_41 (by decide) (fun hc41 => absurd hc41 (by decide)) (fun hc41 => ?_)
    refine r_aload_n qX1_readFill_44 rfl ?_
    refine r_ifnull (t := 53) qX1_readFill_45 (by decide) (fun hc45 => absurd hc45 (kz)) (fun hc45 => ?_)
    refine r_aload_n qX1_readFill_48 rfl ?_
    refine r_iload_n qX1_readFill_49 rfl ?_
    refine r_cv1 (cu2 := 0) (su2 := 0) qX1_readFill_50 kX1_230 rfl (by decide +kernel) (c := 2) (by assumption) (by decide) rfl rfl rfl rfl rfl rfl ?_
    refine c_X2_addSpirit u1 ?_
    show zR E _ _ X 53 _ _ _ _ _ _ _
    refine r_vret qX1_readFill_53 rfl rfl rfl ?_
    refine hK _ ?_
    rw [mFill, h0, tB_o, zk, h1, tB_o, h2, tB_o]
    exact G2.to hS (G2.2.2.1.pour hC hk hz) (zOu.w (by omega))
  refine r_aload_n qX1_readFill_0 rfl ?_
  refine r_cv0 (cu2 := 0) (su2 := 0) qX1_readFill_1 kX1_192 rfl (by decide +kernel) (c := 1) (by assumption) (by decide) rfl rfl rfl rfl rfl rfl ?_
  refine y_tube hS hG (fun t0 k h0 hk ia0 G0 => ?_) (fun c w h i2 e => Kb0 i2 c w (by rw [mFill, h]; rfl) e)
  have k8 := hO.k8 hk
  have kz := hS.nz k8
  obtain ⟨tb1, hT3⟩ := hC.tb k8
  have u1 := hT3.1
  have zk : zn (nI k) = k := zn_nI (by omega)
  show zR E _ _ X 4 _ _ _ _ _ _ _
  refine r_as_4_1 qX1_readFill_4 rfl rfl ?_
  refine r_aload_n qX1_readFill_5 rfl ?_
  refine r_iconst (v := nI 1) qX1_readFill_6 (by decide) ?_
  refine r_sipush (v := nI 999) qX1_readFill_7 (by decide) ?_
  refine r_cv2 (cu2 := 0) (su2 := 0) qX1_readFill_10 kX1_79 rfl (by decide +kernel) (c := 1) (by assumption) (by decide) rfl rfl rfl rfl rfl rfl ?_
  refine y_num hS (by decide) G0 (fun t1 v1 h1 ia1 G1 => ?_) (fun c w h i2 e => Kb1 _ _ i2 c w hk (by rw [mFill, h0, tB_o, zk, h]; rfl) e)
  show zR E _ _ X 13 _ _ _ _ _ _ _
  refine r_is_4_2 qX1_readFill_13 rfl rfl ?_
  refine r_aload_n qX1_readFill_14 rfl ?_
  refine r_ifnull (t := 34) qX1_readFill_15 (by decide) (fun hc15 => absurd hc15 (kz)) (fun hc15 => ?_)
  refine r_aload_n qX1_readFill_18 rfl ?_
  refine r_geti qX1_readFill_19 fX1_228 rfl (by assumption) ?_
  rw [(G1.2.2.1.tu hk).2.2.2.2.2.2.2.1]
  refine r_iload_n qX1_readFill_22 rfl ?_
  first | with_reducible refine r_iaddN qX1_readFill_23 ?_ | refine r_iadd qX1_readFill_23 ?_
  refine r_sipush (v := nI 999) qX1_readFill_24 (by decide) ?_
  refine r_icmp_le (t := 34) qX1_readFill_27 (by decide) (fun hc27 => ?_) (fun hc27 => ?_)
  · refine r_iconst (v := nI 0) qX1_readFill_34 (by decide) ?_
    first | exact Kj k t0 t1 v1 _ hk h0 h1 G1 _ (zb_f (p := nI 999 < N (42 + 21 * k + 4) + v1) (Int32.not_lt.mpr hc27)).symm | exact Kj k t0 t1 v1 _ hk h0 h1 G1 _ (zb_t (p := nI 999 < N (42 + 21 * k + 4) + v1) (Int32.not_le.mp hc27)).symm
  · refine r_iconst (v := nI 1) qX1_readFill_30 (by decide) ?_
    refine r_goto (t := 35) qX1_readFill_31 (by decide) ?_
    first | exact Kj k t0 t1 v1 _ hk h0 h1 G1 _ (zb_f (p := nI 999 < N (42 + 21 * k + 4) + v1) (Int32.not_lt.mpr hc27)).symm | exact Kj k t0 t1 v1 _ hk h0 h1 G1 _ (zb_t (p := nI 999 < N (42 + 21 * k + 4) + v1) (Int32.not_le.mp hc27)).symm
set_option maxHeartbeats 4000000 in
set_option maxRecDepth 20000 in
theorem c_X1_readDip {E : Ev} {g : Sh} {i : Ni} {j : Nj} {K : Kp} {rd tx L t : Nat} {B : Nat → Int32} {a : Nat → Nat} {N : Nat → Int32} {i0 : Ni}  (hS : yS g rd tx a) (hZ : zZr N) (hG : yG rd tx L B a N i0 (sNext B L t) i) (hK : ∀ i', yRes rd tx L B a N i0 (mDip N B L t) i' → K (.inl none) g i' j) : zCon E mX1_readDip [.ref rd] g i j K := by
  refine zcon_of (by decide +kernel) rfl rfl (lo := [.ref rd, zJ, zJ, zJ]) rfl (fun X => ?_)
  obtain ⟨hR, r5, hC, g0⟩ := id hS
  have r1 := hR.1
  have hO := hG.2.2.1.1
  obtain ⟨a1, a2, a3, a4, a5, a6, a7, a8, a9, a10, a11, a12, a13, a14, a15, a16, -⟩ := id hC
  obtain ⟨hBt, hB4⟩ := hO.B4
  obtain ⟨hSt, hS5⟩ := hO.S5
  have Kb2 : ∀ (y : Nat) (z x : Int32) (i1 : Ni) (c : Int32) (w : Nat), mDip N B L t = .error (c, w) → yE rd tx L B a N i0 c w i1 → zR E mX1_readDip (zZ E mX1_readDip K) X 51 [.ref rd, .ref y, .int z, .int x] [.int (nI 0)] g i1 j 0 0 := by
    intro y z x i1 c w he e
    refine r_if_eq (t := 63) qX1_readDip_51 (by decide) (fun hc51 => ?_) (fun hc51 => absurd hc51 (by decide))
    refine r_vret qX1_readDip_63 rfl rfl rfl ?_
    refine hK _ ?_; rw [he]; exact e
  have Kb45 : ∀ (u : Int32) (y : Nat) (z : Int32) (i1 : Ni) (c : Int32) (w : Nat), mDip N B L t = .error (c, w) → yE rd tx L B a N i0 c w i1 → zR E mX1_readDip (zZ E mX1_readDip K) X 45 [.ref rd, .ref y, .int z, zJ] [.int u] g i1 j 0 0 := by
    intro u y z i1 c w he e
    refine r_is_4_3 qX1_readDip_45 rfl rfl ?_
    refine r_aload_n qX1_readDip_46 rfl ?_
    refine r_iload_n qX1_readDip_47 rfl ?_
    refine r_cv1 (cu2 := 0) (su2 := 0) qX1_readDip_48 kX1_83 rfl (by decide +kernel) (c := 1) (by assumption) (by decide) rfl rfl rfl rfl rfl rfl ?_
    refine yE_end hS e (fun i2 e2 => ?_)
    show zR E _ _ X 51 _ _ _ _ _ _ _
    exact Kb2 _ _ _ i2 c w he e2
  have Kb1 : ∀ (u : Int32) (k : Nat) (i1 : Ni) (c : Int32) (w : Nat), k < zn (N 5) → mDip N B L t = .error (c, w) → yE rd tx L B a N i0 c w i1 → zR E mX1_readDip (zZ E mX1_readDip K) X 23 [.ref rd, .ref (a (6 + 3 * k)), zJ, zJ] [.int u] g i1 j 0 0 := by
    intro u k i1 c w hk he e
    have k8 := hO.k8 hk
    have kz := hS.nz k8
    obtain ⟨tb1, hT3⟩ := hC.tb k8
    have u1 := hT3.1
    have zk : zn (nI k) = k := zn_nI (by omega)
    refine r_is_4_2 qX1_readDip_23 rfl rfl ?_
    refine r_aload_n qX1_readDip_24 rfl ?_
    refine r_ifnull (t := 44) qX1_readDip_25 (by decide) (fun hc25 => absurd hc25 (kz)) (fun hc25 => ?_)
    refine r_aload_n qX1_readDip_28 rfl ?_
    refine r_getr qX1_readDip_29 fX1_18 rfl (by assumption) (by first | assumption | rfl) ?_
    refine r_aload_n qX1_readDip_32 rfl ?_
    refine r_iload_n qX1_readDip_33 rfl ?_
    refine r_cv2 (cu2 := 0) (su2 := 0) qX1_readDip_34 kX1_205 rfl (by decide +kernel) (c := 0) (by assumption) (by decide) rfl rfl rfl rfl rfl rfl ?_
    refine c_X0_whyNotDip hC e.2.2.2.2.1 hk ?_
    show zR E _ _ X 37 _ _ _ _ _ _ _
    refine r_if_eq (t := 44) qX1_readDip_37 (by decide) (fun hc37 => ?_) (fun hc37 => ?_)
    · refine r_iconst (v := nI 0) qX1_readDip_44 (by decide) ?_
      exact Kb45 _ _ _ i1 c w he e
    · refine r_iconst (v := nI 1) qX1_readDip_40 (by decide) ?_
      refine r_goto (t := 45) qX1_readDip_41 (by decide) ?_
      exact Kb45 _ _ _ i1 c w he e
  have Kb0 : ∀ (i1 : Ni) (c : Int32) (w : Nat), mDip N B L t = .error (c, w) → yE rd tx L B a N i0 c w i1 → zR E mX1_readDip (zZ E mX1_readDip K) X 4 [.ref rd, zJ, zJ, zJ] [.ref 0] g i1 j 0 0 := by
    intro i1 c w he e
    have c6' := e.2.2.2.2.1.cnt.2.1.trans hBt
    refine r_as_4_1 qX1_readDip_4 rfl rfl ?_
    refine r_aload_n qX1_readDip_5 rfl ?_
    refine r_aload_n qX1_readDip_6 rfl ?_
    refine r_getr qX1_readDip_7 fX1_18 rfl (by assumption) (by first | assumption | rfl) ?_
    refine r_getr qX1_readDip_10 fX1_202 rfl (by assumption) (by first | assumption | rfl) ?_
    refine r_aload_n qX1_readDip_13 rfl ?_
    refine r_getr qX1_readDip_14 fX1_18 rfl (by assumption) (by first | assumption | rfl) ?_
    refine r_geti qX1_readDip_17 fX1_110 rfl (by assumption) ?_
    rw [c6']
    refine r_cv2 (cu2 := 0) (su2 := 0) qX1_readDip_20 kX1_184 rfl (by decide +kernel) (c := 1) (by assumption) (by decide) rfl rfl rfl rfl rfl rfl ?_
    refine yE_known hS a11 a12 hB4 (by decide) e (fun u2 i2 e2 => ?_)
    show zR E _ _ X 23 _ _ _ _ _ _ _
    refine r_is_4_2 qX1_readDip_23 rfl rfl ?_
    refine r_aload_n qX1_readDip_24 rfl ?_
    refine r_ifnull (t := 44) qX1_readDip_25 (by decide) (fun hc25 => ?_) (fun hc25 => absurd hc25 (fun h => h rfl))
    refine r_iconst (v := nI 0) qX1_readDip_44 (by decide) ?_
    exact Kb45 _ _ _ i2 c w he e2
  have Kj : ∀ (k t0 t1 b : Nat) (ia1 : Ni), k < zn (N 5) → tNum B L (nI 0) (N 5 - nI 1) (sNext B L t) = .ok (t0, nI k) → tBa N B L t0 = .ok (t1, nI b) → b < zn (N 4) → yG rd tx L B a N i0 t1 ia1 → ∀ v : Int32, v = zb (¬ sDip N k (nI b) = 0) → zR E mX1_readDip (zZ E mX1_readDip K) X 45 [.ref rd, .ref (a (6 + 3 * k)), .int (nI b), zJ] [.int v] g ia1 j 0 0 := by
    intro k t0 t1 b ia1 hk h0 h1 hb G1 v hv
    subst hv
    have k8 := hO.k8 hk
    have kz := hS.nz k8
    obtain ⟨tb1, hT3⟩ := hC.tb k8
    have u1 := hT3.1
    have zk : zn (nI k) = k := zn_nI (by omega)
    refine r_is_4_3 qX1_readDip_45 rfl rfl ?_
    refine r_aload_n qX1_readDip_46 rfl ?_
    refine r_iload_n qX1_readDip_47 rfl ?_
    refine r_cv1 (cu2 := 0) (su2 := 0) qX1_readDip_48 kX1_83 rfl (by decide +kernel) (c := 1) (by assumption) (by decide) rfl rfl rfl rfl rfl rfl ?_
    refine y_end (P := ¬ sDip N k (nI b) = 0) hS G1 (fun t2 v2 h2 hp ia2 G2 => ?_) (fun c w h i2 e => Kb2 _ _ _ i2 c w (by rw [mDip, h0, tB_o, zk, h1, tB_o, h]; rfl) e)
    show zR E _ _ X 51 _ _ _ _ _ _ _
    refine r_if_eq (t := 63) qX1_readDip_51 (by decide) (fun hc51 => absurd hc51 (by decide)) (fun hc51 => ?_)
    refine r_aload_n qX1_readDip_54 rfl ?_
    refine r_ifnull (t := 63) qX1_readDip_55 (by decide) (fun hc55 => absurd hc55 (kz)) (fun hc55 => ?_)
    refine r_aload_n qX1_readDip_58 rfl ?_
    refine r_iload_n qX1_readDip_59 rfl ?_
    refine r_puti qX1_readDip_60 fX1_209 (Or.inl rfl) rfl rfl rfl (by assumption) ?_
    refine r_vret qX1_readDip_63 rfl rfl rfl ?_
    refine hK _ ?_
    rw [mDip, h0, tB_o, zk, h1, tB_o, h2, tB_o]
    exact G2.to hS (G2.2.2.1.bath hC hk (Or.inr ⟨b, rfl, hb⟩)) (zOu.w (by omega))
  refine r_aload_n qX1_readDip_0 rfl ?_
  refine r_cv0 (cu2 := 0) (su2 := 0) qX1_readDip_1 kX1_192 rfl (by decide +kernel) (c := 1) (by assumption) (by decide) rfl rfl rfl rfl rfl rfl ?_
  refine y_tube hS hG (fun t0 k h0 hk ia0 G0 => ?_) (fun c w h i2 e => Kb0 i2 c w (by rw [mDip, h]; rfl) e)
  have k8 := hO.k8 hk
  have kz := hS.nz k8
  obtain ⟨tb1, hT3⟩ := hC.tb k8
  have u1 := hT3.1
  have zk : zn (nI k) = k := zn_nI (by omega)
  show zR E _ _ X 4 _ _ _ _ _ _ _
  refine r_as_4_1 qX1_readDip_4 rfl rfl ?_
  refine r_aload_n qX1_readDip_5 rfl ?_
  refine r_aload_n qX1_readDip_6 rfl ?_
  refine r_getr qX1_readDip_7 fX1_18 rfl (by assumption) (by first | assumption | rfl) ?_
  refine r_getr qX1_readDip_10 fX1_202 rfl (by assumption) (by first | assumption | rfl) ?_
  refine r_aload_n qX1_readDip_13 rfl ?_
  refine r_getr qX1_readDip_14 fX1_18 rfl (by assumption) (by first | assumption | rfl) ?_
  refine r_geti qX1_readDip_17 fX1_110 rfl (by assumption) ?_
  refine r_cv2 (cu2 := 0) (su2 := 0) qX1_readDip_20 kX1_184 rfl (by decide +kernel) (c := 1) (by assumption) (by decide) rfl rfl rfl rfl rfl rfl ?_
  rw [G0.2.2.1.cnt.2.1]
  refine y_bath hS G0 (fun t1 v1 h1 ia1 G1 => ?_) (fun c w h u i2 e => Kb1 _ _ i2 c w hk (by rw [mDip, h0, tB_o, zk, h]; rfl) e)
  obtain ⟨b, eb, hb, -⟩ := tBa_nat h1
  subst eb
  show zR E _ _ X 23 _ _ _ _ _ _ _
  refine r_is_4_2 qX1_readDip_23 rfl rfl ?_
  refine r_aload_n qX1_readDip_24 rfl ?_
  refine r_ifnull (t := 44) qX1_readDip_25 (by decide) (fun hc25 => absurd hc25 (kz)) (fun hc25 => ?_)
  refine r_aload_n qX1_readDip_28 rfl ?_
  refine r_getr qX1_readDip_29 fX1_18 rfl (by assumption) (by first | assumption | rfl) ?_
  refine r_aload_n qX1_readDip_32 rfl ?_
  refine r_iload_n qX1_readDip_33 rfl ?_
  refine r_cv2 (cu2 := 0) (su2 := 0) qX1_readDip_34 kX1_205 rfl (by decide +kernel) (c := 0) (by assumption) (by decide) rfl rfl rfl rfl rfl rfl ?_
  refine c_X0_whyNotDip hC G1.2.2.1 hk ?_
  show zR E _ _ X 37 _ _ _ _ _ _ _
  refine r_if_eq (t := 44) qX1_readDip_37 (by decide) (fun hc37 => ?_) (fun hc37 => ?_)
  · refine r_iconst (v := nI 0) qX1_readDip_44 (by decide) ?_
    first | exact Kj k t0 t1 b _ hk h0 h1 hb G1 _ (zb_f (p := ¬ sDip N k (nI b) = 0) (fun h => h hc37)).symm | exact Kj k t0 t1 b _ hk h0 h1 hb G1 _ (zb_t (p := ¬ sDip N k (nI b) = 0) hc37).symm
  · refine r_iconst (v := nI 1) qX1_readDip_40 (by decide) ?_
    refine r_goto (t := 45) qX1_readDip_41 (by decide) ?_
    first | exact Kj k t0 t1 b _ hk h0 h1 hb G1 _ (zb_f (p := ¬ sDip N k (nI b) = 0) (fun h => h hc37)).symm | exact Kj k t0 t1 b _ hk h0 h1 hb G1 _ (zb_t (p := ¬ sDip N k (nI b) = 0) hc37).symm


