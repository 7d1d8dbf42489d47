/-! ===== THE CLASS READS A TEXT ===== -/
theorem wo_1 : zWo 1 wd_gallery := ⟨_, rfl, by decide +kernel, by decide +kernel, by decide +kernel, by decide +kernel⟩
theorem wo_2 : zWo 2 wd_spirit := ⟨_, rfl, by decide +kernel, by decide +kernel, by decide +kernel, by decide +kernel⟩
theorem wo_3 : zWo 3 wd_bath := ⟨_, rfl, by decide +kernel, by decide +kernel, by decide +kernel, by decide +kernel⟩
theorem wo_4 : zWo 4 wd_tube := ⟨_, rfl, by decide +kernel, by decide +kernel, by decide +kernel, by decide +kernel⟩
theorem wo_5 : zWo 5 wd_leak := ⟨_, rfl, by decide +kernel, by decide +kernel, by decide +kernel, by decide +kernel⟩
theorem wo_6 : zWo 6 wd_seal := ⟨_, rfl, by decide +kernel, by decide +kernel, by decide +kernel, by decide +kernel⟩
theorem wo_7 : zWo 7 wd_dip := ⟨_, rfl, by decide +kernel, by decide +kernel, by decide +kernel, by decide +kernel⟩
theorem wo_8 : zWo 8 wd_lift := ⟨_, rfl, by decide +kernel, by decide +kernel, by decide +kernel, by decide +kernel⟩
theorem wo_9 : zWo 9 wd_mark := ⟨_, rfl, by decide +kernel, by decide +kernel, by decide +kernel, by decide +kernel⟩
theorem wo_10 : zWo 10 wd_thumb := ⟨_, rfl, by decide +kernel, by decide +kernel, by decide +kernel, by decide +kernel⟩
theorem wo_11 : zWo 11 wd_fill := ⟨_, rfl, by decide +kernel, by decide +kernel, by decide +kernel, by decide +kernel⟩
theorem wo_12 : zWo 12 wd_erase := ⟨_, rfl, by decide +kernel, by decide +kernel, by decide +kernel, by decide +kernel⟩
theorem wo_13 : zWo 13 wd_room := ⟨_, rfl, by decide +kernel, by decide +kernel, by decide +kernel, by decide +kernel⟩
theorem wo_14 : zWo 14 wd_pass := ⟨_, rfl, by decide +kernel, by decide +kernel, by decide +kernel, by decide +kernel⟩
set_option maxHeartbeats 4000000 in
set_option maxRecDepth 20000 in
theorem y_word {E : Ev} {g : Sh} {i : Ni} {j : Nj} {K : Kp} {rd tx L t n : Nat} {B : Nat → Int32} {a : Nat → Nat} {N : Nat → Int32} {i0 : Ni} {w : Int64} (hS : yS g rd tx a) (hG : yG rd tx L B a N i0 t i) (hw : zWo n w) (hKy : isW B L t w → ∀ i', yG rd tx L B a N i0 (sNext B L t) i' → K (.inl (some (.int (nI 1)))) g i' j) (hKn : ¬ isW B L t w → K (.inl (some (.int (nI 0)))) g i j) : zCon E mX1_takeWord [.ref rd, .ref (eK E n + 1)] g i j K := by
  refine zcon_of (by decide +kernel) rfl rfl (lo := [.ref rd, .ref (eK E n + 1), zJ]) rfl (fun X => ?_)
  have r1 := hS.1.1
  by_cases hi : isW B L t w
  · skip
    refine r_aload_n qX1_takeWord_0 rfl ?_
    refine r_aload_n qX1_takeWord_1 rfl ?_
    refine r_cv1 (cu2 := 0) (su2 := 0) qX1_takeWord_2 kX1_95 rfl (by decide +kernel) (c := 1) (by assumption) (by decide) rfl rfl rfl rfl rfl rfl ?_
    refine c_X1_atWord hS.1 hG.1 hw ?_
    rw [zb_t hi]
    show zR E _ _ X 5 _ _ _ _ _ _ _
    refine r_is_3_2 qX1_takeWord_5 rfl rfl ?_
    refine r_iload_n qX1_takeWord_6 rfl ?_
    refine r_if_eq (t := 14) qX1_takeWord_7 (by decide) (fun hc7 => absurd hc7 (by decide)) (fun hc7 => ?_)
    refine r_aload_n qX1_takeWord_10 rfl ?_
    refine r_cv0 (cu2 := 0) (su2 := 0) qX1_takeWord_11 kX1_51 rfl (by decide +kernel) (c := 1) (by assumption) (by decide) rfl rfl rfl rfl rfl rfl ?_
    refine y_nextG hS hG (fun i1 G1 => ?_)
    show zR E _ _ X 14 _ _ _ _ _ _ _
    refine r_iload_n qX1_takeWord_14 rfl ?_
    refine r_iret qX1_takeWord_15 rfl (by first | decide | exact zb_nar _ | assumption) rfl rfl ?_
    exact hKy hi i1 G1
  · skip
    refine r_aload_n qX1_takeWord_0 rfl ?_
    refine r_aload_n qX1_takeWord_1 rfl ?_
    refine r_cv1 (cu2 := 0) (su2 := 0) qX1_takeWord_2 kX1_95 rfl (by decide +kernel) (c := 1) (by assumption) (by decide) rfl rfl rfl rfl rfl rfl ?_
    refine c_X1_atWord hS.1 hG.1 hw ?_
    rw [zb_f hi]
    show zR E _ _ X 5 _ _ _ _ _ _ _
    refine r_is_3_2 qX1_takeWord_5 rfl rfl ?_
    refine r_iload_n qX1_takeWord_6 rfl ?_
    refine r_if_eq (t := 14) qX1_takeWord_7 (by decide) (fun hc7 => ?_) (fun hc7 => absurd hc7 (by decide))
    refine r_iload_n qX1_takeWord_14 rfl ?_
    refine r_iret qX1_takeWord_15 rfl (by first | decide | exact zb_nar _ | assumption) rfl rfl ?_
    exact hKn hi
set_option maxHeartbeats 4000000 in
set_option maxRecDepth 20000 in
theorem c_X1_readGallery {E : Ev} {g : Sh} {i : Ni} {j : Nj} {K : Kp} {rd tx L t : Nat} {B : Nat → Int32} {a : Nat → Nat} {i0 : Ni} (hS : yS g rd tx a) (hG : yG rd tx L B a (aGal (nI 0) (nI 1)) i0 t i) (hK : ∀ i', yRes rd tx L B a (aGal (nI 0) (nI 1)) i0 (mGal B L t) i' → K (.inl none) g i' j) : zCon E mX1_readGallery [.ref rd] g i j K := by
  refine zcon_of (by decide +kernel) rfl rfl (lo := [.ref rd, zJ, zJ]) rfl (fun X => ?_)
  obtain ⟨hR, r5, hC, g0⟩ := id hS
  have r1 := hR.1
  have a1 := hC.1
  have p6 := hG.1.2.2.2.2.2.1
  have Kb32 : ∀ (y z : Int32) (i1 : Ni) (c : Int32) (w : Nat), mGal B L t = .error (c, w) → yE rd tx L B a (aGal (nI 0) (nI 1)) i0 c w i1 → zR E mX1_readGallery (zZ E mX1_readGallery K) X 32 [.ref rd, .int y, .int z] [.int (nI 0)] g i1 j 0 0 := by
    intro y z i1 c w he e
    refine r_if_eq (t := 51) qX1_readGallery_32 (by decide) (fun hc32 => ?_) (fun hc32 => absurd hc32 (by decide))
    refine r_vret qX1_readGallery_51 rfl rfl rfl ?_
    refine hK _ ?_; rw [he]; exact e
  have Kb26 : ∀ (u y : Int32) (i1 : Ni) (c : Int32) (w : Nat), mGal B L t = .error (c, w) → yE rd tx L B a (aGal (nI 0) (nI 1)) i0 c w i1 → zR E mX1_readGallery (zZ E mX1_readGallery K) X 26 [.ref rd, .int y, zJ] [.int u] g i1 j 0 0 := by
    intro u y i1 c w he e
    refine r_is_3_2 qX1_readGallery_26 rfl rfl ?_
    refine r_aload_n qX1_readGallery_27 rfl ?_
    refine r_iconst (v := nI 0) qX1_readGallery_28 (by decide) ?_
    refine r_cv1 (cu2 := 0) (su2 := 0) qX1_readGallery_29 kX1_83 rfl (by decide +kernel) (c := 1) (by assumption) (by decide) rfl rfl rfl rfl rfl rfl ?_
    refine yE_end hS e (fun i2 e2 => ?_)
    show zR E _ _ X 32 _ _ _ _ _ _ _
    exact Kb32 _ _ i2 c w he e2
  have Kb18 : ∀ (u : Int32) (i1 : Ni) (c : Int32) (w : Nat), mGal B L t = .error (c, w) → yE rd tx L B a (aGal (nI 0) (nI 1)) i0 c w i1 → zR E mX1_readGallery (zZ E mX1_readGallery K) X 18 [.ref rd, zJ, zJ] [.int u] g i1 j 0 0 := by
    intro u i1 c w he e
    refine r_is_3_1 qX1_readGallery_18 rfl rfl ?_
    refine r_aload_n qX1_readGallery_19 rfl ?_
    refine r_iconst (v := nI 1) qX1_readGallery_20 (by decide) ?_
    refine r_bipush (v := nI 20) qX1_readGallery_21 (by decide) ?_
    refine r_cv2 (cu2 := 0) (su2 := 0) qX1_readGallery_23 kX1_79 rfl (by decide +kernel) (c := 1) (by assumption) (by decide) rfl rfl rfl rfl rfl rfl ?_
    refine yE_num hS e (fun i2 e2 => ?_)
    show zR E _ _ X 26 _ _ _ _ _ _ _
    exact Kb26 _ _ i2 c w he e2
  have K6 : isW B L t wd_gallery → ∀ i1 : Ni, yG rd tx L B a (aGal (nI 0) (nI 1)) i0 (sNext B L t) i1 → zR E mX1_readGallery (zZ E mX1_readGallery K) X 6 [.ref rd, zJ, zJ] [.int (nI 1)] g i1 j 0 0 := by
    intro hg i1 G1
    refine r_if_ne (t := 14) qX1_readGallery_6 (by decide) (fun hc6 => ?_) (fun hc6 => absurd hc6 (by decide))
    refine r_aload_n qX1_readGallery_14 rfl ?_
    refine r_cv0 (cu2 := 0) (su2 := 0) qX1_readGallery_15 kX1_76 rfl (by decide +kernel) (c := 1) (by assumption) (by decide) rfl rfl rfl rfl rfl rfl ?_
    refine y_deg hS G1 (fun t0 v0 h0 ia0 G0 => ?_) (fun c w h u i2 e => Kb18 u i2 c w (by rw [mGal, if_pos hg, h]; rfl) e)
    show zR E _ _ X 18 _ _ _ _ _ _ _
    refine r_is_3_1 qX1_readGallery_18 rfl rfl ?_
    refine r_aload_n qX1_readGallery_19 rfl ?_
    refine r_iconst (v := nI 1) qX1_readGallery_20 (by decide) ?_
    refine r_bipush (v := nI 20) qX1_readGallery_21 (by decide) ?_
    refine r_cv2 (cu2 := 0) (su2 := 0) qX1_readGallery_23 kX1_79 rfl (by decide +kernel) (c := 1) (by assumption) (by decide) rfl rfl rfl rfl rfl rfl ?_
    refine y_num hS (by decide) G0 (fun t1 v1 h1 ia1 G2 => ?_) (fun c w h i2 e => Kb26 _ _ i2 c w (by rw [mGal, if_pos hg, h0, tB_o, h]; rfl) e)
    show zR E _ _ X 26 _ _ _ _ _ _ _
    refine r_is_3_2 qX1_readGallery_26 rfl rfl ?_
    refine r_aload_n qX1_readGallery_27 rfl ?_
    refine r_iconst (v := nI 0) qX1_readGallery_28 (by decide) ?_
    refine r_cv1 (cu2 := 0) (su2 := 0) qX1_readGallery_29 kX1_83 rfl (by decide +kernel) (c := 1) (by assumption) (by decide) rfl rfl rfl rfl rfl rfl ?_
    refine y_end (P := False) (dP := instDecidableFalse) hS G2 (fun t2 v2 h2 hp ia2 G3 => ?_) (fun c w h i2 e => Kb32 _ _ i2 c w (by rw [mGal, if_pos hg, h0, tB_o, h1, tB_o, h]; rfl) e)
    show zR E _ _ X 32 _ _ _ _ _ _ _
    refine r_if_eq (t := 51) qX1_readGallery_32 (by decide) (fun hc32 => absurd hc32 (by decide)) (fun hc32 => ?_)
    refine r_aload_n qX1_readGallery_35 rfl ?_
    refine r_getr qX1_readGallery_36 fX1_18 rfl (by assumption) (by first | assumption | rfl) ?_
    refine r_iload_n qX1_readGallery_39 rfl ?_
    refine r_puti qX1_readGallery_40 fX1_87 (Or.inl rfl) rfl rfl rfl (by assumption) ?_
    refine r_aload_n qX1_readGallery_43 rfl ?_
    refine r_getr qX1_readGallery_44 fX1_18 rfl (by assumption) (by first | assumption | rfl) ?_
    refine r_iload_n qX1_readGallery_47 rfl ?_
    refine r_puti qX1_readGallery_48 fX1_90 (Or.inl rfl) rfl rfl rfl (by assumption) ?_
    simp only [wA_s, wA_wA]
    refine r_vret qX1_readGallery_51 rfl rfl rfl ?_
    refine hK _ ?_
    rw [mGal, if_pos hg, h0, tB_o, h1, tB_o, h2, tB_o]
    obtain ⟨c5, c6, c7, c8, c9, c10, c11, c12⟩ := G3.2.2.1.cnt
    refine G3.to hS (zH.new (tDeg_in h0).1 (tNum_zin h1 (by decide) (by decide)) (fun z hz => by rw [wA_n (hC.inj (show 6 + 3 * z < 30 by omega) (by decide) (by omega))]; exact G3.2.2.1.no z hz) ?_) (zOu.w (by decide))
    · rw [wA_s]
      refine ⟨?_, ?_, ?_, ?_, ?_, ?_, ?_, ?_⟩ <;> simp (disch := decide) only [aGal, pk_us, pk_un] at * <;> assumption
  refine r_aload_n qX1_readGallery_0 rfl ?_
  refine r_ldcs (n := 1) qX1_readGallery_1 rfl ?_
  refine r_cv1 (cu2 := 0) (su2 := 0) qX1_readGallery_3 kX1_72 rfl (by decide +kernel) (c := 1) (by assumption) (by decide) rfl rfl rfl rfl rfl rfl ?_
  refine y_word hS hG wo_1 (fun hg i1 G1 => K6 hg i1 G1) (fun hg => ?_)
  show zR E _ _ X 6 _ _ _ _ _ _ _
  refine r_if_ne (t := 14) qX1_readGallery_6 (by decide) (fun hc6 => absurd hc6 (by decide)) (fun hc6 => ?_)
  refine r_aload_n qX1_readGallery_9 rfl ?_
  refine r_iconst (v := nI 1) qX1_readGallery_10 (by decide) ?_
  refine r_cv1 (cu2 := 0) (su2 := 0) qX1_readGallery_11 kX1_67 rfl (by decide +kernel) (c := 1) (by assumption) (by decide) rfl rfl rfl rfl rfl rfl ?_
  refine c_X1_fail r1 hG.2.1.1 ?_
  rw [p6]
  have e0 := hG.bad hS (c := nI 1) (w := t) (by decide)
  show zR E _ _ X 14 _ _ _ _ _ _ _
  refine r_aload_n qX1_readGallery_14 rfl ?_
  refine r_cv0 (cu2 := 0) (su2 := 0) qX1_readGallery_15 kX1_76 rfl (by decide +kernel) (c := 1) (by assumption) (by decide) rfl rfl rfl rfl rfl rfl ?_
  refine yE_deg hS e0 (fun u i2 e2 => ?_)
  show zR E _ _ X 18 _ _ _ _ _ _ _
  exact Kb18 u i2 _ _ (by rw [mGal, if_neg hg]) e2
set_option maxHeartbeats 4000000 in
set_option maxRecDepth 20000 in
theorem c_X1_readDescription {E : Ev} {g : Sh} {i : Ni} {j : Nj} {K : Kp} {rd tx L t : Nat} {B : Nat → Int32} {a : Nat → Nat} {N : Nat → Int32} {i0 : Ni} (hS : yS g rd tx a) (hZ : zZr N) (hG : yG rd tx L B a N i0 t i) (hK : ∀ i', yRes rd tx L B a N i0 (mStat N B L t) i' → K (.inl (some (.int (nI 1)))) g i' j) (hK0 : ¬ isW B L t wd_spirit → ¬ isW B L t wd_bath → ¬ isW B L t wd_tube → K (.inl (some (.int (nI 0)))) g i j) : zCon E mX1_readDescription [.ref rd] g i j K := by
  refine zcon_of (by decide +kernel) rfl rfl (lo := [.ref rd]) rfl (fun X => ?_)
  obtain ⟨hR, r5, hC, g0⟩ := id hS
  have r1 := hR.1
  have hO := hG.2.2.1.1
  obtain ⟨a1, a2, a3, a4, a5, a6, a7, a8, a9, a10, a11, a12, a13, a14, a15, a16, -⟩ := id hC
  obtain ⟨hBt, hB4⟩ := hO.B4
  obtain ⟨hSt, hS5⟩ := hO.S5
  obtain ⟨hTt, hT8⟩ := hO.T8
  obtain ⟨c5, c6, c7, c8, c9, c10, c11, c12⟩ := hG.2.2.1.cnt
  have c5' := c5.trans hSt
  have c6' := c6.trans hBt
  have c7' := c7.trans hTt
  have Kb18 : isW B L t wd_spirit → N 3 = nI 5 → ∀ i1 : Ni, yE rd tx L B a N i0 (nI 5) t i1 → zR E mX1_readDescription (zZ E mX1_readDescription K) X 21 [.ref rd] [] g i1 j 0 0 := by
    intro hw he i1 e
    refine r_aload_n qX1_readDescription_21 rfl ?_
    refine r_cv0 (cu2 := 0) (su2 := 0) qX1_readDescription_22 kX1_105 rfl (by decide +kernel) (c := 1) (by assumption) (by decide) rfl rfl rfl rfl rfl rfl ?_
    refine yE_readSpirit (t := 0) hS e (fun i2 e2 => ?_)
    show zR E _ _ X 25 _ _ _ _ _ _ _
    refine r_goto (t := 87) qX1_readDescription_25 (by decide) ?_
    refine r_iconst (v := nI 1) qX1_readDescription_87 (by decide) ?_
    refine r_iret qX1_readDescription_88 rfl (by first | decide | exact zb_nar _ | assumption) rfl rfl ?_
    refine hK _ ?_
    rw [show mStat N B L t = mSpirit N B L t by rw [mStat, if_pos hw], mSpirit, if_pos he]
    exact e2
  have Kg18 : isW B L t wd_spirit → ¬ N 3 = nI 5 → ∀ i1 : Ni, yG rd tx L B a N i0 (sNext B L t) i1 → zR E mX1_readDescription (zZ E mX1_readDescription K) X 21 [.ref rd] [] g i1 j 0 0 := by
    intro hw he i1 G1
    refine r_aload_n qX1_readDescription_21 rfl ?_
    refine r_cv0 (cu2 := 0) (su2 := 0) qX1_readDescription_22 kX1_105 rfl (by decide +kernel) (c := 1) (by assumption) (by decide) rfl rfl rfl rfl rfl rfl ?_
    refine c_X1_readSpirit he hS hZ G1 (fun i2 z => ?_)
    show zR E _ _ X 25 _ _ _ _ _ _ _
    refine r_goto (t := 87) qX1_readDescription_25 (by decide) ?_
    refine r_iconst (v := nI 1) qX1_readDescription_87 (by decide) ?_
    refine r_iret qX1_readDescription_88 rfl (by first | decide | exact zb_nar _ | assumption) rfl rfl ?_
    refine hK _ ?_
    rw [show mStat N B L t = mSpirit N B L t by rw [mStat, if_pos hw]]
    exact z
  have Kb46 : ¬ isW B L t wd_spirit → isW B L t wd_bath → N 4 = nI 4 → ∀ i1 : Ni, yE rd tx L B a N i0 (nI 5) t i1 → zR E mX1_readDescription (zZ E mX1_readDescription K) X 49 [.ref rd] [] g i1 j 0 0 := by
    intro n0 hw he i1 e
    refine r_aload_n qX1_readDescription_49 rfl ?_
    refine r_cv0 (cu2 := 0) (su2 := 0) qX1_readDescription_50 kX1_113 rfl (by decide +kernel) (c := 1) (by assumption) (by decide) rfl rfl rfl rfl rfl rfl ?_
    refine yE_readBath (t := 0) hS e (fun i2 e2 => ?_)
    show zR E _ _ X 53 _ _ _ _ _ _ _
    refine r_goto (t := 87) qX1_readDescription_53 (by decide) ?_
    refine r_iconst (v := nI 1) qX1_readDescription_87 (by decide) ?_
    refine r_iret qX1_readDescription_88 rfl (by first | decide | exact zb_nar _ | assumption) rfl rfl ?_
    refine hK _ ?_
    rw [show mStat N B L t = mBath N B L t by rw [mStat, if_neg n0, if_pos hw], mBath, if_pos he]
    exact e2
  have Kg46 : ¬ isW B L t wd_spirit → isW B L t wd_bath → ¬ N 4 = nI 4 → ∀ i1 : Ni, yG rd tx L B a N i0 (sNext B L t) i1 → zR E mX1_readDescription (zZ E mX1_readDescription K) X 49 [.ref rd] [] g i1 j 0 0 := by
    intro n0 hw he i1 G1
    refine r_aload_n qX1_readDescription_49 rfl ?_
    refine r_cv0 (cu2 := 0) (su2 := 0) qX1_readDescription_50 kX1_113 rfl (by decide +kernel) (c := 1) (by assumption) (by decide) rfl rfl rfl rfl rfl rfl ?_
    refine c_X1_readBath he hS hZ G1 (fun i2 z => ?_)
    show zR E _ _ X 53 _ _ _ _ _ _ _
    refine r_goto (t := 87) qX1_readDescription_53 (by decide) ?_
    refine r_iconst (v := nI 1) qX1_readDescription_87 (by decide) ?_
    refine r_iret qX1_readDescription_88 rfl (by first | decide | exact zb_nar _ | assumption) rfl rfl ?_
    refine hK _ ?_
    rw [show mStat N B L t = mBath N B L t by rw [mStat, if_neg n0, if_pos hw]]
    exact z
  have Kb75 : ¬ isW B L t wd_spirit → ¬ isW B L t wd_bath → isW B L t wd_tube → N 5 = nI 8 → ∀ i1 : Ni, yE rd tx L B a N i0 (nI 5) t i1 → zR E mX1_readDescription (zZ E mX1_readDescription K) X 78 [.ref rd] [] g i1 j 0 0 := by
    intro n0 n1 hw he i1 e
    refine r_aload_n qX1_readDescription_78 rfl ?_
    refine r_cv0 (cu2 := 0) (su2 := 0) qX1_readDescription_79 kX1_121 rfl (by decide +kernel) (c := 1) (by assumption) (by decide) rfl rfl rfl rfl rfl rfl ?_
    refine yE_readTube (t := 0) hS e (fun i2 e2 => ?_)
    show zR E _ _ X 82 _ _ _ _ _ _ _
    refine r_goto (t := 87) qX1_readDescription_82 (by decide) ?_
    refine r_iconst (v := nI 1) qX1_readDescription_87 (by decide) ?_
    refine r_iret qX1_readDescription_88 rfl (by first | decide | exact zb_nar _ | assumption) rfl rfl ?_
    refine hK _ ?_
    rw [show mStat N B L t = mTube N B L t by rw [mStat, if_neg n0, if_neg n1, if_pos hw], mTube, if_pos he]
    exact e2
  have Kg75 : ¬ isW B L t wd_spirit → ¬ isW B L t wd_bath → isW B L t wd_tube → ¬ N 5 = nI 8 → ∀ i1 : Ni, yG rd tx L B a N i0 (sNext B L t) i1 → zR E mX1_readDescription (zZ E mX1_readDescription K) X 78 [.ref rd] [] g i1 j 0 0 := by
    intro n0 n1 hw he i1 G1
    refine r_aload_n qX1_readDescription_78 rfl ?_
    refine r_cv0 (cu2 := 0) (su2 := 0) qX1_readDescription_79 kX1_121 rfl (by decide +kernel) (c := 1) (by assumption) (by decide) rfl rfl rfl rfl rfl rfl ?_
    refine c_X1_readTube he hS hZ G1 (fun i2 z => ?_)
    show zR E _ _ X 82 _ _ _ _ _ _ _
    refine r_goto (t := 87) qX1_readDescription_82 (by decide) ?_
    refine r_iconst (v := nI 1) qX1_readDescription_87 (by decide) ?_
    refine r_iret qX1_readDescription_88 rfl (by first | decide | exact zb_nar _ | assumption) rfl rfl ?_
    refine hK _ ?_
    rw [show mStat N B L t = mTube N B L t by rw [mStat, if_neg n0, if_neg n1, if_pos hw]]
    exact z
  refine r_aload_n qX1_readDescription_0 rfl ?_
  refine r_ldcs (n := 2) qX1_readDescription_1 rfl ?_
  refine r_cv1 (cu2 := 0) (su2 := 0) qX1_readDescription_3 kX1_95 rfl (by decide +kernel) (c := 1) (by assumption) (by decide) rfl rfl rfl rfl rfl rfl ?_
  refine c_X1_atWord hR hG.1 wo_2 ?_
  show zR E _ _ X 6 _ _ _ _ _ _ _
  refine r_if_eq (t := 28) qX1_readDescription_6 (by decide) (fun hc6 => ?_) (fun hc6 => ?_)
  · refine r_aload_n qX1_readDescription_28 rfl ?_
    refine r_ldcs (n := 3) qX1_readDescription_29 rfl ?_
    refine r_cv1 (cu2 := 0) (su2 := 0) qX1_readDescription_31 kX1_95 rfl (by decide +kernel) (c := 1) (by assumption) (by decide) rfl rfl rfl rfl rfl rfl ?_
    refine c_X1_atWord hR hG.1 wo_3 ?_
    show zR E _ _ X 34 _ _ _ _ _ _ _
    refine r_if_eq (t := 56) qX1_readDescription_34 (by decide) (fun hc34 => ?_) (fun hc34 => ?_)
    · refine r_aload_n qX1_readDescription_56 rfl ?_
      refine r_ldcs (n := 4) qX1_readDescription_57 rfl ?_
      refine r_cv1 (cu2 := 0) (su2 := 0) qX1_readDescription_59 kX1_95 rfl (by decide +kernel) (c := 1) (by assumption) (by decide) rfl rfl rfl rfl rfl rfl ?_
      refine c_X1_atWord hR hG.1 wo_4 ?_
      show zR E _ _ X 62 _ _ _ _ _ _ _
      refine r_if_eq (t := 85) qX1_readDescription_62 (by decide) (fun hc62 => ?_) (fun hc62 => ?_)
      · refine r_iconst (v := nI 0) qX1_readDescription_85 (by decide) ?_
        refine r_iret qX1_readDescription_86 rfl (by first | decide | exact zb_nar _ | assumption) rfl rfl ?_
        exact hK0 (zb_0.mp hc6) (zb_0.mp hc34) (zb_0.mp hc62)
      · refine r_aload_n qX1_readDescription_65 rfl ?_
        refine r_aload_n qX1_readDescription_66 rfl ?_
        refine r_getr qX1_readDescription_67 fX1_18 rfl (by assumption) (by first | assumption | rfl) ?_
        refine r_geti qX1_readDescription_70 fX1_118 rfl (by assumption) ?_
        refine r_bipush (v := nI 8) qX1_readDescription_73 (by decide) ?_
        rw [c7']
        refine r_cv2 (cu2 := 0) (su2 := 0) qX1_readDescription_75 kX1_101 rfl (by decide +kernel) (c := 1) (by assumption) (by decide) rfl rfl rfl rfl rfl rfl ?_
        refine y_row (v := 5) hS hG hTt hT8 (by decide) (fun he i1 G1 => Kg75 (zb_0.mp hc6) (zb_0.mp hc34) (zb_ne.mp hc62) he i1 G1) (fun he i1 e1 => Kb75 (zb_0.mp hc6) (zb_0.mp hc34) (zb_ne.mp hc62) he i1 e1)
    · refine r_aload_n qX1_readDescription_37 rfl ?_
      refine r_aload_n qX1_readDescription_38 rfl ?_
      refine r_getr qX1_readDescription_39 fX1_18 rfl (by assumption) (by first | assumption | rfl) ?_
      refine r_geti qX1_readDescription_42 fX1_110 rfl (by assumption) ?_
      refine r_iconst (v := nI 4) qX1_readDescription_45 (by decide) ?_
      rw [c6']
      refine r_cv2 (cu2 := 0) (su2 := 0) qX1_readDescription_46 kX1_101 rfl (by decide +kernel) (c := 1) (by assumption) (by decide) rfl rfl rfl rfl rfl rfl ?_
      refine y_row (v := 4) hS hG hBt hB4 (by decide) (fun he i1 G1 => Kg46 (zb_0.mp hc6) (zb_ne.mp hc34) he i1 G1) (fun he i1 e1 => Kb46 (zb_0.mp hc6) (zb_ne.mp hc34) he i1 e1)
  · refine r_aload_n qX1_readDescription_9 rfl ?_
    refine r_aload_n qX1_readDescription_10 rfl ?_
    refine r_getr qX1_readDescription_11 fX1_18 rfl (by assumption) (by first | assumption | rfl) ?_
    refine r_geti qX1_readDescription_14 fX1_98 rfl (by assumption) ?_
    refine r_iconst (v := nI 5) qX1_readDescription_17 (by decide) ?_
    rw [c5']
    refine r_cv2 (cu2 := 0) (su2 := 0) qX1_readDescription_18 kX1_101 rfl (by decide +kernel) (c := 1) (by assumption) (by decide) rfl rfl rfl rfl rfl rfl ?_
    refine y_row (v := 3) hS hG hSt hS5 (by decide) (fun he i1 G1 => Kg18  (zb_ne.mp hc6) he i1 G1) (fun he i1 e1 => Kb18  (zb_ne.mp hc6) he i1 e1)
set_option maxHeartbeats 4000000 in
set_option maxRecDepth 20000 in
theorem c_X1_readDeed {E : Ev} {g : Sh} {i : Ni} {j : Nj} {K : Kp} {rd tx L t : Nat} {B : Nat → Int32} {a : Nat → Nat} {N : Nat → Int32} {i0 : Ni} (hS : yS g rd tx a) (hZ : zZr N) (hG : yG rd tx L B a N i0 t i) (hs : ¬ isW B L t wd_spirit) (hb : ¬ isW B L t wd_bath) (ht : ¬ isW B L t wd_tube) (hK : ∀ i', yRes rd tx L B a N i0 (mStat N B L t) i' → K (.inl (some (.int (nI 1)))) g i' j) (hK0 : mStat N B L t = .error (nI 1, t) → K (.inl (some (.int (nI 0)))) g i j) : zCon E mX1_readDeed [.ref rd] g i j K := by
  refine zcon_of (by decide +kernel) rfl rfl (lo := [.ref rd]) rfl (fun X => ?_)
  obtain ⟨hR, r5, hC, g0⟩ := id hS
  have r1 := hR.1
  have Ky3 : isW B L t wd_leak → ∀ i1 : Ni, yG rd tx L B a N i0 (sNext B L t) i1 → zR E mX1_readDeed (zZ E mX1_readDeed K) X 6 [.ref rd] [.int (nI 1)] g i1 j 0 0 := by
    intro hw i1 G1
    refine r_if_eq (t := 17) qX1_readDeed_6 (by decide) (fun hc6 => absurd hc6 (by decide)) (fun hc6 => ?_)
    refine r_aload_n qX1_readDeed_9 rfl ?_
    refine r_iconst (v := nI 1) qX1_readDeed_10 (by decide) ?_
    refine r_cv1 (cu2 := 0) (su2 := 0) qX1_readDeed_11 kX1_126 rfl (by decide +kernel) (c := 1) (by assumption) (by decide) rfl rfl rfl rfl rfl rfl ?_
    refine c_X1_readLeaky (v := nI 1) hS hZ G1 (Or.inr rfl) (fun i2 z => ?_)
    show zR E _ _ X 14 _ _ _ _ _ _ _
    refine r_goto (t := 164) qX1_readDeed_14 (by decide) ?_
    refine r_iconst (v := nI 1) qX1_readDeed_164 (by decide) ?_
    refine r_iret qX1_readDeed_165 rfl (by first | decide | exact zb_nar _ | assumption) rfl rfl ?_
    refine hK _ ?_
    rw [show mStat N B L t = mLeaky (nI 1) N B L t by rw [mStat, if_neg hs, if_neg hb, if_neg ht, if_pos hw]]
    exact z
  have Ky20 : ¬ isW B L t wd_leak → isW B L t wd_seal → ∀ i1 : Ni, yG rd tx L B a N i0 (sNext B L t) i1 → zR E mX1_readDeed (zZ E mX1_readDeed K) X 23 [.ref rd] [.int (nI 1)] g i1 j 0 0 := by
    intro n0 hw i1 G1
    refine r_if_eq (t := 34) qX1_readDeed_23 (by decide) (fun hc23 => absurd hc23 (by decide)) (fun hc23 => ?_)
    refine r_aload_n qX1_readDeed_26 rfl ?_
    refine r_iconst (v := nI 0) qX1_readDeed_27 (by decide) ?_
    refine r_cv1 (cu2 := 0) (su2 := 0) qX1_readDeed_28 kX1_126 rfl (by decide +kernel) (c := 1) (by assumption) (by decide) rfl rfl rfl rfl rfl rfl ?_
    refine c_X1_readLeaky (v := nI 0) hS hZ G1 (Or.inl rfl) (fun i2 z => ?_)
    show zR E _ _ X 31 _ _ _ _ _ _ _
    refine r_goto (t := 164) qX1_readDeed_31 (by decide) ?_
    refine r_iconst (v := nI 1) qX1_readDeed_164 (by decide) ?_
    refine r_iret qX1_readDeed_165 rfl (by first | decide | exact zb_nar _ | assumption) rfl rfl ?_
    refine hK _ ?_
    rw [show mStat N B L t = mLeaky (nI 0) N B L t by rw [mStat, if_neg hs, if_neg hb, if_neg ht, if_neg n0, if_pos hw]]
    exact z
  have Ky37 : ¬ isW B L t wd_leak → ¬ isW B L t wd_seal → isW B L t wd_dip → ∀ i1 : Ni, yG rd tx L B a N i0 (sNext B L t) i1 → zR E mX1_readDeed (zZ E mX1_readDeed K) X 40 [.ref rd] [.int (nI 1)] g i1 j 0 0 := by
    intro n0 n1 hw i1 G1
    refine r_if_eq (t := 50) qX1_readDeed_40 (by decide) (fun hc40 => absurd hc40 (by decide)) (fun hc40 => ?_)
    refine r_aload_n qX1_readDeed_43 rfl ?_
    refine r_cv0 (cu2 := 0) (su2 := 0) qX1_readDeed_44 kX1_134 rfl (by decide +kernel) (c := 1) (by assumption) (by decide) rfl rfl rfl rfl rfl rfl ?_
    refine c_X1_readDip hS hZ G1 (fun i2 z => ?_)
    show zR E _ _ X 47 _ _ _ _ _ _ _
    refine r_goto (t := 164) qX1_readDeed_47 (by decide) ?_
    refine r_iconst (v := nI 1) qX1_readDeed_164 (by decide) ?_
    refine r_iret qX1_readDeed_165 rfl (by first | decide | exact zb_nar _ | assumption) rfl rfl ?_
    refine hK _ ?_
    rw [show mStat N B L t = mDip N B L t by rw [mStat, if_neg hs, if_neg hb, if_neg ht, if_neg n0, if_neg n1, if_pos hw]]
    exact z
  have Ky53 : ¬ isW B L t wd_leak → ¬ isW B L t wd_seal → ¬ isW B L t wd_dip → isW B L t wd_lift → ∀ i1 : Ni, yG rd tx L B a N i0 (sNext B L t) i1 → zR E mX1_readDeed (zZ E mX1_readDeed K) X 56 [.ref rd] [.int (nI 1)] g i1 j 0 0 := by
    intro n0 n1 n2 hw i1 G1
    refine r_if_eq (t := 66) qX1_readDeed_56 (by decide) (fun hc56 => absurd hc56 (by decide)) (fun hc56 => ?_)
    refine r_aload_n qX1_readDeed_59 rfl ?_
    refine r_cv0 (cu2 := 0) (su2 := 0) qX1_readDeed_60 kX1_139 rfl (by decide +kernel) (c := 1) (by assumption) (by decide) rfl rfl rfl rfl rfl rfl ?_
    refine c_X1_readLift hS hZ G1 (fun i2 z => ?_)
    show zR E _ _ X 63 _ _ _ _ _ _ _
    refine r_goto (t := 164) qX1_readDeed_63 (by decide) ?_
    refine r_iconst (v := nI 1) qX1_readDeed_164 (by decide) ?_
    refine r_iret qX1_readDeed_165 rfl (by first | decide | exact zb_nar _ | assumption) rfl rfl ?_
    refine hK _ ?_
    rw [show mStat N B L t = mLift N B L t by rw [mStat, if_neg hs, if_neg hb, if_neg ht, if_neg n0, if_neg n1, if_neg n2, if_pos hw]]
    exact z
  have Ky69 : ¬ isW B L t wd_leak → ¬ isW B L t wd_seal → ¬ isW B L t wd_dip → ¬ isW B L t wd_lift → isW B L t wd_mark → ∀ i1 : Ni, yG rd tx L B a N i0 (sNext B L t) i1 → zR E mX1_readDeed (zZ E mX1_readDeed K) X 72 [.ref rd] [.int (nI 1)] g i1 j 0 0 := by
    intro n0 n1 n2 n3 hw i1 G1
    refine r_if_eq (t := 82) qX1_readDeed_72 (by decide) (fun hc72 => absurd hc72 (by decide)) (fun hc72 => ?_)
    refine r_aload_n qX1_readDeed_75 rfl ?_
    refine r_cv0 (cu2 := 0) (su2 := 0) qX1_readDeed_76 kX1_144 rfl (by decide +kernel) (c := 1) (by assumption) (by decide) rfl rfl rfl rfl rfl rfl ?_
    refine c_X1_readMark hS hZ G1 (fun i2 z => ?_)
    show zR E _ _ X 79 _ _ _ _ _ _ _
    refine r_goto (t := 164) qX1_readDeed_79 (by decide) ?_
    refine r_iconst (v := nI 1) qX1_readDeed_164 (by decide) ?_
    refine r_iret qX1_readDeed_165 rfl (by first | decide | exact zb_nar _ | assumption) rfl rfl ?_
    refine hK _ ?_
    rw [show mStat N B L t = mMark N B L t by rw [mStat, if_neg hs, if_neg hb, if_neg ht, if_neg n0, if_neg n1, if_neg n2, if_neg n3, if_pos hw]]
    exact z
  have Ky85 : ¬ isW B L t wd_leak → ¬ isW B L t wd_seal → ¬ isW B L t wd_dip → ¬ isW B L t wd_lift → ¬ isW B L t wd_mark → isW B L t wd_thumb → ∀ i1 : Ni, yG rd tx L B a N i0 (sNext B L t) i1 → zR E mX1_readDeed (zZ E mX1_readDeed K) X 88 [.ref rd] [.int (nI 1)] g i1 j 0 0 := by
    intro n0 n1 n2 n3 n4 hw i1 G1
    refine r_if_eq (t := 98) qX1_readDeed_88 (by decide) (fun hc88 => absurd hc88 (by decide)) (fun hc88 => ?_)
    refine r_aload_n qX1_readDeed_91 rfl ?_
    refine r_cv0 (cu2 := 0) (su2 := 0) qX1_readDeed_92 kX1_149 rfl (by decide +kernel) (c := 1) (by assumption) (by decide) rfl rfl rfl rfl rfl rfl ?_
    refine c_X1_readThumb hS hZ G1 (fun i2 z => ?_)
    show zR E _ _ X 95 _ _ _ _ _ _ _
    refine r_goto (t := 164) qX1_readDeed_95 (by decide) ?_
    refine r_iconst (v := nI 1) qX1_readDeed_164 (by decide) ?_
    refine r_iret qX1_readDeed_165 rfl (by first | decide | exact zb_nar _ | assumption) rfl rfl ?_
    refine hK _ ?_
    rw [show mStat N B L t = mThumb N B L t by rw [mStat, if_neg hs, if_neg hb, if_neg ht, if_neg n0, if_neg n1, if_neg n2, if_neg n3, if_neg n4, if_pos hw]]
    exact z
  have Ky101 : ¬ isW B L t wd_leak → ¬ isW B L t wd_seal → ¬ isW B L t wd_dip → ¬ isW B L t wd_lift → ¬ isW B L t wd_mark → ¬ isW B L t wd_thumb → isW B L t wd_fill → ∀ i1 : Ni, yG rd tx L B a N i0 (sNext B L t) i1 → zR E mX1_readDeed (zZ E mX1_readDeed K) X 104 [.ref rd] [.int (nI 1)] g i1 j 0 0 := by
    intro n0 n1 n2 n3 n4 n5 hw i1 G1
    refine r_if_eq (t := 114) qX1_readDeed_104 (by decide) (fun hc104 => absurd hc104 (by decide)) (fun hc104 => ?_)
    refine r_aload_n qX1_readDeed_107 rfl ?_
    refine r_cv0 (cu2 := 0) (su2 := 0) qX1_readDeed_108 kX1_154 rfl (by decide +kernel) (c := 1) (by assumption) (by decide) rfl rfl rfl rfl rfl rfl ?_
    refine c_X1_readFill hS hZ G1 (fun i2 z => ?_)
    show zR E _ _ X 111 _ _ _ _ _ _ _
    refine r_goto (t := 164) qX1_readDeed_111 (by decide) ?_
    refine r_iconst (v := nI 1) qX1_readDeed_164 (by decide) ?_
    refine r_iret qX1_readDeed_165 rfl (by first | decide | exact zb_nar _ | assumption) rfl rfl ?_
    refine hK _ ?_
    rw [show mStat N B L t = mFill N B L t by rw [mStat, if_neg hs, if_neg hb, if_neg ht, if_neg n0, if_neg n1, if_neg n2, if_neg n3, if_neg n4, if_neg n5, if_pos hw]]
    exact z
  have Ky117 : ¬ isW B L t wd_leak → ¬ isW B L t wd_seal → ¬ isW B L t wd_dip → ¬ isW B L t wd_lift → ¬ isW B L t wd_mark → ¬ isW B L t wd_thumb → ¬ isW B L t wd_fill → isW B L t wd_erase → ∀ i1 : Ni, yG rd tx L B a N i0 (sNext B L t) i1 → zR E mX1_readDeed (zZ E mX1_readDeed K) X 120 [.ref rd] [.int (nI 1)] g i1 j 0 0 := by
    intro n0 n1 n2 n3 n4 n5 n6 hw i1 G1
    refine r_if_eq (t := 130) qX1_readDeed_120 (by decide) (fun hc120 => absurd hc120 (by decide)) (fun hc120 => ?_)
    refine r_aload_n qX1_readDeed_123 rfl ?_
    refine r_cv0 (cu2 := 0) (su2 := 0) qX1_readDeed_124 kX1_159 rfl (by decide +kernel) (c := 1) (by assumption) (by decide) rfl rfl rfl rfl rfl rfl ?_
    refine c_X1_readErase hS hZ G1 (fun i2 z => ?_)
    show zR E _ _ X 127 _ _ _ _ _ _ _
    refine r_goto (t := 164) qX1_readDeed_127 (by decide) ?_
    refine r_iconst (v := nI 1) qX1_readDeed_164 (by decide) ?_
    refine r_iret qX1_readDeed_165 rfl (by first | decide | exact zb_nar _ | assumption) rfl rfl ?_
    refine hK _ ?_
    rw [show mStat N B L t = mErase N B L t by rw [mStat, if_neg hs, if_neg hb, if_neg ht, if_neg n0, if_neg n1, if_neg n2, if_neg n3, if_neg n4, if_neg n5, if_neg n6, if_pos hw]]
    exact z
  have Ky133 : ¬ isW B L t wd_leak → ¬ isW B L t wd_seal → ¬ isW B L t wd_dip → ¬ isW B L t wd_lift → ¬ isW B L t wd_mark → ¬ isW B L t wd_thumb → ¬ isW B L t wd_fill → ¬ isW B L t wd_erase → isW B L t wd_room → ∀ i1 : Ni, yG rd tx L B a N i0 (sNext B L t) i1 → zR E mX1_readDeed (zZ E mX1_readDeed K) X 136 [.ref rd] [.int (nI 1)] g i1 j 0 0 := by
    intro n0 n1 n2 n3 n4 n5 n6 n7 hw i1 G1
    refine r_if_eq (t := 146) qX1_readDeed_136 (by decide) (fun hc136 => absurd hc136 (by decide)) (fun hc136 => ?_)
    refine r_aload_n qX1_readDeed_139 rfl ?_
    refine r_cv0 (cu2 := 0) (su2 := 0) qX1_readDeed_140 kX1_163 rfl (by decide +kernel) (c := 1) (by assumption) (by decide) rfl rfl rfl rfl rfl rfl ?_
    refine c_X1_readRoom hS hZ G1 (fun i2 z => ?_)
    show zR E _ _ X 143 _ _ _ _ _ _ _
    refine r_goto (t := 164) qX1_readDeed_143 (by decide) ?_
    refine r_iconst (v := nI 1) qX1_readDeed_164 (by decide) ?_
    refine r_iret qX1_readDeed_165 rfl (by first | decide | exact zb_nar _ | assumption) rfl rfl ?_
    refine hK _ ?_
    rw [show mStat N B L t = mRoom N B L t by rw [mStat, if_neg hs, if_neg hb, if_neg ht, if_neg n0, if_neg n1, if_neg n2, if_neg n3, if_neg n4, if_neg n5, if_neg n6, if_neg n7, if_pos hw]]
    exact z
  have Ky149 : ¬ isW B L t wd_leak → ¬ isW B L t wd_seal → ¬ isW B L t wd_dip → ¬ isW B L t wd_lift → ¬ isW B L t wd_mark → ¬ isW B L t wd_thumb → ¬ isW B L t wd_fill → ¬ isW B L t wd_erase → ¬ isW B L t wd_room → isW B L t wd_pass → ∀ i1 : Ni, yG rd tx L B a N i0 (sNext B L t) i1 → zR E mX1_readDeed (zZ E mX1_readDeed K) X 152 [.ref rd] [.int (nI 1)] g i1 j 0 0 := by
    intro n0 n1 n2 n3 n4 n5 n6 n7 n8 hw i1 G1
    refine r_if_eq (t := 162) qX1_readDeed_152 (by decide) (fun hc152 => absurd hc152 (by decide)) (fun hc152 => ?_)
    refine r_aload_n qX1_readDeed_155 rfl ?_
    refine r_cv0 (cu2 := 0) (su2 := 0) qX1_readDeed_156 kX1_168 rfl (by decide +kernel) (c := 1) (by assumption) (by decide) rfl rfl rfl rfl rfl rfl ?_
    refine c_X1_readPass hS hZ G1 (fun i2 z => ?_)
    show zR E _ _ X 159 _ _ _ _ _ _ _
    refine r_goto (t := 164) qX1_readDeed_159 (by decide) ?_
    refine r_iconst (v := nI 1) qX1_readDeed_164 (by decide) ?_
    refine r_iret qX1_readDeed_165 rfl (by first | decide | exact zb_nar _ | assumption) rfl rfl ?_
    refine hK _ ?_
    rw [show mStat N B L t = mPass N B L t by rw [mStat, if_neg hs, if_neg hb, if_neg ht, if_neg n0, if_neg n1, if_neg n2, if_neg n3, if_neg n4, if_neg n5, if_neg n6, if_neg n7, if_neg n8, if_pos hw]]
    exact z
  refine r_aload_n qX1_readDeed_0 rfl ?_
  refine r_ldcs (n := 5) qX1_readDeed_1 rfl ?_
  refine r_cv1 (cu2 := 0) (su2 := 0) qX1_readDeed_3 kX1_72 rfl (by decide +kernel) (c := 1) (by assumption) (by decide) rfl rfl rfl rfl rfl rfl ?_
  refine y_word hS hG wo_5 (fun hw i1 G1 => Ky3  hw i1 G1) (fun n0 => ?_)
  show zR E _ _ X 6 _ _ _ _ _ _ _
  refine r_if_eq (t := 17) qX1_readDeed_6 (by decide) (fun hc6 => ?_) (fun hc6 => absurd hc6 (by decide))
  refine r_aload_n qX1_readDeed_17 rfl ?_
  refine r_ldcs (n := 6) qX1_readDeed_18 rfl ?_
  refine r_cv1 (cu2 := 0) (su2 := 0) qX1_readDeed_20 kX1_72 rfl (by decide +kernel) (c := 1) (by assumption) (by decide) rfl rfl rfl rfl rfl rfl ?_
  refine y_word hS hG wo_6 (fun hw i1 G1 => Ky20 n0 hw i1 G1) (fun n1 => ?_)
  show zR E _ _ X 23 _ _ _ _ _ _ _
  refine r_if_eq (t := 34) qX1_readDeed_23 (by decide) (fun hc23 => ?_) (fun hc23 => absurd hc23 (by decide))
  refine r_aload_n qX1_readDeed_34 rfl ?_
  refine r_ldcs (n := 7) qX1_readDeed_35 rfl ?_
  refine r_cv1 (cu2 := 0) (su2 := 0) qX1_readDeed_37 kX1_72 rfl (by decide +kernel) (c := 1) (by assumption) (by decide) rfl rfl rfl rfl rfl rfl ?_
  refine y_word hS hG wo_7 (fun hw i1 G1 => Ky37 n0 n1 hw i1 G1) (fun n2 => ?_)
  show zR E _ _ X 40 _ _ _ _ _ _ _
  refine r_if_eq (t := 50) qX1_readDeed_40 (by decide) (fun hc40 => ?_) (fun hc40 => absurd hc40 (by decide))
  refine r_aload_n qX1_readDeed_50 rfl ?_
  refine r_ldcs (n := 8) qX1_readDeed_51 rfl ?_
  refine r_cv1 (cu2 := 0) (su2 := 0) qX1_readDeed_53 kX1_72 rfl (by decide +kernel) (c := 1) (by assumption) (by decide) rfl rfl rfl rfl rfl rfl ?_
  refine y_word hS hG wo_8 (fun hw i1 G1 => Ky53 n0 n1 n2 hw i1 G1) (fun n3 => ?_)
  show zR E _ _ X 56 _ _ _ _ _ _ _
  refine r_if_eq (t := 66) qX1_readDeed_56 (by decide) (fun hc56 => ?_) (fun hc56 => absurd hc56 (by decide))
  refine r_aload_n qX1_readDeed_66 rfl ?_
  refine r_ldcs (n := 9) qX1_readDeed_67 rfl ?_
  refine r_cv1 (cu2 := 0) (su2 := 0) qX1_readDeed_69 kX1_72 rfl (by decide +kernel) (c := 1) (by assumption) (by decide) rfl rfl rfl rfl rfl rfl ?_
  refine y_word hS hG wo_9 (fun hw i1 G1 => Ky69 n0 n1 n2 n3 hw i1 G1) (fun n4 => ?_)
  show zR E _ _ X 72 _ _ _ _ _ _ _
  refine r_if_eq (t := 82) qX1_readDeed_72 (by decide) (fun hc72 => ?_) (fun hc72 => absurd hc72 (by decide))
  refine r_aload_n qX1_readDeed_82 rfl ?_
  refine r_ldcs (n := 10) qX1_readDeed_83 rfl ?_
  refine r_cv1 (cu2 := 0) (su2 := 0) qX1_readDeed_85 kX1_72 rfl (by decide +kernel) (c := 1) (by assumption) (by decide) rfl rfl rfl rfl rfl rfl ?_
  refine y_word hS hG wo_10 (fun hw i1 G1 => Ky85 n0 n1 n2 n3 n4 hw i1 G1) (fun n5 => ?_)
  show zR E _ _ X 88 _ _ _ _ _ _ _
  refine r_if_eq (t := 98) qX1_readDeed_88 (by decide) (fun hc88 => ?_) (fun hc88 => absurd hc88 (by decide))
  refine r_aload_n qX1_readDeed_98 rfl ?_
  refine r_ldcs (n := 11) qX1_readDeed_99 rfl ?_
  refine r_cv1 (cu2 := 0) (su2 := 0) qX1_readDeed_101 kX1_72 rfl (by decide +kernel) (c := 1) (by assumption) (by decide) rfl rfl rfl rfl rfl rfl ?_
  refine y_word hS hG wo_11 (fun hw i1 G1 => Ky101 n0 n1 n2 n3 n4 n5 hw i1 G1) (fun n6 => ?_)
  show zR E _ _ X 104 _ _ _ _ _ _ _
  refine r_if_eq (t := 114) qX1_readDeed_104 (by decide) (fun hc104 => ?_) (fun hc104 => absurd hc104 (by decide))
  refine r_aload_n qX1_readDeed_114 rfl ?_
  refine r_ldcs (n := 12) qX1_readDeed_115 rfl ?_
  refine r_cv1 (cu2 := 0) (su2 := 0) qX1_readDeed_117 kX1_72 rfl (by decide +kernel) (c := 1) (by assumption) (by decide) rfl rfl rfl rfl rfl rfl ?_
  refine y_word hS hG wo_12 (fun hw i1 G1 => Ky117 n0 n1 n2 n3 n4 n5 n6 hw i1 G1) (fun n7 => ?_)
  show zR E _ _ X 120 _ _ _ _ _ _ _
  refine r_if_eq (t := 130) qX1_readDeed_120 (by decide) (fun hc120 => ?_) (fun hc120 => absurd hc120 (by decide))
  refine r_aload_n qX1_readDeed_130 rfl ?_
  refine r_ldcs (n := 13) qX1_readDeed_131 rfl ?_
  refine r_cv1 (cu2 := 0) (su2 := 0) qX1_readDeed_133 kX1_72 rfl (by decide +kernel) (c := 1) (by assumption) (by decide) rfl rfl rfl rfl rfl rfl ?_
  refine y_word hS hG wo_13 (fun hw i1 G1 => Ky133 n0 n1 n2 n3 n4 n5 n6 n7 hw i1 G1) (fun n8 => ?_)
  show zR E _ _ X 136 _ _ _ _ _ _ _
  refine r_if_eq (t := 146) qX1_readDeed_136 (by decide) (fun hc136 => ?_) (fun hc136 => absurd hc136 (by decide))
  refine r_aload_n qX1_readDeed_146 rfl ?_
  refine r_ldcs (n := 14) qX1_readDeed_147 rfl ?_
  refine r_cv1 (cu2 := 0) (su2 := 0) qX1_readDeed_149 kX1_72 rfl (by decide +kernel) (c := 1) (by assumption) (by decide) rfl rfl rfl rfl rfl rfl ?_
  refine y_word hS hG wo_14 (fun hw i1 G1 => Ky149 n0 n1 n2 n3 n4 n5 n6 n7 n8 hw i1 G1) (fun n9 => ?_)
  show zR E _ _ X 152 _ _ _ _ _ _ _
  refine r_if_eq (t := 162) qX1_readDeed_152 (by decide) (fun hc152 => ?_) (fun hc152 => absurd hc152 (by decide))
  refine r_iconst (v := nI 0) qX1_readDeed_162 (by decide) ?_
  refine r_iret qX1_readDeed_163 rfl (by first | decide | exact zb_nar _ | assumption) rfl rfl ?_
  exact hK0 (by rw [mStat, if_neg hs, if_neg hb, if_neg ht, if_neg n0, if_neg n1, if_neg n2, if_neg n3, if_neg n4, if_neg n5, if_neg n6, if_neg n7, if_neg n8, if_neg n9])
set_option maxHeartbeats 4000000 in
set_option maxRecDepth 20000 in
theorem c_X1_readSetup {E : Ev} {g : Sh} {i : Ni} {j : Nj} {K : Kp} {rd tx L : Nat} {B : Nat → Int32} {a : Nat → Nat} (hS : yS g rd tx a) (hL : i rd 2 = nI L) (hL6 : L ≤ 600) (hB : i tx = B) (hBy : zByt B) (hN : zNo i a) (hK0 : ∀ c w, mText B L = .error (c, w) → ¬ c = 0 → ∀ i', i' rd 3 = c → i' rd 4 = nI w → zNo i' a → zFy rd a i' i → K (.inl none) g i' j) (hK1 : ∀ t N, mText B L = .ok (t, N) → ∀ i', i' rd 3 = 0 → i' rd 4 = -1 → zH i' a N → zFy rd a i' i → K (.inl none) g i' j) : zCon E mX1_readSetup [.ref rd] g i j K := by
  refine zcon_of (by decide +kernel) rfl rfl (lo := [.ref rd, zJ]) rfl (fun X => ?_)
  obtain ⟨hR, r5, hC, g0⟩ := id hS
  have r1 := hR.1
  have a1 := hC.1
  have Kb32 : ∀ (m c : Int32) (w : Nat) (N : Nat → Int32) (i1 : Ni), mText B L = .error (c, w) → yE rd tx L B a N i c w i1 → zR E mX1_readSetup (zZ E mX1_readSetup K) X 32 [.ref rd, .int m] [] g i1 j 0 0 := by
    intro m c w N i1 he e
    obtain ⟨⟨t, hc⟩, e3, e0, e4, e5, e6⟩ := id e
    refine r_iload_n qX1_readSetup_32 rfl ?_
    refine r_sipush (v := nI 600) qX1_readSetup_33 (by decide) ?_
    refine r_icmp_ge (t := 78) qX1_readSetup_36 (by decide) (fun hc36 => ?_) (fun hc36 => ?_)
    · refine r_vret qX1_readSetup_78 rfl rfl rfl ?_
      exact hK0 c w he e0 i1 e3 e4 e5.nn e6
    · refine r_aload_n qX1_readSetup_39 rfl ?_
      refine r_geti qX1_readSetup_40 fX1_45 rfl (by assumption) ?_
      rw [e3]
      refine r_if_ne (t := 78) qX1_readSetup_43 (by decide) (fun hc43 => ?_) (fun hc43 => absurd hc43 (e0))
      refine r_vret qX1_readSetup_78 rfl rfl rfl ?_
      exact hK0 c w he e0 i1 e3 e4 e5.nn e6
  have K32 : ∀ (f m : Nat) (N : Nat → Int32) (t : Nat) (i1 : Ni), L - t ≤ f → m ≤ t → zZr N → yG rd tx L B a N i t i1 → mText B L = mLoop B L f N t → zR E mX1_readSetup (zZ E mX1_readSetup K) X 32 [.ref rd, .int (nI m)] [] g i1 j 0 0 := by
    intro f
    induction f with
    | zero =>
      intro m N t i1 hf hm hZ hG e
      have p8 := hG.1.2.2.2.2.2.2.2
      have p5 := hG.1.2.2.2.2.1
      have hk0 := cKind_0.mp (sKind_0 (B := B) (show L ≤ t by omega))
      refine r_iload_n qX1_readSetup_32 rfl ?_
      refine r_sipush (v := nI 600) qX1_readSetup_33 (by decide) ?_
      refine r_icmp_ge (t := 78) qX1_readSetup_36 (by decide) (fun hc36 => ?_) (fun hc36 => ?_)
      · refine r_vret qX1_readSetup_78 rfl rfl rfl ?_
        exact hK1 t N (by rw [e, mLoop]) i1 hG.2.1.1 hG.2.1.2 hG.2.2.1 hG.2.2.2
      · refine r_aload_n qX1_readSetup_39 rfl ?_
        refine r_geti qX1_readSetup_40 fX1_45 rfl (by assumption) ?_
        rw [hG.2.1.1]
        refine r_if_ne (t := 78) qX1_readSetup_43 (by decide) (fun hc43 => absurd hc43 (fun h => h rfl)) (fun hc43 => ?_)
        refine r_aload_n qX1_readSetup_46 rfl ?_
        refine r_geti qX1_readSetup_47 fX1_57 rfl (by assumption) ?_
        rw [p8, hk0]
        refine r_if_eq (t := 78) qX1_readSetup_50 (by decide) (fun hc50 => ?_) (fun hc50 => absurd hc50 (by decide))
        refine r_vret qX1_readSetup_78 rfl rfl rfl ?_
        exact hK1 t N (by rw [e, mLoop]) i1 hG.2.1.1 hG.2.1.2 hG.2.2.1 hG.2.2.2
    | succ f ih =>
      intro m N t i1 hf hm hZ hG e
      have p8 := hG.1.2.2.2.2.2.2.2
      have p6 := hG.1.2.2.2.2.2.1
      have p5 := hG.1.2.2.2.2.1
      have hk5 := cKind_lt B L t
      by_cases hk : sKind B L t = 0
      · skip
        have hk0 := cKind_0.mp hk
        refine r_iload_n qX1_readSetup_32 rfl ?_
        refine r_sipush (v := nI 600) qX1_readSetup_33 (by decide) ?_
        refine r_icmp_ge (t := 78) qX1_readSetup_36 (by decide) (fun hc36 => ?_) (fun hc36 => ?_)
        · refine r_vret qX1_readSetup_78 rfl rfl rfl ?_
          exact hK1 t N (by rw [e, mLoop, if_pos hk]) i1 hG.2.1.1 hG.2.1.2 hG.2.2.1 hG.2.2.2
        · refine r_aload_n qX1_readSetup_39 rfl ?_
          refine r_geti qX1_readSetup_40 fX1_45 rfl (by assumption) ?_
          rw [hG.2.1.1]
          refine r_if_ne (t := 78) qX1_readSetup_43 (by decide) (fun hc43 => absurd hc43 (fun h => h rfl)) (fun hc43 => ?_)
          refine r_aload_n qX1_readSetup_46 rfl ?_
          refine r_geti qX1_readSetup_47 fX1_57 rfl (by assumption) ?_
          rw [p8, hk0]
          refine r_if_eq (t := 78) qX1_readSetup_50 (by decide) (fun hc50 => ?_) (fun hc50 => absurd hc50 (by decide))
          refine r_vret qX1_readSetup_78 rfl rfl rfl ?_
          exact hK1 t N (by rw [e, mLoop, if_pos hk]) i1 hG.2.1.1 hG.2.1.2 hG.2.2.1 hG.2.2.2
      · skip
        have hn : ¬ nI (cKind B L t) = 0 := fun h => hk (cKind_0.mpr ((nI_eq (by omega) (by decide)).mp (h.trans nI_0.symm)))
        have ht : t < L := by
          rcases Nat.lt_or_ge t L with h1 | h1
          · exact h1
          · exact absurd (sKind_0 h1) hk
        have K72 : ∀ i2 : Ni, yRes rd tx L B a N i (mStat N B L t) i2 → zR E mX1_readSetup (zZ E mX1_readSetup K) X 72 [.ref rd, .int (nI m)] [] g i2 j 0 0 := by
          intro i2 z
          refine r_ii_2_1 qX1_readSetup_72 rfl rfl (nI_inc m) ?_
          refine r_goto (t := 32) qX1_readSetup_75 (by decide) ?_
          cases hs : mStat N B L t with
          | error p =>
            obtain ⟨c, w⟩ := p
            rw [hs] at z
            exact Kb32 _ c w N i2 (by rw [e, mLoop, if_neg hk, hs]; rfl) z
          | ok p =>
            obtain ⟨t2, N2⟩ := p
            rw [hs] at z
            obtain ⟨o1, o2, o3⟩ := mStat_ok hG.2.2.1.1 hZ ht hs
            exact ih (m + 1) N2 t2 i2 (by omega) (by omega) o2 z (by rw [e, mLoop, if_neg hk, hs]; rfl)
        have K57y : ∀ i2 : Ni, yRes rd tx L B a N i (mStat N B L t) i2 → zR E mX1_readSetup (zZ E mX1_readSetup K) X 57 [.ref rd, .int (nI m)] [.int (nI 1)] g i2 j 0 0 := by
          intro i2 z
          refine r_if_ne (t := 72) qX1_readSetup_57 (by decide) (fun hc57 => ?_) (fun hc57 => absurd hc57 (by decide))
          exact K72 i2 z
        have K64y : ∀ i2 : Ni, yRes rd tx L B a N i (mStat N B L t) i2 → zR E mX1_readSetup (zZ E mX1_readSetup K) X 64 [.ref rd, .int (nI m)] [.int (nI 1)] g i2 j 0 0 := by
          intro i2 z
          refine r_if_ne (t := 72) qX1_readSetup_64 (by decide) (fun hc64 => ?_) (fun hc64 => absurd hc64 (by decide))
          exact K72 i2 z
        refine r_iload_n qX1_readSetup_32 rfl ?_
        refine r_sipush (v := nI 600) qX1_readSetup_33 (by decide) ?_
        refine r_icmp_ge (t := 78) qX1_readSetup_36 (by decide) (fun hc36 => absurd hc36 (nI_ge (show m < 600 by omega) (by decide))) (fun hc36 => ?_)
        refine r_aload_n qX1_readSetup_39 rfl ?_
        refine r_geti qX1_readSetup_40 fX1_45 rfl (by assumption) ?_
        rw [hG.2.1.1]
        refine r_if_ne (t := 78) qX1_readSetup_43 (by decide) (fun hc43 => absurd hc43 (fun h => h rfl)) (fun hc43 => ?_)
        refine r_aload_n qX1_readSetup_46 rfl ?_
        refine r_geti qX1_readSetup_47 fX1_57 rfl (by assumption) ?_
        rw [p8]
        refine r_if_eq (t := 78) qX1_readSetup_50 (by decide) (fun hc50 => absurd hc50 (hn)) (fun hc50 => ?_)
        refine r_aload_n qX1_readSetup_53 rfl ?_
        refine r_cv0 (cu2 := 0) (su2 := 0) qX1_readSetup_54 kX1_60 rfl (by decide +kernel) (c := 1) (by assumption) (by decide) rfl rfl rfl rfl rfl rfl ?_
        refine c_X1_readDescription hS hZ hG (fun i2 z => K57y i2 z) (fun ns nb nt => ?_)
        show zR E _ _ X 57 _ _ _ _ _ _ _
        refine r_if_ne (t := 72) qX1_readSetup_57 (by decide) (fun hc57 => absurd hc57 (by decide)) (fun hc57 => ?_)
        refine r_aload_n qX1_readSetup_60 rfl ?_
        refine r_cv0 (cu2 := 0) (su2 := 0) qX1_readSetup_61 kX1_64 rfl (by decide +kernel) (c := 1) (by assumption) (by decide) rfl rfl rfl rfl rfl rfl ?_
        refine c_X1_readDeed hS hZ hG ns nb nt (fun i2 z => K64y i2 z) (fun hs => ?_)
        show zR E _ _ X 64 _ _ _ _ _ _ _
        refine r_if_ne (t := 72) qX1_readSetup_64 (by decide) (fun hc64 => absurd hc64 (by decide)) (fun hc64 => ?_)
        refine r_aload_n qX1_readSetup_67 rfl ?_
        refine r_iconst (v := nI 1) qX1_readSetup_68 (by decide) ?_
        refine r_cv1 (cu2 := 0) (su2 := 0) qX1_readSetup_69 kX1_67 rfl (by decide +kernel) (c := 1) (by assumption) (by decide) rfl rfl rfl rfl rfl rfl ?_
        refine c_X1_fail r1 hG.2.1.1 ?_
        rw [p6]
        show zR E _ _ X 72 _ _ _ _ _ _ _
        exact K72 _ (by rw [hs]; exact hG.bad hS (by decide))
  have K27 : ∀ (t : Nat) (i2 : Ni), t = sSkip B L L 0 → yG rd tx L B a (aGal (nI 0) (nI 1)) i t i2 → zR E mX1_readSetup (zZ E mX1_readSetup K) X 26 [.ref rd, zJ] [] g i2 j 0 0 := by
    intro t i2 et G0
    refine r_aload_n qX1_readSetup_26 rfl ?_
    refine r_cv0 (cu2 := 0) (su2 := 0) qX1_readSetup_27 kX1_54 rfl (by decide +kernel) (c := 1) (by assumption) (by decide) rfl rfl rfl rfl rfl rfl ?_
    refine c_X1_readGallery hS G0 (fun i3 z => ?_)
    show zR E _ _ X 30 _ _ _ _ _ _ _
    refine r_iconst (v := nI 0) qX1_readSetup_30 (by decide) ?_
    refine r_is_2_1 qX1_readSetup_31 rfl rfl ?_
    subst et
    cases hs : mGal B L (sSkip B L L 0) with
    | error p =>
      obtain ⟨c, w⟩ := p
      rw [hs] at z
      exact Kb32 _ c w _ i3 (by rw [mText, hs]; rfl) z
    | ok p =>
      obtain ⟨t2, N2⟩ := p
      rw [hs] at z
      obtain ⟨o1, o2⟩ := mGal_ok hs
      exact K32 L 0 N2 t2 i3 (by omega) (by omega) o2 z (by rw [mText, hs]; rfl)
  have ra : ∀ q, q < 30 → rd ≠ a q := fun q hq => Ne.symm (hS.ar hq)
  have ta : ∀ q, q < 30 → tx ≠ a q := fun q hq => Ne.symm (hS.at hq)
  have tr := hS.tr
  refine r_aload_n qX1_readSetup_0 rfl ?_
  refine r_getr qX1_readSetup_1 fX1_18 rfl (by assumption) (by first | assumption | rfl) ?_
  refine r_cv0 (cu2 := 0) (su2 := 0) qX1_readSetup_4 kX1_42 rfl (by decide +kernel) (c := 0) (by assumption) (by decide) rfl rfl rfl rfl rfl rfl ?_
  refine c_X0_clear a1 ?_
  generalize hi1 : wA i (a 0) _ = i1
  have e0 : i1 (a 0) = upd (upd (upd (upd (upd (upd (upd (upd (i (a 0)) 5 (nI 0)) 6 (nI 0)) 7 (nI 0)) 8 (nI 0)) 9 (nI 0)) 10 (nI 1)) 11 (-1)) 12 (nI 0) := by rw [← hi1, wA_s]
  have eo : ∀ r, r ≠ a 0 → i1 r = i r := fun r hr => by rw [← hi1]; exact wA_n hr
  clear hi1
  show zR E _ _ X 7 _ _ _ _ _ _ _
  refine r_aload_n qX1_readSetup_7 rfl ?_
  refine r_iconst (v := nI 0) qX1_readSetup_8 (by decide) ?_
  refine r_puti qX1_readSetup_9 fX1_45 (Or.inl rfl) rfl rfl rfl (by assumption) ?_
  skip
  refine r_aload_n qX1_readSetup_12 rfl ?_
  refine r_iconst (v := (-1)) qX1_readSetup_13 (by decide) ?_
  refine r_puti qX1_readSetup_14 fX1_22 (Or.inl rfl) rfl rfl rfl (by assumption) ?_
  simp only [wA_s, wA_wA]
  refine r_aload_n qX1_readSetup_17 rfl ?_
  refine r_iconst (v := nI 0) qX1_readSetup_18 (by decide) ?_
  refine r_puti qX1_readSetup_19 fX1_48 (Or.inl rfl) rfl rfl rfl (by assumption) ?_
  simp only [wA_s, wA_wA]
  refine r_aload_n qX1_readSetup_22 rfl ?_
  refine r_cv0 (cu2 := 0) (su2 := 0) qX1_readSetup_23 kX1_51 rfl (by decide +kernel) (c := 1) (by assumption) (by decide) rfl rfl rfl rfl rfl rfl ?_
  refine c_X1_nextToken hR (L := L) (a := 0) (B := B) (by rw [wA_s]; simp (disch := decide) only [pk_un]; rw [eo rd (ra 0 (by decide))]; exact hL) hL6 (by rw [wA_n tr, eo tx (ta 0 (by decide))]; exact hB) (by rw [wA_s, pk_us]) (by omega) (fun F hF fo => ?_)
  simp only [wA_wA]
  rw [Nat.sub_zero] at hF
  have F3 : F 3 = nI 0 := by rw [fo 3 (by decide) (by decide) (by decide), wA_s]; simp (disch := decide) only [pk_us, pk_un]
  have F4 : F 4 = -1 := by rw [fo 4 (by decide) (by decide) (by decide), wA_s]; simp (disch := decide) only [pk_us, pk_un]
  have Fo : ∀ m, m ≠ 3 → m ≠ 4 → m ≠ 5 → m ≠ 6 → m ≠ 7 → F m = i rd m := fun m m3 m4 m5 m6 m7 => by rw [fo m m5 m6 m7, wA_s, pk_un m7, pk_un m4, pk_un m3, eo rd (ra 0 (by decide))]
  show zR E _ _ X 26 _ _ _ _ _ _ _
  refine K27 _ _ rfl ⟨⟨by rw [wA_s, Fo 2 (by decide) (by decide) (by decide) (by decide) (by decide)]; exact hL, hL6, hBy, by rw [wA_n tr, eo tx (ta 0 (by decide))]; exact hB, sSkip_le _ _ _ _ (by omega), by rw [wA_s]; exact hF⟩, ⟨by rw [wA_s]; exact F3, by rw [wA_s]; exact F4⟩, zH.new ⟨by decide, by decide⟩ ⟨by decide, by decide⟩ (fun z hz => by rw [wA_n (hS.ar (by omega)), eo _ (hC.inj (by omega) (by decide) (by omega))]; exact hN z hz) ?_, fun m m3 m4 m5 m6 m7 => by rw [wA_s]; exact Fo m m3 m4 m5 m6 m7, fun r h1 h2 => by rw [wA_n h1, eo r (h2 0 (by decide))]⟩
  rw [wA_n (hS.ar (by decide)), e0]
  refine ⟨?_, ?_, ?_, ?_, ?_, ?_, ?_, ?_⟩ <;> simp (disch := decide) only [aGal, pk_us, pk_un]


