/-! ===== THE MODEL TAKES A NUMBER, DEGREES ===== -/
theorem zBad_12 {i : Ni} {x : Nat} {v w : Int32} : zBad i x v w x 12 = v := by rw [zBad, wA_s, pk_un (by decide), pk_us]
/-- a good state of the parser: the token at s -/
def zPs (i : Ni) (j : Nj) (x b L s : Nat) : Prop := i x 5 = nI L ∧ L ≤ 600 ∧ zByt (i b) ∧ s ≤ L ∧ zTok (i x) (j x) (i b) L s
abbrev okN (B : Nat → Int32) (L s : Nat) (l h : Int32) : Prop := sKind B L s = 2 ∧ l.toInt ≤ (sVal B L s).toInt ∧ (sVal B L s).toInt ≤ h.toInt
theorem sKind_lt (B : Nat → Int32) (L s : Nat) : sKind B L s < 4 := by
  rw [sKind]
  split
  · decide
  · split
    · decide
    · split <;> decide
/-- the next token, in the contract's words -/
theorem c_next {E : Ev} {g : Sh} {i : Ni} {j : Nj} {K : Kp} {x n d b p s o L t : Nat} (hW : zW g x n d b p s o) (hP : zPs i j x b L t) (hK : ∀ (i' : Ni) (j' : Nj), zTok (i' x) (j' x) (i b) L (sNext (i b) L t) → zFr x i' i j' j → K (.inl none) g i' j') : zCon E mX4_goOn [.ref x] g i j K := by
  obtain ⟨p1, p2, p3, p4, p5⟩ := hP
  exact c_X4_goOn hW p1 p2 p5.2.1 (sEnd_le _ _ _ p4) p3 hK
set_option maxHeartbeats 4000000 in
set_option maxRecDepth 20000 in
theorem c_X4_takeNumber {E : Ev} {g : Sh} {i : Ni} {j : Nj} {K : Kp} {x n d b p s o L t : Nat} {l h : Int32} (hW : zW g x n d b p s o) (hP : zPs i j x b L t) (h0 : i x 12 = 0) (hKy : okN (i b) L t l h → ∀ (i' : Ni) (j' : Nj), zTok (i' x) (j' x) (i b) L (sNext (i b) L t) → zFr x i' i j' j → K (.inl (some (.int (sVal (i b) L t)))) g i' j') (hKn : ¬ okN (i b) L t l h → K (.inl (some (.int l))) g (zBad i x (if sKind (i b) L t = 2 then nI 2 else nI 1) (nI t)) j) : zCon E mX4_takeNumber [.ref x, .int l, .int h] g i j K := by
  refine zcon_of (by decide +kernel) rfl rfl (lo := [.ref x, .int l, .int h, zJ]) rfl (fun X => ?_)
  have w1 := hW.1
  obtain ⟨p1, p2, p3, p4, p5⟩ := id hP
  obtain ⟨z8, z6, z7, z9, z11, z10⟩ := id p5
  have hk4 := sKind_lt (i b) L t
  have K45b : ∀ c : Int32, ¬ c = 0 → ¬ okN (i b) L t l h → c = (if sKind (i b) L t = 2 then nI 2 else nI 1) → zR E mX4_takeNumber (zZ E mX4_takeNumber K) X 45 [.ref x, .int l, .int h, zJ] [] g (zBad i x c (nI t)) j 0 0 := by
    intro c hc hn he
    have hK := hKn hn
    rw [← he] at hK
    refine r_aload_n qX4_takeNumber_45 rfl ?_
    refine r_cv0 (cu2 := 0) (su2 := 0) qX4_takeNumber_46 kX4_269 rfl (by decide +kernel) (c := 4) (by assumption) (by decide) rfl rfl rfl rfl rfl rfl ?_
    refine c_X4_isGood (by first | assumption | omega | rfl | decide) ?_
    show zR E _ _ X 49 _ _ _ _ _ _ _
    rw [zBad_12, zb_f hc]
    refine r_if_eq (t := 59) qX4_takeNumber_49 (by decide) (fun hc49 => ?_) (fun hc49 => absurd hc49 (by decide))
    refine r_iload_n qX4_takeNumber_59 rfl ?_
    refine r_is_4_3 qX4_takeNumber_60 rfl rfl ?_
    refine r_aload_n qX4_takeNumber_61 rfl ?_
    refine r_cv0 (cu2 := 0) (su2 := 0) qX4_takeNumber_62 kX4_269 rfl (by decide +kernel) (c := 4) (by assumption) (by decide) rfl rfl rfl rfl rfl rfl ?_
    refine c_X4_isGood (by first | assumption | omega | rfl | decide) ?_
    show zR E _ _ X 65 _ _ _ _ _ _ _
    rw [zBad_12, zb_f hc]
    refine r_if_eq (t := 72) qX4_takeNumber_65 (by decide) (fun hc65 => ?_) (fun hc65 => absurd hc65 (by decide))
    refine r_iload_n qX4_takeNumber_72 rfl ?_
    refine r_iret qX4_takeNumber_73 rfl rfl rfl rfl ?_
    exact hK
  have K45g : okN (i b) L t l h → zR E mX4_takeNumber (zZ E mX4_takeNumber K) X 45 [.ref x, .int l, .int h, zJ] [] g i j 0 0 := by
    intro hy
    have hK := hKy hy
    refine r_aload_n qX4_takeNumber_45 rfl ?_
    refine r_cv0 (cu2 := 0) (su2 := 0) qX4_takeNumber_46 kX4_269 rfl (by decide +kernel) (c := 4) (by assumption) (by decide) rfl rfl rfl rfl rfl rfl ?_
    refine c_X4_isGood (by first | assumption | omega | rfl | decide) ?_
    show zR E _ _ X 49 _ _ _ _ _ _ _
    rw [zb_t h0]
    refine r_if_eq (t := 59) qX4_takeNumber_49 (by decide) (fun hc49 => absurd hc49 (by decide)) (fun hc49 => ?_)
    refine r_aload_n qX4_takeNumber_52 rfl ?_
    refine r_geti qX4_takeNumber_53 fX4_232 rfl (by assumption) ?_
    refine r_goto (t := 60) qX4_takeNumber_56 (by decide) ?_
    rw [z11]
    refine r_is_4_3 qX4_takeNumber_60 rfl rfl ?_
    refine r_aload_n qX4_takeNumber_61 rfl ?_
    refine r_cv0 (cu2 := 0) (su2 := 0) qX4_takeNumber_62 kX4_269 rfl (by decide +kernel) (c := 4) (by assumption) (by decide) rfl rfl rfl rfl rfl rfl ?_
    refine c_X4_isGood (by first | assumption | omega | rfl | decide) ?_
    show zR E _ _ X 65 _ _ _ _ _ _ _
    rw [zb_t h0]
    refine r_if_eq (t := 72) qX4_takeNumber_65 (by decide) (fun hc65 => absurd hc65 (by decide)) (fun hc65 => ?_)
    refine r_aload_n qX4_takeNumber_68 rfl ?_
    refine r_cv0 (cu2 := 0) (su2 := 0) qX4_takeNumber_69 kX4_253 rfl (by decide +kernel) (c := 4) (by assumption) (by decide) rfl rfl rfl rfl rfl rfl ?_
    refine c_next hW hP (fun i2 j2 a1 a2 => ?_)
    show zR E _ _ X 72 _ _ _ _ _ _ _
    refine r_iload_n qX4_takeNumber_72 rfl ?_
    refine r_iret qX4_takeNumber_73 rfl rfl rfl rfl ?_
    exact hK i2 j2 a1 a2
  refine r_aload_n qX4_takeNumber_0 rfl ?_
  refine r_cv0 (cu2 := 0) (su2 := 0) qX4_takeNumber_1 kX4_269 rfl (by decide +kernel) (c := 4) (by assumption) (by decide) rfl rfl rfl rfl rfl rfl ?_
  refine c_X4_isGood (by first | assumption | omega | rfl | decide) ?_
  show zR E _ _ X 4 _ _ _ _ _ _ _
  rw [zb_t h0]
  refine r_if_ne (t := 9) qX4_takeNumber_4 (by decide) (fun hc4 => ?_) (fun hc4 => absurd hc4 (by decide))
  refine r_aload_n qX4_takeNumber_9 rfl ?_
  refine r_geti qX4_takeNumber_10 fX4_235 rfl (by assumption) ?_
  refine r_iconst (v := nI 2) qX4_takeNumber_13 (by decide) ?_
  rw [z7]
  refine r_icmp_eq (t := 25) qX4_takeNumber_14 (by decide) (fun hc14 => ?_) (fun hc14 => ?_)
  · have hk2 : sKind (i b) L t = 2 := (nI_eq (by omega) (by omega)).mp hc14
    refine r_aload_n qX4_takeNumber_25 rfl ?_
    refine r_geti qX4_takeNumber_26 fX4_232 rfl (by assumption) ?_
    rw [z11]
    refine r_i2l qX4_takeNumber_29 ?_
    refine r_iload_n qX4_takeNumber_30 rfl ?_
    refine r_i2l qX4_takeNumber_31 ?_
    refine r_iload_n qX4_takeNumber_32 rfl ?_
    refine r_i2l qX4_takeNumber_33 ?_
    refine r_cs3 (cu2 := 0) (su2 := 0) qX4_takeNumber_34 kX4_276 rfl (by decide +kernel) rfl rfl rfl rfl rfl ?_
    refine c_X4_in ?_
    show zR E _ _ X 37 _ _ _ _ _ _ _
    rw [zb_c (show (l.toInt64.toInt ≤ (sVal (i b) L t).toInt64.toInt ∧ (sVal (i b) L t).toInt64.toInt ≤ h.toInt64.toInt) ↔ (l.toInt ≤ (sVal (i b) L t).toInt ∧ (sVal (i b) L t).toInt ≤ h.toInt) by rw [Int32.toInt_toInt64, Int32.toInt_toInt64, Int32.toInt_toInt64])]
    refine r_if_ne (t := 45) qX4_takeNumber_37 (by decide) (fun hc37 => ?_) (fun hc37 => ?_)
    · first | exact K45g ⟨hk2, zb_ne.mp hc37⟩ | exact K45b _ (by decide) (fun h => zb_0.mp hc37 h.2) (by rw [if_pos hk2]) | exact K45b _ (by decide) (fun h => hk2 h.1) (by rw [if_neg hk2])
    · refine r_aload_n qX4_takeNumber_40 rfl ?_
      refine r_iconst (v := nI 2) qX4_takeNumber_41 (by decide) ?_
      refine r_cv1 (cu2 := 0) (su2 := 0) qX4_takeNumber_42 kX4_273 rfl (by decide +kernel) (c := 4) (by assumption) (by decide) rfl rfl rfl rfl rfl rfl ?_
      refine c_X4_fault w1 h0 ?_; rw [z8]
      show zR E _ _ X 45 _ _ _ _ _ _ _
      first | exact K45g ⟨hk2, zb_ne.mp hc37⟩ | exact K45b _ (by decide) (fun h => zb_0.mp hc37 h.2) (by rw [if_pos hk2]) | exact K45b _ (by decide) (fun h => hk2 h.1) (by rw [if_neg hk2])
  · have hk2 : ¬ sKind (i b) L t = 2 := fun h => hc14 (congrArg nI h)
    refine r_aload_n qX4_takeNumber_17 rfl ?_
    refine r_iconst (v := nI 1) qX4_takeNumber_18 (by decide) ?_
    refine r_cv1 (cu2 := 0) (su2 := 0) qX4_takeNumber_19 kX4_273 rfl (by decide +kernel) (c := 4) (by assumption) (by decide) rfl rfl rfl rfl rfl rfl ?_
    refine c_X4_fault w1 h0 ?_; rw [z8]
    show zR E _ _ X 22 _ _ _ _ _ _ _
    refine r_goto (t := 45) qX4_takeNumber_22 (by decide) ?_
    first | exact K45g ⟨hk2, zb_ne.mp hc37⟩ | exact K45b _ (by decide) (fun h => zb_0.mp hc37 h.2) (by rw [if_pos hk2]) | exact K45b _ (by decide) (fun h => hk2 h.1) (by rw [if_neg hk2])

