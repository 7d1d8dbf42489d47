/-! ===== DEGREES AND THE END OF A STATEMENT ===== -/
def zFb (x : Nat) (i0 i : Ni) (j0 j : Nj) : Prop := (∀ m, m ≠ 6 → m ≠ 7 → m ≠ 8 → m ≠ 9 → m ≠ 11 → m ≠ 12 → m ≠ 13 → i0 x m = i x m) ∧ (∀ r, r ≠ x → i0 r = i r) ∧ (∀ m, m ≠ 10 → j0 x m = j x m) ∧ ∀ r, r ≠ x → j0 r = j r
theorem zFr.bad {x : Nat} {i0 i : Ni} {j0 j : Nj} {v w : Int32} (h : zFr x i0 i j0 j) : zFb x (zBad i0 x v w) i j0 j :=
  ⟨fun m a b c d e e1 e2 => by rw [zBad, wA_s, pk_un e2, pk_un e1]; exact h.1 m a b c d e, fun r hr => by rw [zBad, wA_n hr]; exact h.2.1 r hr, h.2.2.1, h.2.2.2⟩
theorem zBad_13 {i : Ni} {x : Nat} {v w : Int32} : zBad i x v w x 13 = w := by rw [zBad, wA_s, pk_us]
theorem zPs.next {i i' : Ni} {j j' : Nj} {x n d b p s o L t : Nat} {g : Sh} (hW : zW g x n d b p s o) (h : zPs i j x b L t) (hT : zTok (i' x) (j' x) (i b) L (sNext (i b) L t)) (hF : zFr x i' i j' j) : zPs i' j' x b L (sNext (i b) L t) ∧ i' b = i b := by
  obtain ⟨p1, p2, p3, p4, p5⟩ := h
  have e : i' b = i b := hF.2.1 b hW.bb.1
  exact ⟨⟨(hF.1 5 (by decide) (by decide) (by decide) (by decide) (by decide)).trans p1, p2, by rw [e]; exact p3, sNext_le _ _ _ p4, by rw [e]; exact hT⟩, e⟩
theorem zFr.trans {x : Nat} {i0 i1 i2 : Ni} {j0 j1 j2 : Nj} (h : zFr x i0 i1 j0 j1) (h2 : zFr x i1 i2 j1 j2) : zFr x i0 i2 j0 j2 :=
  ⟨fun m a b c d e => (h.1 m a b c d e).trans (h2.1 m a b c d e), fun r hr => (h.2.1 r hr).trans (h2.2.1 r hr), fun m a => (h.2.2.1 m a).trans (h2.2.2.1 m a), fun r hr => (h.2.2.2 r hr).trans (h2.2.2.2 r hr)⟩
theorem zFr.e12 {x : Nat} {i0 i : Ni} {j0 j : Nj} (h : zFr x i0 i j0 j) : i0 x 12 = i x 12 := h.1 12 (by decide) (by decide) (by decide) (by decide) (by decide)
abbrev isNeg (B : Nat → Int32) (L t : Nat) : Prop := sKind B L t = 3 ∧ sVal B L t = nI 45
set_option maxHeartbeats 4000000 in
set_option maxRecDepth 20000 in
theorem c_X4_takeDegrees {E : Ev} {g : Sh} {i : Ni} {j : Nj} {K : Kp} {x n d b p s o L t : Nat} (hW : zW g x n d b p s o) (hP : zPs i j x b L t) (h0 : i x 12 = 0) (hKy : isNeg (i b) L t → okN (i b) L (sNext (i b) L t) (nI 0) (nI 20) → ∀ (i' : Ni) (j' : Nj), zTok (i' x) (j' x) (i b) L (sNext (i b) L (sNext (i b) L t)) → zFr x i' i j' j → K (.inl (some (.int (-(sVal (i b) L (sNext (i b) L t)))))) g i' j') (hKz : ¬ isNeg (i b) L t → okN (i b) L t (nI 0) (nI 150) → ∀ (i' : Ni) (j' : Nj), zTok (i' x) (j' x) (i b) L (sNext (i b) L t) → zFr x i' i j' j → K (.inl (some (.int (sVal (i b) L t)))) g i' j') (hKn : ∀ t1 h1, t1 = (if isNeg (i b) L t then sNext (i b) L t else t) → h1 = (if isNeg (i b) L t then nI 20 else nI 150) → ¬ okN (i b) L t1 (nI 0) h1 → ∀ (i' : Ni) (j' : Nj), i' x 12 = (if sKind (i b) L t1 = 2 then nI 2 else nI 1) → i' x 13 = nI t1 → zFb x i' i j' j → K (.inl (some (.int (nI 0)))) g i' j') : zCon E mX4_takeDegrees [.ref x] g i j K := by
  refine zcon_of (by decide +kernel) rfl rfl (lo := [.ref x]) rfl (fun X => ?_)
  have w1 := hW.1
  obtain ⟨p1, p2, p3, p4, p5⟩ := id hP
  obtain ⟨z8, z6, z7, z9, z11, z10⟩ := id p5
  have hk4 := sKind_lt (i b) L t
  have K37 : ¬ isNeg (i b) L t → zR E mX4_takeDegrees (zZ E mX4_takeDegrees K) X 37 [.ref x] [] g i j 0 0 := by
    intro hn
    refine r_aload_n qX4_takeDegrees_37 rfl ?_
    refine r_iconst (v := nI 0) qX4_takeDegrees_38 (by decide) ?_
    refine r_sipush (v := nI 150) qX4_takeDegrees_39 (by decide) ?_
    refine r_cv2 (cu2 := 0) (su2 := 0) qX4_takeDegrees_42 kX4_280 rfl (by decide +kernel) (c := 4) (by assumption) (by decide) rfl rfl rfl rfl rfl rfl ?_
    refine c_X4_takeNumber hW hP h0 (fun hy i2 j2 a1 a2 => ?_) (fun hy => ?_)
    · show zR E _ _ X 45 _ _ _ _ _ _ _
      refine r_iret qX4_takeDegrees_45 rfl rfl rfl rfl ?_
      exact hKz hn hy i2 j2 a1 a2
    · show zR E _ _ X 45 _ _ _ _ _ _ _
      refine r_iret qX4_takeDegrees_45 rfl rfl rfl rfl ?_
      exact hKn t (nI 150) (by rw [if_neg hn]) (by rw [if_neg hn]) hy _ j (by rw [zBad_12]) (by rw [zBad_13]) zFr.refl.bad
  refine r_aload_n qX4_takeDegrees_0 rfl ?_
  refine r_cv0 (cu2 := 0) (su2 := 0) qX4_takeDegrees_1 kX4_269 rfl (by decide +kernel) (c := 4) (by assumption) (by decide) rfl rfl rfl rfl rfl rfl ?_
  refine c_X4_isGood (by first | assumption | omega | rfl | decide) ?_
  show zR E _ _ X 4 _ _ _ _ _ _ _
  rw [zb_t h0]
  refine r_if_eq (t := 37) qX4_takeDegrees_4 (by decide) (fun hc4 => absurd hc4 (by decide)) (fun hc4 => ?_)
  refine r_aload_n qX4_takeDegrees_7 rfl ?_
  refine r_geti qX4_takeDegrees_8 fX4_235 rfl (by assumption) ?_
  refine r_iconst (v := nI 3) qX4_takeDegrees_11 (by decide) ?_
  rw [z7]
  refine r_icmp_ne (t := 37) qX4_takeDegrees_12 (by decide) (fun hc12 => ?_) (fun hc12 => ?_)
  · first | exact K37 (fun h => hc12 (congrArg nI h.1)) | exact K37 (fun h => hc21 h.2)
  · refine r_aload_n qX4_takeDegrees_15 rfl ?_
    refine r_geti qX4_takeDegrees_16 fX4_232 rfl (by assumption) ?_
    refine r_bipush (v := nI 45) qX4_takeDegrees_19 (by decide) ?_
    rw [z11]
    refine r_icmp_ne (t := 37) qX4_takeDegrees_21 (by decide) (fun hc21 => ?_) (fun hc21 => ?_)
    · first | exact K37 (fun h => hc12 (congrArg nI h.1)) | exact K37 (fun h => hc21 h.2)
    · refine r_aload_n qX4_takeDegrees_24 rfl ?_
      refine r_cv0 (cu2 := 0) (su2 := 0) qX4_takeDegrees_25 kX4_253 rfl (by decide +kernel) (c := 4) (by assumption) (by decide) rfl rfl rfl rfl rfl rfl ?_
      refine c_next hW hP (fun i2 j2 a1 a2 => ?_)
      show zR E _ _ X 28 _ _ _ _ _ _ _
      have hg : isNeg (i b) L t := ⟨(nI_eq (by omega) (by omega)).mp hc12, hc21⟩
      obtain ⟨q1, q2⟩ := zPs.next hW hP a1 a2
      refine r_aload_n qX4_takeDegrees_28 rfl ?_
      refine r_iconst (v := nI 0) qX4_takeDegrees_29 (by decide) ?_
      refine r_bipush (v := nI 20) qX4_takeDegrees_30 (by decide) ?_
      refine r_cv2 (cu2 := 0) (su2 := 0) qX4_takeDegrees_32 kX4_280 rfl (by decide +kernel) (c := 4) (by assumption) (by decide) rfl rfl rfl rfl rfl rfl ?_
      refine c_X4_takeNumber hW q1 (a2.e12.trans h0) (fun hy i3 j3 b1 b2 => ?_) (fun hy => ?_)
      · show zR E _ _ X 35 _ _ _ _ _ _ _
        rw [q2] at hy b1 ⊢
        refine r_ineg qX4_takeDegrees_35 ?_
        refine r_iret qX4_takeDegrees_36 rfl rfl rfl rfl ?_
        exact hKy hg hy i3 j3 b1 (b2.trans a2)
      · show zR E _ _ X 35 _ _ _ _ _ _ _
        rw [q2] at hy ⊢
        refine r_ineg qX4_takeDegrees_35 ?_
        refine r_iret qX4_takeDegrees_36 rfl rfl rfl rfl ?_
        exact hKn _ (nI 20) (by rw [if_pos hg]) (by rw [if_pos hg]) hy _ j2 (by rw [zBad_12]) (by rw [zBad_13]) a2.bad

