/-! ===== P67: holds ===== -/
theorem zNa2.at {g g' : Sh} {i i' : Ni} {j j' : Nj} (h : zNa2 g i j g' i' j') {q : Nat} (hq : gT g q ≠ 0) : gT g' q = gT g q ∧ gL g' q = gL g q ∧ j' q = j q ∧ (∀ k, gR g' q k = gR g q k) ∧ i' q = i q := by
  obtain ⟨a, b, c, d⟩ := h (q + 1) q hq
  obtain ⟨e, f⟩ := d (by omega)
  exact ⟨a, b, c, e, f⟩
theorem zC.ty {g : Sh} {a : Nat → Nat} (h : zC g a) {q : Nat} (hq : q < 30) : gT g (a q) ≠ 0 := by
  rcases h.kd hq with e | e | e | e <;> rw [e] <;> decide
theorem zX3.na {g g' : Sh} {i i' : Ni} {j j' : Nj} {c : Nat} {a : Nat → Nat} (h : zX3 g c a) (F : zNa2 g i j g' i' j') : zX3 g' c a := by
  obtain ⟨h1, h2, h3⟩ := h
  obtain ⟨c1, -, -, c4, -⟩ := F.at (q := c) (by rw [h1]; decide)
  exact ⟨c1.trans h1, (c4 1).trans h2, h3.to fun q hq => by
    obtain ⟨q1, q2, -, q4, -⟩ := F.at (h3.ty hq)
    exact ⟨q1, q2, q4⟩⟩
theorem zH.nk {g g' : Sh} {i i' : Ni} {j j' : Nj} {a : Nat → Nat} {N : Nat → Int32} (h : zH i a N) (hC : zC g a) (F : zNa2 g i j g' i' j') : zH i' a N := h.ou fun q hq => (F.at (hC.ty hq)).2.2.2.2
theorem zNa2.refl {g : Sh} {i : Ni} {j : Nj} : zNa2 g i j g i j := fun _ => zNf.refl
theorem zNa2.trans {g g1 g2 : Sh} {i i1 i2 : Ni} {j j1 j2 : Nj} (h : zNa2 g i j g1 i1 j1) (h2 : zNa2 g1 i1 j1 g2 i2 j2) : zNa2 g i j g2 i2 j2 := fun u => (h u).trans (h2 u)
/-- the two rows of the law's sums -/
def jL (i : Ni) (a : Nat → Nat) (N : Nat → Int32) (ra rb p : Nat) : Prop := zH i a N ∧ (∀ b, b < 4 → i ra b = sIn N (nI b) p) ∧ ∀ s, s < 3 → i rb s = sHold N (nI s) p
/-- the greatest and the least reading so far -/
def sHL (N : Nat → Int32) (p : Nat) (hi lo : Int32) : Prop := (sBest N p = -1 ∧ hi = nI 0 ∧ lo = nI 0 ∧ sMost N p = -2147483648 ∧ sLeast N p = 2147483647) ∨ (¬ sBest N p = -1 ∧ hi = sMost N p ∧ lo = sLeast N p ∧ ¬ sMost N p < sLeast N p)
theorem fc_ne {p : UInt32} (h : vf_n32 p) : FP.Core.decode FP.Core.b32 p.toNat ≠ FP.Core.Datum.nan := by
  have h1 : p.toNat % 2 ^ 31 ≤ 0x7f800000 := by
    have h2 : (p &&& 0x7fffffff).toNat ≤ (0x7f800000 : UInt32).toNat := UInt32.le_iff_toNat_le.mp h
    rw [UInt32.toNat_and, show (0x7fffffff : UInt32).toNat = 2 ^ 31 - 1 by decide, Nat.and_two_pow_sub_one_eq_mod] at h2
    exact h2
  have eE : FP.Core.fieldE FP.Core.b32 p.toNat = p.toNat / 2 ^ 23 % 2 ^ 8 := rfl
  have eT : FP.Core.fieldT FP.Core.b32 p.toNat = p.toNat % 2 ^ 23 := rfl
  have eX : FP.Core.b32.exps - 1 = 255 := rfl
  rw [FP.Core.decode, eE, eT, eX]
  split
  · rename_i h2
    rw [if_pos (by omega)]
    exact fun e => by cases e
  · split
    · exact fun e => by cases e
    · exact fun e => by cases e
theorem fc_refl {p : UInt32} (h : vf_n32 p) (op : CmpOp) : Op.cmpValue (FP.fcmp p p) op = 0 := by
  have h2 := fc_ne h
  have e : FP.fcmp p p = FP.Core.order (FP.Core.decode FP.Core.b32 p.toNat) (FP.Core.decode FP.Core.b32 p.toNat) := rfl
  rw [e]
  cases hd : FP.Core.decode FP.Core.b32 p.toNat with
  | nan => exact absurd hd h2
  | inf s =>
    show Op.cmpValue (some (compare _ _)) op = 0
    rw [cmp_self9]; rfl
  | fin s c q =>
    show Op.cmpValue (some (compare _ _)) op = 0
    rw [cmp_self9]; rfl
theorem mean_ne {N : Nat → Int32} (h : zOk N) : vf_n64 (sMean N (zn (N 5))) := by
  rw [sMean]
  split
  · show FP.dconst0 &&& 0x7fffffffffffffff ≤ 0x7ff0000000000000
    decide +kernel
  · rename_i h0
    have h8 := h.T8.2
    obtain ⟨S, e, hS⟩ := sHighs_in h (zn (N 5)) (Nat.le_refl _)
    rw [e]
    exact nf64 (by omega) h8 h0
theorem nf_share (N : Nat → Int32) {m : Nat} (hm : m ≤ 8) : vf_n32 (sShare N m) := by
  rw [sShare]
  split
  · show FP.fconst0 &&& 0x7fffffff ≤ 0x7f800000
    decide +kernel
  · rename_i h0
    have := sStills_le N m
    exact nf32 (by omega) hm h0
set_option maxHeartbeats 4000000 in
set_option maxRecDepth 20000 in
theorem c_L_holds {E : Ev} {g : Sh} {i : Ni} {j : Nj} {K : Kp} {c : Nat} {a : Nat → Nat} {N : Nat → Int32} (hX : zX3 g c a) (hH : zH i a N) (hD : dOk E N) (hM : sMissed N (zn (N 5)) = 0) (hR : sRest N (N 8 - sLost N (zn (N 3))) (zn (N 5)) = 0) (hK : ∀ (g' : Sh) (i' : Ni) (j' : Nj), zNa2 g i j g' i' j' → K (.inl (some (.int (nI 1)))) g' i' j') : zCon E mL_holds [.ref c, .ref (eS E 4 + 1)] g i j K := by
  refine zcon_of (by decide +kernel) rfl rfl (lo := [.ref c, .ref (eS E 4 + 1), zJ, zJ, zJ, zJ, zJ, zJ, zJ, zJ, zJ, zJ, zJ, zJ, zJ, zJ, zJ, zJ]) rfl (fun X => ?_)
  have hO := hH.1
  have hT5 := vT_lt E
  have hS3 := vS_lt E
  have hB4 := vB_lt E
  have eT := hD.T
  have eSS := hD.S
  have eB := hD.B
  have x1 := hX.1
  have KM : ∀ (ra rb : Nat) (g1 : Sh) (i1 : Ni) (j1 : Nj), zX3 g1 c a → gT g1 ra = 11 → gL g1 ra = 4 → gT g1 rb = 11 → gL g1 rb = 3 → ra ≠ rb → (∀ q, q < 30 → a q ≠ ra ∧ a q ≠ rb) → (∀ i' : Ni, (∀ r, r ≠ ra → r ≠ rb → i' r = i1 r) → zNa2 g i j g1 i' j1) → jL i1 a N ra rb 0 → zR E mL_holds (zZ E mL_holds K) X 48 [.ref c, .ref (eS E 4 + 1), .ref ra, .ref rb, .int (nI 0), .int (nI 0), .int (-1), .int (-1), .int (-1), .int (nI 0), .int (nI 0), .int (nI 0), zJ, zJ, zJ, zJ, zJ, zJ] [] g1 i1 j1 2 7 := by
    intro ra rb g1 i1 j1 hX1 ta la tb lb rab han hF hJ0
    have y1 := hX1.1
    -- behind the tubes
    have K657 : ∀ (i' : Ni), jL i' a N ra rb (vT E) → (∀ r, r ≠ ra → r ≠ rb → i' r = i1 r) → ∀ (hi lo : Int32), sHL N (vT E) hi lo → ∀ (z12 z13 z14 z15 z16 z17 : Value), zR E mL_holds (zZ E mL_holds K) X 657 [.ref c, .ref (eS E 4 + 1), .ref ra, .ref rb, .int (nI (sStills N (vT E))), .int (sHighs N (vT E)), .int (sTall N (vT E)), .int (sBest N (vT E)), .int (sWorst N (vT E)), .int hi, .int lo, .int (nI (vT E)), z12, z13, z14, z15, z16, z17] [] g1 i' j1 4990 29940 := by
      intro i' hJ hI hi lo hHL z12 z13 z14 z15 z16 z17
      have eSp : (if sMost N (vT E) < sLeast N (vT E) then nI 0 else sMost N (vT E) - sLeast N (vT E)) = hi - lo := by
        rcases hHL with ⟨-, rfl, rfl, h4, h5⟩ | ⟨-, rfl, rfl, h4⟩
        · rw [h4, h5, if_pos (by decide)]; decide
        · rw [if_neg h4]
      have nS := nf_share N (m := vT E) (by omega)
      have nM := mean_ne hO
      rw [eT] at nM
      by_cases h0 : vT E = 0
      · have e1 : sShare N (vT E) = FP.fconst0 := by rw [sShare, if_pos h0]
        have e2 : sMean N (vT E) = FP.dconst0 := by rw [sMean, if_pos h0]
        rw [e1] at nS
        rw [e2] at nM
        refine r_aload_n qL_holds_657 rfl ?_
        refine r_cv0 (cu2 := 4990) (su2 := 29940) qL_holds_658 kL_308 rfl (by decide +kernel) (c := 3) (by assumption) (by decide) rfl rfl rfl rfl rfl rfl ?_
        refine c_X3_settledShare hX1 hJ.1 ?_
        rw [eT, e1]
        show zR E _ _ X 661 _ _ _ _ _ _ _
        refine r_iload qL_holds_661 rfl ?_
        refine r_if_ne (t := 670) qL_holds_663 (by decide) (fun hc663 => absurd hc663 (fun h => h (by rw [h0]; decide))) (fun hc663 => ?_)
        refine r_fconst0 qL_holds_666 ?_
        refine r_goto (t := 677) qL_holds_667 (by decide) ?_
        refine r_fcmp qL_holds_677 ?_
        refine r_if_ne (t := 705) qL_holds_678 (by decide) (fun hc678 => absurd hc678 (fun h => h (fc_refl nS _))) (fun hc678 => ?_)
        refine r_aload_n qL_holds_681 rfl ?_
        refine r_cv0 (cu2 := 4990) (su2 := 29940) qL_holds_682 kL_312 rfl (by decide +kernel) (c := 3) (by assumption) (by decide) rfl rfl rfl rfl rfl rfl ?_
        refine c_X3_meanHeight hX1 hJ.1 ?_
        rw [eT, e2]
        show zR E _ _ X 685 _ _ _ _ _ _ _
        refine r_iload qL_holds_685 rfl ?_
        refine r_if_ne (t := 694) qL_holds_687 (by decide) (fun hc687 => absurd hc687 (fun h => h (by rw [h0]; decide))) (fun hc687 => ?_)
        refine r_dconst0 qL_holds_690 ?_
        refine r_goto (t := 701) qL_holds_691 (by decide) ?_
        refine r_dcmp qL_holds_701 ?_
        refine r_if_eq (t := 707) qL_holds_702 (by decide) (fun hc702 => ?_) (fun hc702 => absurd hc702 (fun h => h (dc_refl nM _)))
        refine r_aload_n qL_holds_707 rfl ?_
        refine r_cv0 (cu2 := 4990) (su2 := 29940) qL_holds_708 kL_316 rfl (by decide +kernel) (c := 3) (by assumption) (by decide) rfl rfl rfl rfl rfl rfl ?_
        refine c_X3_tallestTube hX1 hJ.1 ?_
        rw [eT]
        show zR E _ _ X 711 _ _ _ _ _ _ _
        refine r_iload qL_holds_711 rfl ?_
        refine r_icmp_ne (t := 750) qL_holds_713 (by decide) (fun hc713 => absurd hc713 (fun h => h rfl)) (fun hc713 => ?_)
        refine r_aload_n qL_holds_716 rfl ?_
        refine r_cv0 (cu2 := 4990) (su2 := 29940) qL_holds_717 kL_319 rfl (by decide +kernel) (c := 3) (by assumption) (by decide) rfl rfl rfl rfl rfl rfl ?_
        refine c_X3_bestTube hX1 hJ.1 ?_
        rw [eT]
        show zR E _ _ X 720 _ _ _ _ _ _ _
        refine r_iload qL_holds_720 rfl ?_
        refine r_icmp_ne (t := 750) qL_holds_722 (by decide) (fun hc722 => absurd hc722 (fun h => h rfl)) (fun hc722 => ?_)
        refine r_aload_n qL_holds_725 rfl ?_
        refine r_cv0 (cu2 := 4990) (su2 := 29940) qL_holds_726 kL_322 rfl (by decide +kernel) (c := 3) (by assumption) (by decide) rfl rfl rfl rfl rfl rfl ?_
        refine c_X3_worstFit hX1 hJ.1 ?_
        rw [eT]
        show zR E _ _ X 729 _ _ _ _ _ _ _
        refine r_iload qL_holds_729 rfl ?_
        refine r_icmp_ne (t := 750) qL_holds_731 (by decide) (fun hc731 => absurd hc731 (fun h => h rfl)) (fun hc731 => ?_)
        refine r_aload_n qL_holds_734 rfl ?_
        refine r_cv0 (cu2 := 4990) (su2 := 29940) qL_holds_735 kL_325 rfl (by decide +kernel) (c := 3) (by assumption) (by decide) rfl rfl rfl rfl rfl rfl ?_
        refine c_X3_spread hX1 hJ.1 ?_
        rw [eT, eSp]
        show zR E _ _ X 738 _ _ _ _ _ _ _
        refine r_iload qL_holds_738 rfl ?_
        refine r_iload qL_holds_740 rfl ?_
        refine r_isub qL_holds_742 ?_
        refine r_icmp_ne (t := 750) qL_holds_743 (by decide) (fun hc743 => absurd hc743 (fun h => h rfl)) (fun hc743 => ?_)
        refine r_iconst (v := nI 1) qL_holds_746 (by decide) ?_
        refine r_goto (t := 751) qL_holds_747 (by decide) ?_
        refine r_iret qL_holds_751 rfl (by first | decide | exact zb_nar _ | assumption) rfl rfl ?_
        exact hK _ _ _ (hF _ hI)
      · have e1 : sShare N (vT E) = FP.fdiv (FP.i2f (nI (sStills N (vT E)))) (FP.i2f (nI (vT E))) := by rw [sShare, if_neg h0]
        have e2 : sMean N (vT E) = FP.ddiv (FP.i2d (sHighs N (vT E))) (FP.i2d (nI (vT E))) := by rw [sMean, if_neg h0]
        rw [e1] at nS
        rw [e2] at nM
        have n0 : ¬ nI (vT E) = 0 := nI_ne0 (by omega) (by omega)
        refine r_aload_n qL_holds_657 rfl ?_
        refine r_cv0 (cu2 := 4990) (su2 := 29940) qL_holds_658 kL_308 rfl (by decide +kernel) (c := 3) (by assumption) (by decide) rfl rfl rfl rfl rfl rfl ?_
        refine c_X3_settledShare hX1 hJ.1 ?_
        rw [eT, e1]
        show zR E _ _ X 661 _ _ _ _ _ _ _
        refine r_iload qL_holds_661 rfl ?_
        refine r_if_ne (t := 670) qL_holds_663 (by decide) (fun hc663 => ?_) (fun hc663 => absurd hc663 (n0))
        refine r_iload qL_holds_670 rfl ?_
        refine r_i2f qL_holds_672 ?_
        refine r_iload qL_holds_673 rfl ?_
        refine r_i2f qL_holds_675 ?_
        refine r_fdiv qL_holds_676 nS ?_
        refine r_fcmp qL_holds_677 ?_
        refine r_if_ne (t := 705) qL_holds_678 (by decide) (fun hc678 => absurd hc678 (fun h => h (fc_refl nS _))) (fun hc678 => ?_)
        refine r_aload_n qL_holds_681 rfl ?_
        refine r_cv0 (cu2 := 4990) (su2 := 29940) qL_holds_682 kL_312 rfl (by decide +kernel) (c := 3) (by assumption) (by decide) rfl rfl rfl rfl rfl rfl ?_
        refine c_X3_meanHeight hX1 hJ.1 ?_
        rw [eT, e2]
        show zR E _ _ X 685 _ _ _ _ _ _ _
        refine r_iload qL_holds_685 rfl ?_
        refine r_if_ne (t := 694) qL_holds_687 (by decide) (fun hc687 => ?_) (fun hc687 => absurd hc687 (n0))
        refine r_iload qL_holds_694 rfl ?_
        refine r_i2d qL_holds_696 ?_
        refine r_iload qL_holds_697 rfl ?_
        refine r_i2d qL_holds_699 ?_
        refine r_ddiv qL_holds_700 nM ?_
        refine r_dcmp qL_holds_701 ?_
        refine r_if_eq (t := 707) qL_holds_702 (by decide) (fun hc702 => ?_) (fun hc702 => absurd hc702 (fun h => h (dc_refl nM _)))
        refine r_aload_n qL_holds_707 rfl ?_
        refine r_cv0 (cu2 := 4990) (su2 := 29940) qL_holds_708 kL_316 rfl (by decide +kernel) (c := 3) (by assumption) (by decide) rfl rfl rfl rfl rfl rfl ?_
        refine c_X3_tallestTube hX1 hJ.1 ?_
        rw [eT]
        show zR E _ _ X 711 _ _ _ _ _ _ _
        refine r_iload qL_holds_711 rfl ?_
        refine r_icmp_ne (t := 750) qL_holds_713 (by decide) (fun hc713 => absurd hc713 (fun h => h rfl)) (fun hc713 => ?_)
        refine r_aload_n qL_holds_716 rfl ?_
        refine r_cv0 (cu2 := 4990) (su2 := 29940) qL_holds_717 kL_319 rfl (by decide +kernel) (c := 3) (by assumption) (by decide) rfl rfl rfl rfl rfl rfl ?_
        refine c_X3_bestTube hX1 hJ.1 ?_
        rw [eT]
        show zR E _ _ X 720 _ _ _ _ _ _ _
        refine r_iload qL_holds_720 rfl ?_
        refine r_icmp_ne (t := 750) qL_holds_722 (by decide) (fun hc722 => absurd hc722 (fun h => h rfl)) (fun hc722 => ?_)
        refine r_aload_n qL_holds_725 rfl ?_
        refine r_cv0 (cu2 := 4990) (su2 := 29940) qL_holds_726 kL_322 rfl (by decide +kernel) (c := 3) (by assumption) (by decide) rfl rfl rfl rfl rfl rfl ?_
        refine c_X3_worstFit hX1 hJ.1 ?_
        rw [eT]
        show zR E _ _ X 729 _ _ _ _ _ _ _
        refine r_iload qL_holds_729 rfl ?_
        refine r_icmp_ne (t := 750) qL_holds_731 (by decide) (fun hc731 => absurd hc731 (fun h => h rfl)) (fun hc731 => ?_)
        refine r_aload_n qL_holds_734 rfl ?_
        refine r_cv0 (cu2 := 4990) (su2 := 29940) qL_holds_735 kL_325 rfl (by decide +kernel) (c := 3) (by assumption) (by decide) rfl rfl rfl rfl rfl rfl ?_
        refine c_X3_spread hX1 hJ.1 ?_
        rw [eT, eSp]
        show zR E _ _ X 738 _ _ _ _ _ _ _
        refine r_iload qL_holds_738 rfl ?_
        refine r_iload qL_holds_740 rfl ?_
        refine r_isub qL_holds_742 ?_
        refine r_icmp_ne (t := 750) qL_holds_743 (by decide) (fun hc743 => absurd hc743 (fun h => h rfl)) (fun hc743 => ?_)
        refine r_iconst (v := nI 1) qL_holds_746 (by decide) ?_
        refine r_goto (t := 751) qL_holds_747 (by decide) ?_
        refine r_iret qL_holds_751 rfl (by first | decide | exact zb_nar _ | assumption) rfl rfl ?_
        exact hK _ _ _ (hF _ hI)
    have K627 : ∀ (i' : Ni), jL i' a N ra rb (vT E) → (∀ r, r ≠ ra → r ≠ rb → i' r = i1 r) → ∀ (hi lo : Int32), sHL N (vT E) hi lo → ∀ (z13 z14 z15 z16 z17 : Value) (r s : Nat), s + r = vS E → ∀ CU SU : Nat, CU + 1 * r ≤ 4990 → SU + 6 * r ≤ 29940 → zR E mL_holds (zZ E mL_holds K) X 627 [.ref c, .ref (eS E 4 + 1), .ref ra, .ref rb, .int (nI (sStills N (vT E))), .int (sHighs N (vT E)), .int (sTall N (vT E)), .int (sBest N (vT E)), .int (sWorst N (vT E)), .int hi, .int lo, .int (nI (vT E)), .int (nI s), z13, z14, z15, z16, z17] [] g1 i' j1 CU SU := by
      intro i' hJ hI hi lo hHL z13 z14 z15 z16 z17 r
      induction r with
      | zero =>
        intro s hs CU SU hCU hSU
        obtain rfl : s = vS E := by omega
        refine r_iload qL_holds_627 rfl ?_
        refine r_aload_n qL_holds_629 rfl ?_
        refine r_cs1 (cu2 := CU) (su2 := SU) qL_holds_630 kL_44 rfl (by decide +kernel) rfl rfl rfl (lbx (m := 5000) rfl (by omega)) (lbx (m := 30000) rfl (by omega)) ?_
        refine c_L_spirits ?_
        show zR E _ _ X 633 _ _ _ _ _ _ _
        refine r_icmp_ge (t := 657) qL_holds_633 (by decide) (fun hc633 => ?_) (fun hc633 => absurd hc633 (fun h => h (Int32.le_refl _)))
        exact r_widen (by omega) (by omega) (K657 i' hJ hI hi lo hHL _ _ _ _ _ _)
      | succ r ih =>
        intro s hs CU SU hCU hSU
        have hsS : s < vS E := by omega
        refine r_iload qL_holds_627 rfl ?_
        refine r_aload_n qL_holds_629 rfl ?_
        refine r_cs1 (cu2 := CU) (su2 := SU) qL_holds_630 kL_44 rfl (by decide +kernel) rfl rfl rfl (lbx (m := 5000) rfl (by omega)) (lbx (m := 30000) rfl (by omega)) ?_
        refine c_L_spirits ?_
        show zR E _ _ X 633 _ _ _ _ _ _ _
        refine r_icmp_ge (t := 657) qL_holds_633 (by decide) (fun hc633 => absurd hc633 (nI_ge hsS (by omega))) (fun hc633 => ?_)
        refine r_aload_n qL_holds_636 rfl ?_
        refine r_iload qL_holds_637 rfl ?_
        refine r_cv1 (cu2 := CU + 1) (su2 := SU + 6) qL_holds_639 kL_305 rfl (by decide +kernel) (c := 3) (by assumption) (by decide) rfl rfl rfl rfl (lbx (m := 5000) rfl (by omega)) (lbx (m := 30000) rfl (by omega)) ?_
        refine q_spiritInTubes hX1 hJ.1 (by omega) ?_
        rw [eT]
        show zR E _ _ X 642 _ _ _ _ _ _ _
        refine r_aload_n qL_holds_642 rfl ?_
        refine r_iload qL_holds_643 rfl ?_
        refine r_ialdN qL_holds_645 (by assumption) (by assumption) (by omega) rfl ?_
        rw [hJ.2.2 s (by omega)]
        refine r_icmp_eq (t := 651) qL_holds_646 (by decide) (fun hc646 => ?_) (fun hc646 => absurd hc646 (fun h => h rfl))
        refine r_ii_18_12 qL_holds_651 rfl rfl (nI_inc s) ?_
        refine r_goto (t := 627) qL_holds_654 (by decide) ?_
        exact ih (s + 1) (by omega) _ _ (by omega) (by omega)
    have K594 : ∀ (i' : Ni), jL i' a N ra rb (vT E) → (∀ r, r ≠ ra → r ≠ rb → i' r = i1 r) → ∀ (hi lo : Int32), sHL N (vT E) hi lo → ∀ (z13 z14 z15 z16 z17 : Value) (r s : Nat), s + r = vB E → ∀ CU SU : Nat, CU + 1 * r ≤ 4980 → SU + 6 * r ≤ 29880 → zR E mL_holds (zZ E mL_holds K) X 594 [.ref c, .ref (eS E 4 + 1), .ref ra, .ref rb, .int (nI (sStills N (vT E))), .int (sHighs N (vT E)), .int (sTall N (vT E)), .int (sBest N (vT E)), .int (sWorst N (vT E)), .int hi, .int lo, .int (nI (vT E)), .int (nI s), z13, z14, z15, z16, z17] [] g1 i' j1 CU SU := by
      intro i' hJ hI hi lo hHL z13 z14 z15 z16 z17 r
      induction r with
      | zero =>
        intro s hs CU SU hCU hSU
        obtain rfl : s = vB E := by omega
        refine r_iload qL_holds_594 rfl ?_
        refine r_aload_n qL_holds_596 rfl ?_
        refine r_cs1 (cu2 := CU) (su2 := SU) qL_holds_597 kL_93 rfl (by decide +kernel) rfl rfl rfl (lbx (m := 5000) rfl (by omega)) (lbx (m := 30000) rfl (by omega)) ?_
        refine c_L_baths ?_
        show zR E _ _ X 600 _ _ _ _ _ _ _
        refine r_icmp_ge (t := 624) qL_holds_600 (by decide) (fun hc600 => ?_) (fun hc600 => absurd hc600 (fun h => h (Int32.le_refl _)))
        refine r_iconst (v := nI 0) qL_holds_624 (by decide) ?_
        refine r_is_18_12 qL_holds_625 rfl rfl ?_
        exact K627 i' hJ hI hi lo hHL _ _ _ _ _ (vS E) 0 (by omega) _ _ (by omega) (by omega)
      | succ r ih =>
        intro s hs CU SU hCU hSU
        have hsS : s < vB E := by omega
        refine r_iload qL_holds_594 rfl ?_
        refine r_aload_n qL_holds_596 rfl ?_
        refine r_cs1 (cu2 := CU) (su2 := SU) qL_holds_597 kL_93 rfl (by decide +kernel) rfl rfl rfl (lbx (m := 5000) rfl (by omega)) (lbx (m := 30000) rfl (by omega)) ?_
        refine c_L_baths ?_
        show zR E _ _ X 600 _ _ _ _ _ _ _
        refine r_icmp_ge (t := 624) qL_holds_600 (by decide) (fun hc600 => absurd hc600 (nI_ge hsS (by omega))) (fun hc600 => ?_)
        refine r_aload_n qL_holds_603 rfl ?_
        refine r_iload qL_holds_604 rfl ?_
        refine r_cv1 (cu2 := CU + 1) (su2 := SU + 6) qL_holds_606 kL_153 rfl (by decide +kernel) (c := 3) (by assumption) (by decide) rfl rfl rfl rfl (lbx (m := 5000) rfl (by omega)) (lbx (m := 30000) rfl (by omega)) ?_
        refine q_tubesIn hX1 hJ.1 (by omega) ?_
        rw [eT]
        show zR E _ _ X 609 _ _ _ _ _ _ _
        refine r_aload_n qL_holds_609 rfl ?_
        refine r_iload qL_holds_610 rfl ?_
        refine r_ialdN qL_holds_612 (by assumption) (by assumption) (by omega) rfl ?_
        rw [hJ.2.1 s (by omega)]
        refine r_icmp_eq (t := 618) qL_holds_613 (by decide) (fun hc613 => ?_) (fun hc613 => absurd hc613 (fun h => h rfl))
        refine r_ii_18_12 qL_holds_618 rfl rfl (nI_inc s) ?_
        refine r_goto (t := 594) qL_holds_621 (by decide) ?_
        exact ih (s + 1) (by omega) _ _ (by omega) (by omega)
    have K48 : ∀ r p : Nat, p + r = vT E → ∀ (i' : Ni), jL i' a N ra rb p → (∀ r, r ≠ ra → r ≠ rb → i' r = i1 r) → ∀ (hi lo : Int32), sHL N p hi lo → ∀ (z12 z13 z14 z15 z16 z17 : Value) (CU SU : Nat), CU + 940 * r ≤ 4970 → SU + 5640 * r ≤ 29820 → zR E mL_holds (zZ E mL_holds K) X 48 [.ref c, .ref (eS E 4 + 1), .ref ra, .ref rb, .int (nI (sStills N p)), .int (sHighs N p), .int (sTall N p), .int (sBest N p), .int (sWorst N p), .int hi, .int lo, .int (nI p), z12, z13, z14, z15, z16, z17] [] g1 i' j1 CU SU := by
      intro r
      induction r with
      | zero =>
        intro p hp i' hJ hI hi lo hHL z12 z13 z14 z15 z16 z17 CU SU hCU hSU
        obtain rfl : p = vT E := by omega
        refine r_iload qL_holds_48 rfl ?_
        refine r_aload_n qL_holds_50 rfl ?_
        refine r_cs1 (cu2 := CU) (su2 := SU) qL_holds_51 kL_106 rfl (by decide +kernel) rfl rfl rfl (lbx (m := 5000) rfl (by omega)) (lbx (m := 30000) rfl (by omega)) ?_
        refine c_L_tubes ?_
        show zR E _ _ X 54 _ _ _ _ _ _ _
        refine r_icmp_ge (t := 585) qL_holds_54 (by decide) (fun hc54 => ?_) (fun hc54 => absurd hc54 (fun h => h (Int32.le_refl _)))
        refine r_aload_n qL_holds_585 rfl ?_
        refine r_cs1 (cu2 := CU) (su2 := SU) qL_holds_586 kL_106 rfl (by decide +kernel) rfl rfl rfl (lbx (m := 5000) rfl (by omega)) (lbx (m := 30000) rfl (by omega)) ?_
        refine c_L_tubes ?_
        show zR E _ _ X 589 _ _ _ _ _ _ _
        refine r_is_18_11 qL_holds_589 rfl rfl ?_
        refine r_iconst (v := nI 0) qL_holds_591 (by decide) ?_
        refine r_is_18_12 qL_holds_592 rfl rfl ?_
        exact K594 i' hJ hI hi lo hHL _ _ _ _ _ (vB E) 0 (by omega) _ _ (by omega) (by omega)
      | succ r ih =>
        intro p hp i' hJ hI hi lo hHL z12 z13 z14 z15 z16 z17 CU SU hCU hSU
        have hpT : p < vT E := by omega
        have hk : p < zn (N 5) := by omega
        have h8 := hO.k8 hk
        have hS0 := vT_S hpT
        have hsp := vSp_lt (k := p) hS0
        have hm6 := (hO.many hk).2
        obtain ⟨d0, d1, d2, d3⟩ := hD.2.2.2.2.2 p hpT
        have eF : ∀ t, sFree N p t = vFree E p (N (42 + 21 * p + 4)) t := hD.free hk
        have eH : sHigh N p = jmin (nI (vLe E p)) (vFree E p (N (42 + 21 * p + 4)) (N (42 + 21 * p + 5))) := by rw [sHigh, d3, eF]
        have hbath := hD.bath hO hk
        have K579 : ∀ (i2 : Ni), jL i2 a N ra rb (p + 1) → (∀ r, r ≠ ra → r ≠ rb → i2 r = i1 r) → ∀ (hi lo : Int32), sHL N (p + 1) hi lo → ∀ (z12 z13 z14 z15 z16 z17 : Value) (be wo : Int32), be = sBest N (p + 1) → wo = sWorst N (p + 1) → zR E mL_holds (zZ E mL_holds K) X 579 [.ref c, .ref (eS E 4 + 1), .ref ra, .ref rb, .int (nI (sStills N (p + 1))), .int (sHighs N (p + 1)), .int (sTall N (p + 1)), .int be, .int wo, .int hi, .int lo, .int (nI p), z12, z13, z14, z15, z16, z17] [] g1 i2 j1 (CU + 936) (SU + 5616) := by
          intro i2 hJ2 hI2 hi lo hHL2 z12 z13 z14 z15 z16 z17 be wo eb ew
          subst eb ew
          refine r_ii_18_11 qL_holds_579 rfl rfl (nI_inc p) ?_
          refine r_goto (t := 48) qL_holds_582 (by decide) ?_
          exact ih (p + 1) (by omega) i2 hJ2 hI2 hi lo hHL2 _ _ _ _ _ _ _ _ (by omega) (by omega)
        have K452 : 2 ≤ sMany N p → ∀ (i2 : Ni), jL i2 a N ra rb (p + 1) → (∀ r, r ≠ ra → r ≠ rb → i2 r = i1 r) → ∀ (z12 z13 z15 z17 : Value), zR E mL_holds (zZ E mL_holds K) X 452 [.ref c, .ref (eS E 4 + 1), .ref ra, .ref rb, .int (nI (sStills N (p + 1))), .int (sHighs N (p + 1)), .int (sTall N (p + 1)), .int (sBest N p), .int (sWorst N p), .int hi, .int lo, .int (nI p), z12, z13, .int (N (42 + 21 * p + 5)), z15, .int (sRead N p), z17] [] g1 i2 j1 (CU + 920) (SU + 5520) := by
          intro h2 i2 hJ2 hI2 z12 z13 z15 z17
          have ok1 : decide (2 ≤ sMany N p) = true := decide_eq_true h2
          have eMo : sMost N (p + 1) = jmax (sMost N p) (sRead N p) := by rw [sMost, if_pos h2]
          have eLe : sLeast N (p + 1) = jmin (sLeast N p) (sRead N p) := by rw [sLeast, if_pos h2]
          have K554 : ∀ (hi2 lo2 be : Int32), sHL N (p + 1) hi2 lo2 → be = sBest N (p + 1) → zR E mL_holds (zZ E mL_holds K) X 554 [.ref c, .ref (eS E 4 + 1), .ref ra, .ref rb, .int (nI (sStills N (p + 1))), .int (sHighs N (p + 1)), .int (sTall N (p + 1)), .int be, .int (sWorst N p), .int hi2, .int lo2, .int (nI p), z12, z13, .int (N (42 + 21 * p + 5)), z15, .int (sRead N p), z17] [] g1 i2 j1 (CU + 932) (SU + 5592) := by
            intro hi2 lo2 be hHL2 eb
            rcases sArg_c (ok := fun k => decide (2 ≤ sMany N k)) (lt := fun a b => decide (sFit N b (sMany N b) < sFit N a (sMany N a))) (k := p) (by omega) with hw | ⟨q, q1, q2, q3⟩
            · have e9 : sWorst N p = -1 := hw
              have e8 : sWorst N (p + 1) = nI p := sArg_y ok1 hw
              refine r_iload qL_holds_554 rfl ?_
              refine r_iconst (v := (-1)) qL_holds_556 (by decide) ?_
              refine r_icmp_eq (t := 575) qL_holds_557 (by decide) (fun hc557 => ?_) (fun hc557 => absurd hc557 (fun h => h e9))
              refine r_iload qL_holds_575 rfl ?_
              refine r_is_18_8 qL_holds_577 rfl rfl ?_
              exact r_widen (by omega) (by omega) (K579 i2 hJ2 hI2 hi2 lo2 hHL2 _ _ _ _ _ _ _ _ eb e8.symm)
            · have e9 : sWorst N p = nI q := q3
              have hq2 : 2 ≤ sMany N q := of_decide_eq_true q2
              have hqk : q < zn (N 5) := by omega
              have nq : ¬ sWorst N p = -1 := by rw [e9]; exact nI_m1 (by omega)
              refine r_iload qL_holds_554 rfl ?_
              refine r_iconst (v := (-1)) qL_holds_556 (by decide) ?_
              refine r_icmp_eq (t := 575) qL_holds_557 (by decide) (fun hc557 => absurd hc557 (nq)) (fun hc557 => ?_)
              refine r_aload_n qL_holds_560 rfl ?_
              refine r_iload qL_holds_561 rfl ?_
              refine r_cv1 (cu2 := CU + 934) (su2 := SU + 5604) qL_holds_563 kL_290 rfl (by decide +kernel) (c := 3) (by assumption) (by decide) rfl rfl rfl rfl (lbx (m := 5000) rfl (by omega)) (lbx (m := 30000) rfl (by omega)) ?_
              refine q_fitError hX1 hJ2.1 hk h2 ?_
              show zR E _ _ X 566 _ _ _ _ _ _ _
              refine r_aload_n qL_holds_566 rfl ?_
              refine r_iload qL_holds_567 rfl ?_
              refine r_cv1 (cu2 := CU + 936) (su2 := SU + 5616) qL_holds_569 kL_290 rfl (by decide +kernel) (c := 3) (by assumption) (by decide) rfl rfl rfl rfl (lbx (m := 5000) rfl (by omega)) (lbx (m := 30000) rfl (by omega)) ?_
              rw [e9]
              refine q_fitError hX1 hJ2.1 hqk hq2 ?_
              show zR E _ _ X 572 _ _ _ _ _ _ _
              refine r_icmp_le (t := 579) qL_holds_572 (by decide) (fun hc572 => ?_) (fun hc572 => ?_)
              · refine r_widen (by omega) (by omega) (K579 i2 hJ2 hI2 hi2 lo2 hHL2 _ _ _ _ _ _ _ _ eb ?_)
                first | exact ((sArg_n2 q3 (by omega) (fun h => absurd (of_decide_eq_true h) (Int32.not_lt.mpr hc572))).trans q3).symm | exact (sArg_y2 ok1 q3 (by omega) (decide_eq_true (Int32.not_le.mp hc572))).symm
              · refine r_iload qL_holds_575 rfl ?_
                refine r_is_18_8 qL_holds_577 rfl rfl ?_
                refine r_widen (by omega) (by omega) (K579 i2 hJ2 hI2 hi2 lo2 hHL2 _ _ _ _ _ _ _ _ eb ?_)
                first | exact ((sArg_n2 q3 (by omega) (fun h => absurd (of_decide_eq_true h) (Int32.not_lt.mpr hc572))).trans q3).symm | exact (sArg_y2 ok1 q3 (by omega) (decide_eq_true (Int32.not_le.mp hc572))).symm
          rcases sArg_c (ok := fun k => decide (2 ≤ sMany N k)) (lt := fun a b => decide (sOff N a < sOff N b)) (k := p) (by omega) with hw | ⟨q, q1, q2, q3⟩
          · have e9 : sBest N p = -1 := hw
            have e8 : sBest N (p + 1) = nI p := sArg_y ok1 hw
            have hh : sHL N (p + 1) (sRead N p) (sRead N p) := by
              rcases hHL with ⟨-, -, -, h4, h5⟩ | ⟨h1, -⟩
              · exact Or.inr ⟨by rw [e8]; exact nI_m1 (by omega), by rw [eMo, h4, jmax_lo], by rw [eLe, h5, jmin_hi], by rw [eMo, eLe]; exact jmm_ne _ _ _⟩
              · exact absurd e9 h1
            refine r_iload qL_holds_452 rfl ?_
            refine r_iconst (v := (-1)) qL_holds_454 (by decide) ?_
            refine r_icmp_ne (t := 463) qL_holds_455 (by decide) (fun hc455 => absurd hc455 (fun h => h e9)) (fun hc455 => ?_)
            refine r_iload qL_holds_458 rfl ?_
            refine r_goto (t := 470) qL_holds_460 (by decide) ?_
            refine r_is_18_9 qL_holds_470 rfl rfl ?_
            refine r_iload qL_holds_472 rfl ?_
            refine r_iconst (v := (-1)) qL_holds_474 (by decide) ?_
            refine r_icmp_ne (t := 483) qL_holds_475 (by decide) (fun hc475 => absurd hc475 (fun h => h e9)) (fun hc475 => ?_)
            refine r_iload qL_holds_478 rfl ?_
            refine r_goto (t := 490) qL_holds_480 (by decide) ?_
            refine r_is_18_10 qL_holds_490 rfl rfl ?_
            refine r_iload qL_holds_492 rfl ?_
            refine r_iconst (v := (-1)) qL_holds_494 (by decide) ?_
            refine r_icmp_eq (t := 523) qL_holds_495 (by decide) (fun hc495 => ?_) (fun hc495 => absurd hc495 (fun h => h e9))
            refine r_iload qL_holds_523 rfl ?_
            refine r_iconst (v := (-1)) qL_holds_525 (by decide) ?_
            refine r_icmp_eq (t := 550) qL_holds_526 (by decide) (fun hc526 => ?_) (fun hc526 => absurd hc526 (fun h => h e9))
            refine r_iload qL_holds_550 rfl ?_
            refine r_is_18_7 qL_holds_552 rfl rfl ?_
            exact r_widen (by omega) (by omega) (K554 _ _ _ hh e8.symm)
          · have e9 : sBest N p = nI q := q3
            have hq2 : 2 ≤ sMany N q := of_decide_eq_true q2
            have hqk : q < zn (N 5) := by omega
            have nq : ¬ sBest N p = -1 := by rw [e9]; exact nI_m1 (by omega)
            have nb : ¬ sBest N (p + 1) = -1 := by
              rw [sBest, sArg]
              split
              · exact nI_m1 (by omega)
              · exact nq
            have hh : sHL N (p + 1) (jmax hi (sRead N p)) (jmin lo (sRead N p)) := by
              rcases hHL with ⟨h1, -⟩ | ⟨-, h2, h3, h4⟩
              · exact absurd h1 nq
              · exact Or.inr ⟨nb, by rw [eMo, h2], by rw [eLe, h3], by rw [eMo, eLe]; exact jmm_ne _ _ _⟩
            refine r_iload qL_holds_452 rfl ?_
            refine r_iconst (v := (-1)) qL_holds_454 (by decide) ?_
            refine r_icmp_ne (t := 463) qL_holds_455 (by decide) (fun hc455 => ?_) (fun hc455 => absurd hc455 (nq))
            refine r_iload qL_holds_463 rfl ?_
            refine r_iload qL_holds_465 rfl ?_
            refine r_mmax qL_holds_467 kL_299 rfl rfl (lbx (m := 5000) rfl (by omega)) (lbx (m := 30000) rfl (by omega)) ?_
            refine r_is_18_9 qL_holds_470 rfl rfl ?_
            refine r_iload qL_holds_472 rfl ?_
            refine r_iconst (v := (-1)) qL_holds_474 (by decide) ?_
            refine r_icmp_ne (t := 483) qL_holds_475 (by decide) (fun hc475 => ?_) (fun hc475 => absurd hc475 (nq))
            refine r_iload qL_holds_483 rfl ?_
            refine r_iload qL_holds_485 rfl ?_
            refine r_mmin qL_holds_487 kL_30 rfl rfl (lbx (m := 5000) rfl (by omega)) (lbx (m := 30000) rfl (by omega)) ?_
            refine r_is_18_10 qL_holds_490 rfl rfl ?_
            refine r_iload qL_holds_492 rfl ?_
            refine r_iconst (v := (-1)) qL_holds_494 (by decide) ?_
            refine r_icmp_eq (t := 523) qL_holds_495 (by decide) (fun hc495 => absurd hc495 (nq)) (fun hc495 => ?_)
            refine r_aload_n qL_holds_498 rfl ?_
            refine r_iload qL_holds_499 rfl ?_
            refine r_iload qL_holds_501 rfl ?_
            refine r_cv2 (cu2 := CU + 924) (su2 := SU + 5544) qL_holds_503 kL_302 rfl (by decide +kernel) (c := 3) (by assumption) (by decide) rfl rfl rfl rfl (lbx (m := 5000) rfl (by omega)) (lbx (m := 30000) rfl (by omega)) ?_
            rw [e9]
            refine q_disagreement hX1 hJ2.1 hk hqk h2 hq2 ?_
            show zR E _ _ X 506 _ _ _ _ _ _ _
            refine r_iload qL_holds_506 rfl ?_
            refine r_aload_n qL_holds_508 rfl ?_
            refine r_iload qL_holds_509 rfl ?_
            refine r_cv1 (cu2 := CU + 926) (su2 := SU + 5556) qL_holds_511 kL_281 rfl (by decide +kernel) (c := 3) (by assumption) (by decide) rfl rfl rfl rfl (lbx (m := 5000) rfl (by omega)) (lbx (m := 30000) rfl (by omega)) ?_
            refine q_reading hX1 hJ2.1 hqk hq2 ?_
            show zR E _ _ X 514 _ _ _ _ _ _ _
            refine r_isub qL_holds_514 ?_
            refine r_mabs qL_holds_515 kL_63 rfl rfl (lbx (m := 5000) rfl (by omega)) (lbx (m := 30000) rfl (by omega)) ?_
            refine r_icmp_eq (t := 523) qL_holds_518 (by decide) (fun hc518 => ?_) (fun hc518 => absurd hc518 (fun h => h rfl))
            refine r_iload qL_holds_523 rfl ?_
            refine r_iconst (v := (-1)) qL_holds_525 (by decide) ?_
            refine r_icmp_eq (t := 550) qL_holds_526 (by decide) (fun hc526 => absurd hc526 (fun h => nq (e9.trans h))) (fun hc526 => ?_)
            refine r_aload_n qL_holds_529 rfl ?_
            refine r_iload qL_holds_530 rfl ?_
            refine r_cv1 (cu2 := CU + 928) (su2 := SU + 5568) qL_holds_532 kL_287 rfl (by decide +kernel) (c := 3) (by assumption) (by decide) rfl rfl rfl rfl (lbx (m := 5000) rfl (by omega)) (lbx (m := 30000) rfl (by omega)) ?_
            refine q_readingError hX1 hJ2.1 hk h2 ?_
            show zR E _ _ X 535 _ _ _ _ _ _ _
            refine r_mabs qL_holds_535 kL_63 rfl rfl (lbx (m := 5000) rfl (by omega)) (lbx (m := 30000) rfl (by omega)) ?_
            refine r_aload_n qL_holds_538 rfl ?_
            refine r_iload qL_holds_539 rfl ?_
            refine r_cv1 (cu2 := CU + 930) (su2 := SU + 5580) qL_holds_541 kL_287 rfl (by decide +kernel) (c := 3) (by assumption) (by decide) rfl rfl rfl rfl (lbx (m := 5000) rfl (by omega)) (lbx (m := 30000) rfl (by omega)) ?_
            refine q_readingError hX1 hJ2.1 hqk hq2 ?_
            show zR E _ _ X 544 _ _ _ _ _ _ _
            refine r_mabs qL_holds_544 kL_63 rfl rfl (lbx (m := 5000) rfl (by omega)) (lbx (m := 30000) rfl (by omega)) ?_
            refine r_icmp_ge (t := 554) qL_holds_547 (by decide) (fun hc547 => ?_) (fun hc547 => ?_)
            · refine r_widen (by omega) (by omega) (K554 _ _ _ hh ?_)
              first | exact ((sArg_n2 q3 (by omega) (fun h => absurd (of_decide_eq_true h) (Int32.not_lt.mpr hc547))).trans q3).symm | exact (sArg_y2 ok1 q3 (by omega) (decide_eq_true (Int32.not_le.mp hc547))).symm
            · refine r_iload qL_holds_550 rfl ?_
              refine r_is_18_7 qL_holds_552 rfl rfl ?_
              refine r_widen (by omega) (by omega) (K554 _ _ _ hh ?_)
              first | exact ((sArg_n2 q3 (by omega) (fun h => absurd (of_decide_eq_true h) (Int32.not_lt.mpr hc547))).trans q3).symm | exact (sArg_y2 ok1 q3 (by omega) (decide_eq_true (Int32.not_le.mp hc547))).symm
        have K414 : 2 ≤ sMany N p → ∀ (i2 : Ni), jL i2 a N ra rb (p + 1) → (∀ r, r ≠ ra → r ≠ rb → i2 r = i1 r) → ∀ (z12 z13 z15 : Value) (n q : Nat), q + n = 4 → ∀ C2 S2 : Nat, C2 + 67 * n ≤ CU + 920 → S2 + 402 * n ≤ SU + 5520 → zR E mL_holds (zZ E mL_holds K) X 414 [.ref c, .ref (eS E 4 + 1), .ref ra, .ref rb, .int (nI (sStills N (p + 1))), .int (sHighs N (p + 1)), .int (sTall N (p + 1)), .int (sBest N p), .int (sWorst N p), .int hi, .int lo, .int (nI p), z12, z13, .int (N (42 + 21 * p + 5)), z15, .int (sRead N p), .int (nI (331 * q))] [] g1 i2 j1 C2 S2 := by
          intro h2 i2 hJ2 hI2 z12 z13 z15 n
          induction n with
          | zero =>
            intro q hq C2 S2 hC2 hS2
            obtain rfl : q = 4 := by omega
            refine r_iload qL_holds_414 rfl ?_
            refine r_sipush (v := nI 1000) qL_holds_416 (by decide) ?_
            refine r_icmp_ge (t := 452) qL_holds_419 (by decide) (fun hc419 => ?_) (fun hc419 => absurd hc419 (fun h => h (by decide)))
            exact r_widen (by omega) (by omega) (K452 h2 i2 hJ2 hI2 _ _ _ _)
          | succ n ihn =>
            intro q hq C2 S2 hC2 hS2
            have hh : 0 ≤ (nI (331 * q)).toInt ∧ (nI (331 * q)).toInt ≤ 999 := by rw [nI_toInt (by omega)]; omega
            refine r_iload qL_holds_414 rfl ?_
            refine r_sipush (v := nI 1000) qL_holds_416 (by decide) ?_
            refine r_icmp_ge (t := 452) qL_holds_419 (by decide) (fun hc419 => absurd hc419 (nI_ge (by omega) (by decide))) (fun hc419 => ?_)
            refine r_aload_n qL_holds_422 rfl ?_
            refine r_iload qL_holds_423 rfl ?_
            refine r_iload qL_holds_425 rfl ?_
            refine r_cv2 (cu2 := C2 + 3) (su2 := S2 + 18) qL_holds_427 kL_296 rfl (by decide +kernel) (c := 3) (by assumption) (by decide) rfl rfl rfl rfl (lbx (m := 5000) rfl (by omega)) (lbx (m := 30000) rfl (by omega)) ?_
            refine q_scaleAt hX1 hJ2.1 hk h2 hh ?_
            show zR E _ _ X 430 _ _ _ _ _ _ _
            refine r_aload_n qL_holds_430 rfl ?_
            refine r_iload qL_holds_431 rfl ?_
            refine r_iload qL_holds_433 rfl ?_
            refine r_cs3 (cu2 := C2 + 67) (su2 := S2 + 402) qL_holds_435 kL_284 rfl (by decide +kernel) rfl rfl rfl (lbx (m := 5000) rfl (by omega)) (lbx (m := 30000) rfl (by omega)) ?_
            refine c_L_told hX1 hJ2.1 hk h2 ?_
            show zR E _ _ X 438 _ _ _ _ _ _ _
            refine r_icmp_eq (t := 443) qL_holds_438 (by decide) (fun hc438 => ?_) (fun hc438 => absurd hc438 (fun h => h rfl))
            refine r_iiw_18_17 qL_holds_443 rfl rfl (show nI (331 * q) + Int32.ofInt 331 = nI (331 * (q + 1)) from (nI_add (331 * q) 331).trans (congrArg nI (by omega))) ?_
            refine r_goto (t := 414) qL_holds_449 (by decide) ?_
            exact ihn (q + 1) (by omega) _ _ (by omega) (by omega)
        have K297 : ∀ (i2 : Ni), jL i2 a N ra rb (p + 1) → (∀ r, r ≠ ra → r ≠ rb → i2 r = i1 r) → ∀ (z12 z13 z16 z17 : Value) (w15 : Int32), zR E mL_holds (zZ E mL_holds K) X 297 [.ref c, .ref (eS E 4 + 1), .ref ra, .ref rb, .int (nI (sStills N (p + 1))), .int (sHighs N (p + 1)), .int (sTall N (p + 1)), .int (sBest N p), .int (sWorst N p), .int hi, .int lo, .int (nI p), z12, z13, .int (N (42 + 21 * p + 5)), .int w15, z16, z17] [] g1 i2 j1 (CU + 14) (SU + 84) := by
          intro i2 hJ2 hI2 z12 z13 z16 z17 w15
          have H2 := hJ2.1
          by_cases h2 : 2 ≤ sMany N p
          · have z2 : zb (2 ≤ sMany N p) = nI 1 := zb_t h2
            refine r_aload_n qL_holds_297 rfl ?_
            refine r_aload_n qL_holds_298 rfl ?_
            refine r_iload qL_holds_299 rfl ?_
            refine r_cs3 (cu2 := CU + 154) (su2 := SU + 924) qL_holds_301 kL_271 rfl (by decide +kernel) rfl rfl rfl (lbx (m := 5000) rfl (by omega)) (lbx (m := 30000) rfl (by omega)) ?_
            refine c_L_marking hX1 H2 hD hk ?_
            show zR E _ _ X 304 _ _ _ _ _ _ _
            refine r_if_eq (t := 341) qL_holds_304 (by decide) (fun hc304 => absurd hc304 (by decide)) (fun hc304 => ?_)
            refine r_aload_n qL_holds_307 rfl ?_
            refine r_aload_n qL_holds_308 rfl ?_
            refine r_iload qL_holds_309 rfl ?_
            refine r_cs3 (cu2 := CU + 158) (su2 := SU + 948) qL_holds_311 kL_275 rfl (by decide +kernel) rfl rfl rfl (lbx (m := 5000) rfl (by omega)) (lbx (m := 30000) rfl (by omega)) ?_
            refine c_L_limit hX1 H2 hD hk ?_
            show zR E _ _ X 314 _ _ _ _ _ _ _
            refine r_if_eq (t := 341) qL_holds_314 (by decide) (fun hc314 => absurd hc314 (by decide)) (fun hc314 => ?_)
            refine r_aload_n qL_holds_317 rfl ?_
            refine r_iload qL_holds_318 rfl ?_
            refine r_cv1 (cu2 := CU + 159) (su2 := SU + 954) qL_holds_320 kL_278 rfl (by decide +kernel) (c := 3) (by assumption) (by decide) rfl rfl rfl rfl (lbx (m := 5000) rfl (by omega)) (lbx (m := 30000) rfl (by omega)) ?_
            refine q_hasScale hX1 H2 hk ?_
            rw [z2]
            show zR E _ _ X 323 _ _ _ _ _ _ _
            refine r_aload_n qL_holds_323 rfl ?_
            refine r_iload qL_holds_324 rfl ?_
            refine r_cv1 (cu2 := CU + 160) (su2 := SU + 960) qL_holds_326 kL_175 rfl (by decide +kernel) (c := 3) (by assumption) (by decide) rfl rfl rfl rfl (lbx (m := 5000) rfl (by omega)) (lbx (m := 30000) rfl (by omega)) ?_
            refine q_pointCount hX1 H2 hk ?_
            show zR E _ _ X 329 _ _ _ _ _ _ _
            refine r_iconst (v := nI 1) qL_holds_329 (by decide) ?_
            refine r_icmp_le (t := 337) qL_holds_330 (by decide) (fun hc330 => absurd hc330 (nI_ge (by omega) (by omega))) (fun hc330 => ?_)
            refine r_iconst (v := nI 1) qL_holds_333 (by decide) ?_
            refine r_goto (t := 338) qL_holds_334 (by decide) ?_
            refine r_icmp_eq (t := 343) qL_holds_338 (by decide) (fun hc338 => ?_) (fun hc338 => absurd hc338 (fun h => h rfl))
            refine r_aload_n qL_holds_343 rfl ?_
            refine r_iload qL_holds_344 rfl ?_
            refine r_cv1 (cu2 := CU + 161) (su2 := SU + 966) qL_holds_346 kL_278 rfl (by decide +kernel) (c := 3) (by assumption) (by decide) rfl rfl rfl rfl (lbx (m := 5000) rfl (by omega)) (lbx (m := 30000) rfl (by omega)) ?_
            refine q_hasScale hX1 H2 hk ?_
            rw [z2]
            show zR E _ _ X 349 _ _ _ _ _ _ _
            refine r_if_ne (t := 355) qL_holds_349 (by decide) (fun hc349 => ?_) (fun hc349 => absurd hc349 (by decide))
            refine r_aload_n qL_holds_355 rfl ?_
            refine r_iload qL_holds_356 rfl ?_
            refine r_cv1 (cu2 := CU + 163) (su2 := SU + 978) qL_holds_358 kL_281 rfl (by decide +kernel) (c := 3) (by assumption) (by decide) rfl rfl rfl rfl (lbx (m := 5000) rfl (by omega)) (lbx (m := 30000) rfl (by omega)) ?_
            refine q_reading hX1 H2 hk h2 ?_
            show zR E _ _ X 361 _ _ _ _ _ _ _
            refine r_is_18_16 qL_holds_361 rfl rfl ?_
            refine r_iload qL_holds_363 rfl ?_
            refine r_aload_n qL_holds_365 rfl ?_
            refine r_iload qL_holds_366 rfl ?_
            refine r_aload_n qL_holds_368 rfl ?_
            refine r_iload qL_holds_369 rfl ?_
            refine r_cv1 (cu2 := CU + 164) (su2 := SU + 984) qL_holds_371 kL_265 rfl (by decide +kernel) (c := 3) (by assumption) (by decide) rfl rfl rfl rfl (lbx (m := 5000) rfl (by omega)) (lbx (m := 30000) rfl (by omega)) ?_
            refine q_height hX1 H2 hk ?_
            show zR E _ _ X 374 _ _ _ _ _ _ _
            refine r_cs3 (cu2 := CU + 228) (su2 := SU + 1368) qL_holds_374 kL_284 rfl (by decide +kernel) rfl rfl rfl (lbx (m := 5000) rfl (by omega)) (lbx (m := 30000) rfl (by omega)) ?_
            refine c_L_told hX1 H2 hk h2 ?_
            show zR E _ _ X 377 _ _ _ _ _ _ _
            refine r_icmp_ne (t := 409) qL_holds_377 (by decide) (fun hc377 => absurd hc377 (fun h => h rfl)) (fun hc377 => ?_)
            refine r_aload_n qL_holds_380 rfl ?_
            refine r_iload qL_holds_381 rfl ?_
            refine r_cv1 (cu2 := CU + 230) (su2 := SU + 1380) qL_holds_383 kL_287 rfl (by decide +kernel) (c := 3) (by assumption) (by decide) rfl rfl rfl rfl (lbx (m := 5000) rfl (by omega)) (lbx (m := 30000) rfl (by omega)) ?_
            refine q_readingError hX1 H2 hk h2 ?_
            show zR E _ _ X 386 _ _ _ _ _ _ _
            refine r_iload qL_holds_386 rfl ?_
            refine r_iload qL_holds_388 rfl ?_
            refine r_isub qL_holds_390 ?_
            refine r_icmp_ne (t := 409) qL_holds_391 (by decide) (fun hc391 => absurd hc391 (fun h => h rfl)) (fun hc391 => ?_)
            refine r_aload_n qL_holds_394 rfl ?_
            refine r_iload qL_holds_395 rfl ?_
            refine r_cv1 (cu2 := CU + 232) (su2 := SU + 1392) qL_holds_397 kL_290 rfl (by decide +kernel) (c := 3) (by assumption) (by decide) rfl rfl rfl rfl (lbx (m := 5000) rfl (by omega)) (lbx (m := 30000) rfl (by omega)) ?_
            refine q_fitError hX1 H2 hk h2 ?_
            show zR E _ _ X 400 _ _ _ _ _ _ _
            refine r_aload_n qL_holds_400 rfl ?_
            refine r_iload qL_holds_401 rfl ?_
            refine r_cs2 (cu2 := CU + 652) (su2 := SU + 3912) qL_holds_403 kL_293 rfl (by decide +kernel) rfl rfl rfl (lbx (m := 5000) rfl (by omega)) (lbx (m := 30000) rfl (by omega)) ?_
            refine c_L_fit hX1 H2 hk h2 ?_
            show zR E _ _ X 406 _ _ _ _ _ _ _
            refine r_icmp_eq (t := 411) qL_holds_406 (by decide) (fun hc406 => ?_) (fun hc406 => absurd hc406 (fun h => h rfl))
            refine r_iconst (v := nI 0) qL_holds_411 (by decide) ?_
            refine r_is_18_17 qL_holds_412 rfl rfl ?_
            exact K414 h2 i2 hJ2 hI2 _ _ _ 4 0 (by omega) _ _ (by omega) (by omega)
          · have z2 : zb (2 ≤ sMany N p) = nI 0 := zb_f h2
            have n1 : ¬ decide (2 ≤ sMany N p) = true := fun h => h2 (of_decide_eq_true h)
            have eb : sBest N p = sBest N (p + 1) := (sArg_n1 n1).symm
            have ew : sWorst N p = sWorst N (p + 1) := (sArg_n1 n1).symm
            have hh : sHL N (p + 1) hi lo := by
              rw [sHL, ← eb, sMost, if_neg h2, sLeast, if_neg h2]
              exact hHL
            refine r_aload_n qL_holds_297 rfl ?_
            refine r_aload_n qL_holds_298 rfl ?_
            refine r_iload qL_holds_299 rfl ?_
            refine r_cs3 (cu2 := CU + 154) (su2 := SU + 924) qL_holds_301 kL_271 rfl (by decide +kernel) rfl rfl rfl (lbx (m := 5000) rfl (by omega)) (lbx (m := 30000) rfl (by omega)) ?_
            refine c_L_marking hX1 H2 hD hk ?_
            show zR E _ _ X 304 _ _ _ _ _ _ _
            refine r_if_eq (t := 341) qL_holds_304 (by decide) (fun hc304 => absurd hc304 (by decide)) (fun hc304 => ?_)
            refine r_aload_n qL_holds_307 rfl ?_
            refine r_aload_n qL_holds_308 rfl ?_
            refine r_iload qL_holds_309 rfl ?_
            refine r_cs3 (cu2 := CU + 158) (su2 := SU + 948) qL_holds_311 kL_275 rfl (by decide +kernel) rfl rfl rfl (lbx (m := 5000) rfl (by omega)) (lbx (m := 30000) rfl (by omega)) ?_
            refine c_L_limit hX1 H2 hD hk ?_
            show zR E _ _ X 314 _ _ _ _ _ _ _
            refine r_if_eq (t := 341) qL_holds_314 (by decide) (fun hc314 => absurd hc314 (by decide)) (fun hc314 => ?_)
            refine r_aload_n qL_holds_317 rfl ?_
            refine r_iload qL_holds_318 rfl ?_
            refine r_cv1 (cu2 := CU + 159) (su2 := SU + 954) qL_holds_320 kL_278 rfl (by decide +kernel) (c := 3) (by assumption) (by decide) rfl rfl rfl rfl (lbx (m := 5000) rfl (by omega)) (lbx (m := 30000) rfl (by omega)) ?_
            refine q_hasScale hX1 H2 hk ?_
            rw [z2]
            show zR E _ _ X 323 _ _ _ _ _ _ _
            refine r_aload_n qL_holds_323 rfl ?_
            refine r_iload qL_holds_324 rfl ?_
            refine r_cv1 (cu2 := CU + 160) (su2 := SU + 960) qL_holds_326 kL_175 rfl (by decide +kernel) (c := 3) (by assumption) (by decide) rfl rfl rfl rfl (lbx (m := 5000) rfl (by omega)) (lbx (m := 30000) rfl (by omega)) ?_
            refine q_pointCount hX1 H2 hk ?_
            show zR E _ _ X 329 _ _ _ _ _ _ _
            refine r_iconst (v := nI 1) qL_holds_329 (by decide) ?_
            refine r_icmp_le (t := 337) qL_holds_330 (by decide) (fun hc330 => ?_) (fun hc330 => absurd hc330 (fun h => h (nI_le (by omega) (by decide))))
            refine r_iconst (v := nI 0) qL_holds_337 (by decide) ?_
            refine r_icmp_eq (t := 343) qL_holds_338 (by decide) (fun hc338 => ?_) (fun hc338 => absurd hc338 (fun h => h rfl))
            refine r_aload_n qL_holds_343 rfl ?_
            refine r_iload qL_holds_344 rfl ?_
            refine r_cv1 (cu2 := CU + 161) (su2 := SU + 966) qL_holds_346 kL_278 rfl (by decide +kernel) (c := 3) (by assumption) (by decide) rfl rfl rfl rfl (lbx (m := 5000) rfl (by omega)) (lbx (m := 30000) rfl (by omega)) ?_
            refine q_hasScale hX1 H2 hk ?_
            rw [z2]
            show zR E _ _ X 349 _ _ _ _ _ _ _
            refine r_if_ne (t := 355) qL_holds_349 (by decide) (fun hc349 => absurd hc349 (fun h => h (by decide))) (fun hc349 => ?_)
            refine r_goto (t := 579) qL_holds_352 (by decide) ?_
            exact r_widen (by omega) (by omega) (K579 i2 hJ2 hI2 hi lo hh _ _ _ _ _ _ _ _ eb ew)
        have K261 : ∀ (i2 : Ni), jL i2 a N ra rb (p + 1) → (∀ r, r ≠ ra → r ≠ rb → i2 r = i1 r) → ∀ (z12 z16 z17 : Value) (w15 v : Int32), v = nI (sStills N (p + 1)) → zR E mL_holds (zZ E mL_holds K) X 261 [.ref c, .ref (eS E 4 + 1), .ref ra, .ref rb, .int v, .int (sHighs N p), .int (sTall N p), .int (sBest N p), .int (sWorst N p), .int hi, .int lo, .int (nI p), z12, .int (sAround N p), .int (N (42 + 21 * p + 5)), .int w15, z16, z17] [] g1 i2 j1 (CU + 11) (SU + 66) := by
          intro i2 hJ2 hI2 z12 z16 z17 w15 v hv
          subst hv
          have H2 := hJ2.1
          rcases sArg_c (ok := fun _ => true) (lt := fun a b => decide (sHigh N b < sHigh N a)) (k := p) (by omega) with hw | ⟨q, q1, q2, q3⟩
          · have e9 : sTall N p = -1 := hw
            have e8 : sTall N (p + 1) = nI p := sArg_y rfl hw
            have K9 := K297 i2 hJ2 hI2 z12 (.int (sAround N p)) z16 z17 w15
            rw [e8] at K9
            refine r_iload qL_holds_261 rfl ?_
            refine r_aload_n qL_holds_263 rfl ?_
            refine r_iload qL_holds_264 rfl ?_
            refine r_cv1 (cu2 := CU + 12) (su2 := SU + 72) qL_holds_266 kL_265 rfl (by decide +kernel) (c := 3) (by assumption) (by decide) rfl rfl rfl rfl (lbx (m := 5000) rfl (by omega)) (lbx (m := 30000) rfl (by omega)) ?_
            refine q_height hX1 H2 hk ?_
            show zR E _ _ X 269 _ _ _ _ _ _ _
            first | with_reducible refine r_iaddN qL_holds_269 ?_ | refine r_iadd qL_holds_269 ?_
            refine r_is_18_5 qL_holds_270 rfl rfl ?_
            refine r_iload qL_holds_272 rfl ?_
            refine r_iconst (v := (-1)) qL_holds_274 (by decide) ?_
            refine r_icmp_eq (t := 293) qL_holds_275 (by decide) (fun hc275 => ?_) (fun hc275 => absurd hc275 (fun h => h e9))
            refine r_iload qL_holds_293 rfl ?_
            refine r_is_18_6 qL_holds_295 rfl rfl ?_
            exact r_widen (by omega) (by omega) K9
          · have e9 : sTall N p = nI q := q3
            have hqk : q < zn (N 5) := by omega
            have nq : ¬ sTall N p = -1 := by rw [e9]; exact nI_m1 (by omega)
            have K9 := K297 i2 hJ2 hI2 z12 (.int (sAround N p)) z16 z17 w15
            by_cases hlt : sHigh N q < sHigh N p
            · have e8 : sTall N (p + 1) = nI p := sArg_y2 rfl q3 (by omega) (decide_eq_true hlt)
              rw [e8] at K9
              refine r_iload qL_holds_261 rfl ?_
              refine r_aload_n qL_holds_263 rfl ?_
              refine r_iload qL_holds_264 rfl ?_
              refine r_cv1 (cu2 := CU + 12) (su2 := SU + 72) qL_holds_266 kL_265 rfl (by decide +kernel) (c := 3) (by assumption) (by decide) rfl rfl rfl rfl (lbx (m := 5000) rfl (by omega)) (lbx (m := 30000) rfl (by omega)) ?_
              refine q_height hX1 H2 hk ?_
              show zR E _ _ X 269 _ _ _ _ _ _ _
              first | with_reducible refine r_iaddN qL_holds_269 ?_ | refine r_iadd qL_holds_269 ?_
              refine r_is_18_5 qL_holds_270 rfl rfl ?_
              refine r_iload qL_holds_272 rfl ?_
              refine r_iconst (v := (-1)) qL_holds_274 (by decide) ?_
              refine r_icmp_eq (t := 293) qL_holds_275 (by decide) (fun hc275 => absurd hc275 (nq)) (fun hc275 => ?_)
              refine r_aload_n qL_holds_278 rfl ?_
              refine r_iload qL_holds_279 rfl ?_
              refine r_cv1 (cu2 := CU + 13) (su2 := SU + 78) qL_holds_281 kL_265 rfl (by decide +kernel) (c := 3) (by assumption) (by decide) rfl rfl rfl rfl (lbx (m := 5000) rfl (by omega)) (lbx (m := 30000) rfl (by omega)) ?_
              refine q_height hX1 H2 hk ?_
              show zR E _ _ X 284 _ _ _ _ _ _ _
              refine r_aload_n qL_holds_284 rfl ?_
              refine r_iload qL_holds_285 rfl ?_
              refine r_cv1 (cu2 := CU + 14) (su2 := SU + 84) qL_holds_287 kL_265 rfl (by decide +kernel) (c := 3) (by assumption) (by decide) rfl rfl rfl rfl (lbx (m := 5000) rfl (by omega)) (lbx (m := 30000) rfl (by omega)) ?_
              rw [e9]
              refine q_height hX1 H2 hqk ?_
              show zR E _ _ X 290 _ _ _ _ _ _ _
              refine r_icmp_le (t := 297) qL_holds_290 (by decide) (fun hc290 => absurd hc290 (Int32.not_le.mpr hlt)) (fun hc290 => ?_)
              refine r_iload qL_holds_293 rfl ?_
              refine r_is_18_6 qL_holds_295 rfl rfl ?_
              exact r_widen (by omega) (by omega) K9
            · have e8 : sTall N (p + 1) = nI q := (sArg_n2 q3 (by omega) (fun h => hlt (of_decide_eq_true h))).trans q3
              rw [e8] at K9
              refine r_iload qL_holds_261 rfl ?_
              refine r_aload_n qL_holds_263 rfl ?_
              refine r_iload qL_holds_264 rfl ?_
              refine r_cv1 (cu2 := CU + 12) (su2 := SU + 72) qL_holds_266 kL_265 rfl (by decide +kernel) (c := 3) (by assumption) (by decide) rfl rfl rfl rfl (lbx (m := 5000) rfl (by omega)) (lbx (m := 30000) rfl (by omega)) ?_
              refine q_height hX1 H2 hk ?_
              show zR E _ _ X 269 _ _ _ _ _ _ _
              first | with_reducible refine r_iaddN qL_holds_269 ?_ | refine r_iadd qL_holds_269 ?_
              refine r_is_18_5 qL_holds_270 rfl rfl ?_
              refine r_iload qL_holds_272 rfl ?_
              refine r_iconst (v := (-1)) qL_holds_274 (by decide) ?_
              refine r_icmp_eq (t := 293) qL_holds_275 (by decide) (fun hc275 => absurd hc275 (nq)) (fun hc275 => ?_)
              refine r_aload_n qL_holds_278 rfl ?_
              refine r_iload qL_holds_279 rfl ?_
              refine r_cv1 (cu2 := CU + 13) (su2 := SU + 78) qL_holds_281 kL_265 rfl (by decide +kernel) (c := 3) (by assumption) (by decide) rfl rfl rfl rfl (lbx (m := 5000) rfl (by omega)) (lbx (m := 30000) rfl (by omega)) ?_
              refine q_height hX1 H2 hk ?_
              show zR E _ _ X 284 _ _ _ _ _ _ _
              refine r_aload_n qL_holds_284 rfl ?_
              refine r_iload qL_holds_285 rfl ?_
              refine r_cv1 (cu2 := CU + 14) (su2 := SU + 84) qL_holds_287 kL_265 rfl (by decide +kernel) (c := 3) (by assumption) (by decide) rfl rfl rfl rfl (lbx (m := 5000) rfl (by omega)) (lbx (m := 30000) rfl (by omega)) ?_
              rw [e9]
              refine q_height hX1 H2 hqk ?_
              show zR E _ _ X 290 _ _ _ _ _ _ _
              refine r_icmp_le (t := 297) qL_holds_290 (by decide) (fun hc290 => ?_) (fun hc290 => absurd hc290 (fun h => h (Int32.not_lt.mp hlt)))
              exact r_widen (by omega) (by omega) K9
        have K227 : ∀ (i2 : Ni), zH i2 a N → (∀ b, b < 4 → i2 ra b = sIn N (nI b) (p + 1)) → (∀ s, s < 3 → i2 rb s = sHold N (nI s) p) → (∀ r, r ≠ ra → r ≠ rb → i2 r = i1 r) → ∀ (z12 z16 z17 : Value) (w15 : Int32), zR E mL_holds (zZ E mL_holds K) X 227 [.ref c, .ref (eS E 4 + 1), .ref ra, .ref rb, .int (nI (sStills N p)), .int (sHighs N p), .int (sTall N p), .int (sBest N p), .int (sWorst N p), .int hi, .int lo, .int (nI p), z12, .int (sAround N p), .int (N (42 + 21 * p + 5)), .int w15, z16, z17] [] g1 i2 j1 (CU + 9) (SU + 54) := by
          intro i2 H2 hb2 hs2 hI2 z12 z16 z17 w15
          have hJ3 : jL (wA i2 rb (upd (i2 rb) (vSp E p) (i2 rb (vSp E p) + N (42 + 21 * p + 4)))) a N ra rb (p + 1) := by
            refine ⟨H2.ou (fun q hq => wA_n (han q hq).2), fun b hb => by rw [wA_n rab]; exact hb2 b hb, fun s hs => ?_⟩
            rw [wA_s, sHold, d0]
            by_cases h : s = vSp E p
            · rw [h, pk_us, if_pos rfl, hs2 _ (by omega)]
            · rw [pk_un h, if_neg (fun e => h (nI_eq2 (by omega) (by omega) e).symm), hs2 s hs, add_nI0]
          have hI3 : ∀ r, r ≠ ra → r ≠ rb → wA i2 rb (upd (i2 rb) (vSp E p) (i2 rb (vSp E p) + N (42 + 21 * p + 4))) r = i1 r := fun r h1 h2 => by rw [wA_n h2]; exact hI2 r h1 h2
          have K9 := fun z16 z17 w15 v => K261 _ hJ3 hI3 z12 z16 z17 w15 v
          refine r_aload_n qL_holds_227 rfl ?_
          refine r_aload_n qL_holds_228 rfl ?_
          refine r_iload qL_holds_229 rfl ?_
          refine r_cs2 (cu2 := CU + 9) (su2 := SU + 54) qL_holds_231 kL_111 rfl (by decide +kernel) rfl rfl rfl (lbx (m := 5000) rfl (by omega)) (lbx (m := 30000) rfl (by omega)) ?_
          refine c_L_spirit (by omega) hS0 ?_
          show zR E _ _ X 234 _ _ _ _ _ _ _
          refine r_dup2 qL_holds_234 rfl rfl ?_
          refine r_ialdN qL_holds_235 (by assumption) (by assumption) (by omega) rfl ?_
          refine r_aload_n qL_holds_236 rfl ?_
          refine r_iload qL_holds_237 rfl ?_
          refine r_cv1 (cu2 := CU + 10) (su2 := SU + 60) qL_holds_239 kL_162 rfl (by decide +kernel) (c := 3) (by assumption) (by decide) rfl rfl rfl rfl (lbx (m := 5000) rfl (by omega)) (lbx (m := 30000) rfl (by omega)) ?_
          refine q_fillOf hX1 H2 hk ?_
          show zR E _ _ X 242 _ _ _ _ _ _ _
          first | with_reducible refine r_iaddN qL_holds_242 ?_ | refine r_iadd qL_holds_242 ?_
          refine r_iastN qL_holds_243 (by assumption) (by assumption) (by omega) rfl ?_
          refine r_iload qL_holds_244 rfl ?_
          refine r_iload qL_holds_246 rfl ?_
          refine r_iload qL_holds_248 rfl ?_
          refine r_icmp_ne (t := 257) qL_holds_250 (by decide) (fun hc250 => ?_) (fun hc250 => ?_)
          · refine r_iconst (v := nI 0) qL_holds_257 (by decide) ?_
            first | with_reducible refine r_iaddN qL_holds_258 ?_ | refine r_iadd qL_holds_258 ?_
            refine r_is_18_4 qL_holds_259 rfl rfl ?_
            refine r_widen (by omega) (by omega) (K9 _ _ _ _ ?_)
            rw [sStills]
            first | (rw [if_pos hc250]; try exact nI_add _ _) | (rw [if_neg hc250]; try exact nI_add _ _)
          · refine r_iconst (v := nI 1) qL_holds_253 (by decide) ?_
            refine r_goto (t := 258) qL_holds_254 (by decide) ?_
            first | with_reducible refine r_iaddN qL_holds_258 ?_ | refine r_iadd qL_holds_258 ?_
            refine r_is_18_4 qL_holds_259 rfl rfl ?_
            refine r_widen (by omega) (by omega) (K9 _ _ _ _ ?_)
            rw [sStills]
            first | (rw [if_pos hc250]; try exact nI_add _ _) | (rw [if_neg hc250]; try exact nI_add _ _)
        have K182 : ∀ (z16 z17 : Value), zR E mL_holds (zZ E mL_holds K) X 182 [.ref c, .ref (eS E 4 + 1), .ref ra, .ref rb, .int (nI (sStills N p)), .int (sHighs N p), .int (sTall N p), .int (sBest N p), .int (sWorst N p), .int hi, .int lo, .int (nI p), .int (N (42 + 21 * p + 7)), .int (sAround N p), .int (N (42 + 21 * p + 5)), .int (vFree E p (N (42 + 21 * p + 4)) (N (42 + 21 * p + 5))), z16, z17] [] g1 i' j1 (CU + 7) (SU + 42) := by
          intro z16 z17
          have es : sFree N p (N (42 + 21 * p + 5) + nI 10) - sFree N p (N (42 + 21 * p + 5)) = vFree E p (N (42 + 21 * p + 4)) (N (42 + 21 * p + 5) + nI 10) - vFree E p (N (42 + 21 * p + 4)) (N (42 + 21 * p + 5)) := by rw [eF, eF]
          rcases hbath with hb | ⟨b, hb, hbB⟩
          · have hb2 : ∀ b, b < 4 → i' ra b = sIn N (nI b) (p + 1) := fun b h4 => by
              rw [sIn, hb, if_neg (fun h => nI_m1 (q := b) (by omega) h.symm), add_nI0]
              exact hJ.2.1 b h4
            refine r_aload_n qL_holds_182 rfl ?_
            refine r_iload qL_holds_183 rfl ?_
            refine r_cv1 (cu2 := CU + 8) (su2 := SU + 48) qL_holds_185 kL_268 rfl (by decide +kernel) (c := 3) (by assumption) (by decide) rfl rfl rfl rfl (lbx (m := 5000) rfl (by omega)) (lbx (m := 30000) rfl (by omega)) ?_
            refine q_sensitivity hX1 hJ.1 hk ?_
            rw [es]
            show zR E _ _ X 188 _ _ _ _ _ _ _
            refine r_aload_n qL_holds_188 rfl ?_
            refine r_iload qL_holds_189 rfl ?_
            refine r_aload_n qL_holds_191 rfl ?_
            refine r_iload qL_holds_192 rfl ?_
            refine r_cv1 (cu2 := CU + 9) (su2 := SU + 54) qL_holds_194 kL_162 rfl (by decide +kernel) (c := 3) (by assumption) (by decide) rfl rfl rfl rfl (lbx (m := 5000) rfl (by omega)) (lbx (m := 30000) rfl (by omega)) ?_
            refine q_fillOf hX1 hJ.1 hk ?_
            show zR E _ _ X 197 _ _ _ _ _ _ _
            refine r_iload qL_holds_197 rfl ?_
            refine r_bipush (v := nI 10) qL_holds_199 (by decide) ?_
            first | with_reducible refine r_iaddN qL_holds_201 ?_ | refine r_iadd qL_holds_201 ?_
            refine r_cs4 (cu2 := CU + 9) (su2 := SU + 54) qL_holds_202 kL_255 rfl (by decide +kernel) rfl rfl rfl (lbx (m := 5000) rfl (by omega)) (lbx (m := 30000) rfl (by omega)) ?_
            refine c_L_free (by omega) hS0 ?_
            show zR E _ _ X 205 _ _ _ _ _ _ _
            refine r_iload qL_holds_205 rfl ?_
            refine r_isub qL_holds_207 ?_
            refine r_icmp_eq (t := 213) qL_holds_208 (by decide) (fun hc208 => ?_) (fun hc208 => absurd hc208 (fun h => h rfl))
            refine r_iload qL_holds_213 rfl ?_
            refine r_iconst (v := (-1)) qL_holds_215 (by decide) ?_
            refine r_icmp_eq (t := 227) qL_holds_216 (by decide) (fun hc216 => ?_) (fun hc216 => absurd hc216 (fun h => h hb))
            exact r_widen (by omega) (by omega) (K227 i' hJ.1 hb2 hJ.2.2 hI _ _ _ _)
          · have nb : ¬ N (42 + 21 * p + 7) = -1 := by rw [hb]; exact nb_m1 (by omega)
            have hb2 : ∀ q, q < 4 → wA i' ra (upd (i' ra) b (i' ra b + nI 1)) ra q = sIn N (nI q) (p + 1) := fun q h4 => by
              rw [wA_s, sIn, hb]
              by_cases h : q = b
              · rw [h, pk_us, if_pos rfl, hJ.2.1 b (by omega)]
              · rw [pk_un h, if_neg (fun e => h (nI_eq2 (by omega) (by omega) e).symm), hJ.2.1 q h4, add_nI0]
            refine r_aload_n qL_holds_182 rfl ?_
            refine r_iload qL_holds_183 rfl ?_
            refine r_cv1 (cu2 := CU + 8) (su2 := SU + 48) qL_holds_185 kL_268 rfl (by decide +kernel) (c := 3) (by assumption) (by decide) rfl rfl rfl rfl (lbx (m := 5000) rfl (by omega)) (lbx (m := 30000) rfl (by omega)) ?_
            refine q_sensitivity hX1 hJ.1 hk ?_
            rw [es]
            show zR E _ _ X 188 _ _ _ _ _ _ _
            refine r_aload_n qL_holds_188 rfl ?_
            refine r_iload qL_holds_189 rfl ?_
            refine r_aload_n qL_holds_191 rfl ?_
            refine r_iload qL_holds_192 rfl ?_
            refine r_cv1 (cu2 := CU + 9) (su2 := SU + 54) qL_holds_194 kL_162 rfl (by decide +kernel) (c := 3) (by assumption) (by decide) rfl rfl rfl rfl (lbx (m := 5000) rfl (by omega)) (lbx (m := 30000) rfl (by omega)) ?_
            refine q_fillOf hX1 hJ.1 hk ?_
            show zR E _ _ X 197 _ _ _ _ _ _ _
            refine r_iload qL_holds_197 rfl ?_
            refine r_bipush (v := nI 10) qL_holds_199 (by decide) ?_
            first | with_reducible refine r_iaddN qL_holds_201 ?_ | refine r_iadd qL_holds_201 ?_
            refine r_cs4 (cu2 := CU + 9) (su2 := SU + 54) qL_holds_202 kL_255 rfl (by decide +kernel) rfl rfl rfl (lbx (m := 5000) rfl (by omega)) (lbx (m := 30000) rfl (by omega)) ?_
            refine c_L_free (by omega) hS0 ?_
            show zR E _ _ X 205 _ _ _ _ _ _ _
            refine r_iload qL_holds_205 rfl ?_
            refine r_isub qL_holds_207 ?_
            refine r_icmp_eq (t := 213) qL_holds_208 (by decide) (fun hc208 => ?_) (fun hc208 => absurd hc208 (fun h => h rfl))
            refine r_iload qL_holds_213 rfl ?_
            refine r_iconst (v := (-1)) qL_holds_215 (by decide) ?_
            refine r_icmp_eq (t := 227) qL_holds_216 (by decide) (fun hc216 => absurd hc216 (nb)) (fun hc216 => ?_)
            refine r_aload_n qL_holds_219 rfl ?_
            refine r_iload qL_holds_220 rfl ?_
            rw [hb]
            refine r_dup2 qL_holds_222 rfl rfl ?_
            refine r_ialdN qL_holds_223 (by assumption) (by assumption) (by omega) rfl ?_
            refine r_iconst (v := nI 1) qL_holds_224 (by decide) ?_
            first | with_reducible refine r_iaddN qL_holds_225 ?_ | refine r_iadd qL_holds_225 ?_
            refine r_iastN qL_holds_226 (by assumption) (by assumption) (by omega) rfl ?_
            exact r_widen (by omega) (by omega) (K227 _ (hJ.1.ou (fun q hq => wA_n (han q hq).1)) hb2 (fun s hs => by rw [wA_n (Ne.symm rab)]; exact hJ.2.2 s hs) (fun r h1 h2 => by rw [wA_n h1]; exact hI r h1 h2) _ _ _ _)
        have K102 : ∀ (w : Int32), w = sAround N p → ∀ (z13 z14 z15 z16 z17 : Value), zR E mL_holds (zZ E mL_holds K) X 102 [.ref c, .ref (eS E 4 + 1), .ref ra, .ref rb, .int (nI (sStills N p)), .int (sHighs N p), .int (sTall N p), .int (sBest N p), .int (sWorst N p), .int hi, .int lo, .int (nI p), .int (N (42 + 21 * p + 7)), z13, z14, z15, z16, z17] [.int w] g1 i' j1 (CU + 1) (SU + 6) := by
          intro w hw z13 z14 z15 z16 z17
          subst hw
          refine r_is_18_13 qL_holds_102 rfl rfl ?_
          refine r_aload_n qL_holds_104 rfl ?_
          refine r_iload qL_holds_105 rfl ?_
          refine r_cv1 (cu2 := CU + 2) (su2 := SU + 12) qL_holds_107 kL_165 rfl (by decide +kernel) (c := 3) (by assumption) (by decide) rfl rfl rfl rfl (lbx (m := 5000) rfl (by omega)) (lbx (m := 30000) rfl (by omega)) ?_
          refine q_temperatureOf hX1 hJ.1 hk ?_
          show zR E _ _ X 110 _ _ _ _ _ _ _
          refine r_is_18_14 qL_holds_110 rfl rfl ?_
          refine r_aload_n qL_holds_112 rfl ?_
          refine r_iload qL_holds_113 rfl ?_
          refine r_aload_n qL_holds_115 rfl ?_
          refine r_iload qL_holds_116 rfl ?_
          refine r_cv1 (cu2 := CU + 3) (su2 := SU + 18) qL_holds_118 kL_162 rfl (by decide +kernel) (c := 3) (by assumption) (by decide) rfl rfl rfl rfl (lbx (m := 5000) rfl (by omega)) (lbx (m := 30000) rfl (by omega)) ?_
          refine q_fillOf hX1 hJ.1 hk ?_
          show zR E _ _ X 121 _ _ _ _ _ _ _
          refine r_iload qL_holds_121 rfl ?_
          refine r_cs4 (cu2 := CU + 3) (su2 := SU + 18) qL_holds_123 kL_255 rfl (by decide +kernel) rfl rfl rfl (lbx (m := 5000) rfl (by omega)) (lbx (m := 30000) rfl (by omega)) ?_
          refine c_L_free (by omega) hS0 ?_
          show zR E _ _ X 126 _ _ _ _ _ _ _
          refine r_is_18_15 qL_holds_126 rfl rfl ?_
          refine r_aload_n qL_holds_128 rfl ?_
          refine r_iload qL_holds_129 rfl ?_
          refine r_cv1 (cu2 := CU + 4) (su2 := SU + 24) qL_holds_131 kL_259 rfl (by decide +kernel) (c := 3) (by assumption) (by decide) rfl rfl rfl rfl (lbx (m := 5000) rfl (by omega)) (lbx (m := 30000) rfl (by omega)) ?_
          refine q_surroundingsOf hX1 hJ.1 hk ?_
          show zR E _ _ X 134 _ _ _ _ _ _ _
          refine r_iload qL_holds_134 rfl ?_
          refine r_icmp_ne (t := 180) qL_holds_136 (by decide) (fun hc136 => absurd hc136 (fun h => h rfl)) (fun hc136 => ?_)
          refine r_aload_n qL_holds_139 rfl ?_
          refine r_iload qL_holds_140 rfl ?_
          refine r_cv1 (cu2 := CU + 5) (su2 := SU + 30) qL_holds_142 kL_262 rfl (by decide +kernel) (c := 3) (by assumption) (by decide) rfl rfl rfl rfl (lbx (m := 5000) rfl (by omega)) (lbx (m := 30000) rfl (by omega)) ?_
          refine q_isSettled hX1 hJ.1 hk ?_
          show zR E _ _ X 145 _ _ _ _ _ _ _
          refine r_iload qL_holds_145 rfl ?_
          refine r_iload qL_holds_147 rfl ?_
          refine r_icmp_ne (t := 156) qL_holds_149 (by decide) (fun hc149 => ?_) (fun hc149 => ?_)
          · refine r_iconst (v := nI 0) qL_holds_156 (by decide) ?_
            refine r_icmp_ne (t := 180) qL_holds_157 (by decide) (fun hc157 => absurd hc157 (fun h => h (by first | exact zb_t hc149 | exact zb_f hc149))) (fun hc157 => ?_)
            refine r_aload_n qL_holds_160 rfl ?_
            refine r_iload qL_holds_161 rfl ?_
            refine r_cv1 (cu2 := CU + 6) (su2 := SU + 36) qL_holds_163 kL_265 rfl (by decide +kernel) (c := 3) (by assumption) (by decide) rfl rfl rfl rfl (lbx (m := 5000) rfl (by omega)) (lbx (m := 30000) rfl (by omega)) ?_
            refine q_height hX1 hJ.1 hk ?_
            rw [eH]
            show zR E _ _ X 166 _ _ _ _ _ _ _
            refine r_aload_n qL_holds_166 rfl ?_
            refine r_iload qL_holds_167 rfl ?_
            refine r_cs2 (cu2 := CU + 6) (su2 := SU + 36) qL_holds_169 kL_120 rfl (by decide +kernel) rfl rfl rfl (lbx (m := 5000) rfl (by omega)) (lbx (m := 30000) rfl (by omega)) ?_
            refine c_L_length (by omega) ?_
            show zR E _ _ X 172 _ _ _ _ _ _ _
            refine r_iload qL_holds_172 rfl ?_
            refine r_mmin qL_holds_174 kL_30 rfl rfl (lbx (m := 5000) rfl (by omega)) (lbx (m := 30000) rfl (by omega)) ?_
            refine r_icmp_eq (t := 182) qL_holds_177 (by decide) (fun hc177 => ?_) (fun hc177 => absurd hc177 (fun h => h rfl))
            exact r_widen (by omega) (by omega) (K182 _ _)
          · refine r_iconst (v := nI 1) qL_holds_152 (by decide) ?_
            refine r_goto (t := 157) qL_holds_153 (by decide) ?_
            refine r_icmp_ne (t := 180) qL_holds_157 (by decide) (fun hc157 => absurd hc157 (fun h => h (by first | exact zb_t hc149 | exact zb_f hc149))) (fun hc157 => ?_)
            refine r_aload_n qL_holds_160 rfl ?_
            refine r_iload qL_holds_161 rfl ?_
            refine r_cv1 (cu2 := CU + 6) (su2 := SU + 36) qL_holds_163 kL_265 rfl (by decide +kernel) (c := 3) (by assumption) (by decide) rfl rfl rfl rfl (lbx (m := 5000) rfl (by omega)) (lbx (m := 30000) rfl (by omega)) ?_
            refine q_height hX1 hJ.1 hk ?_
            rw [eH]
            show zR E _ _ X 166 _ _ _ _ _ _ _
            refine r_aload_n qL_holds_166 rfl ?_
            refine r_iload qL_holds_167 rfl ?_
            refine r_cs2 (cu2 := CU + 6) (su2 := SU + 36) qL_holds_169 kL_120 rfl (by decide +kernel) rfl rfl rfl (lbx (m := 5000) rfl (by omega)) (lbx (m := 30000) rfl (by omega)) ?_
            refine c_L_length (by omega) ?_
            show zR E _ _ X 172 _ _ _ _ _ _ _
            refine r_iload qL_holds_172 rfl ?_
            refine r_mmin qL_holds_174 kL_30 rfl rfl (lbx (m := 5000) rfl (by omega)) (lbx (m := 30000) rfl (by omega)) ?_
            refine r_icmp_eq (t := 182) qL_holds_177 (by decide) (fun hc177 => ?_) (fun hc177 => absurd hc177 (fun h => h rfl))
            exact r_widen (by omega) (by omega) (K182 _ _)
        rcases hbath with hb | ⟨b, hb, hbB⟩
        · skip
          refine r_iload qL_holds_48 rfl ?_
          refine r_aload_n qL_holds_50 rfl ?_
          refine r_cs1 (cu2 := CU) (su2 := SU) qL_holds_51 kL_106 rfl (by decide +kernel) rfl rfl rfl (lbx (m := 5000) rfl (by omega)) (lbx (m := 30000) rfl (by omega)) ?_
          refine c_L_tubes ?_
          show zR E _ _ X 54 _ _ _ _ _ _ _
          refine r_icmp_ge (t := 585) qL_holds_54 (by decide) (fun hc54 => absurd hc54 (nI_ge hpT (by omega))) (fun hc54 => ?_)
          refine r_aload_n qL_holds_57 rfl ?_
          refine r_iload qL_holds_58 rfl ?_
          refine r_cv1 (cu2 := CU + 1) (su2 := SU + 6) qL_holds_60 kL_168 rfl (by decide +kernel) (c := 3) (by assumption) (by decide) rfl rfl rfl rfl (lbx (m := 5000) rfl (by omega)) (lbx (m := 30000) rfl (by omega)) ?_
          refine q_bathOf hX1 hJ.1 hk ?_
          show zR E _ _ X 63 _ _ _ _ _ _ _
          refine r_is_18_12 qL_holds_63 rfl rfl ?_
          refine r_aload_n qL_holds_65 rfl ?_
          refine r_cv0 (cu2 := CU + 1) (su2 := SU + 6) qL_holds_66 kL_144 rfl (by decide +kernel) (c := 3) (by assumption) (by decide) rfl rfl rfl rfl (lbx (m := 5000) rfl (by omega)) (lbx (m := 30000) rfl (by omega)) ?_
          refine c_X3_thumbedTube hX1 hJ.1 ?_
          show zR E _ _ X 69 _ _ _ _ _ _ _
          refine r_iload qL_holds_69 rfl ?_
          refine r_icmp_ne (t := 80) qL_holds_71 (by decide) (fun hc71 => ?_) (fun hc71 => ?_)
          · refine r_bipush (v := nI 10) qL_holds_80 (by decide) ?_
            refine r_iload qL_holds_82 rfl ?_
            refine r_iconst (v := (-1)) qL_holds_84 (by decide) ?_
            refine r_icmp_ne (t := 95) qL_holds_85 (by decide) (fun hc85 => absurd hc85 (fun h => h hb)) (fun hc85 => ?_)
            refine r_aload_n qL_holds_88 rfl ?_
            refine r_cv0 (cu2 := CU + 1) (su2 := SU + 6) qL_holds_89 kL_141 rfl (by decide +kernel) (c := 3) (by assumption) (by decide) rfl rfl rfl rfl (lbx (m := 5000) rfl (by omega)) (lbx (m := 30000) rfl (by omega)) ?_
            refine c_X3_roomDegrees hX1 hJ.1 ?_
            show zR E _ _ X 92 _ _ _ _ _ _ _
            refine r_goto (t := 101) qL_holds_92 (by decide) ?_
            first | with_reducible refine r_imulN qL_holds_101 ?_ | refine r_imul qL_holds_101 ?_
            refine r_widen (by omega) (by omega) (K102 _ ?_ _ _ _ _ _)
            first | exact (if_pos hc71).symm | (rw [sAround, if_neg hc71, if_pos hb])
          · refine r_sipush (v := nI 370) qL_holds_74 (by decide) ?_
            refine r_goto (t := 102) qL_holds_77 (by decide) ?_
            refine r_widen (by omega) (by omega) (K102 _ ?_ _ _ _ _ _)
            first | exact (if_pos hc71).symm | (rw [sAround, if_neg hc71, if_pos hb])
        · have nb : ¬ N (42 + 21 * p + 7) = -1 := by rw [hb]; exact nb_m1 (by omega)
          have eDg : N (30 + 3 * zn (N (42 + 21 * p + 7)) + 2) = vDg E b := by rw [hb, zn_nI (by omega)]; exact hD.2.2.2.2.1 b hbB
          refine r_iload qL_holds_48 rfl ?_
          refine r_aload_n qL_holds_50 rfl ?_
          refine r_cs1 (cu2 := CU) (su2 := SU) qL_holds_51 kL_106 rfl (by decide +kernel) rfl rfl rfl (lbx (m := 5000) rfl (by omega)) (lbx (m := 30000) rfl (by omega)) ?_
          refine c_L_tubes ?_
          show zR E _ _ X 54 _ _ _ _ _ _ _
          refine r_icmp_ge (t := 585) qL_holds_54 (by decide) (fun hc54 => absurd hc54 (nI_ge hpT (by omega))) (fun hc54 => ?_)
          refine r_aload_n qL_holds_57 rfl ?_
          refine r_iload qL_holds_58 rfl ?_
          refine r_cv1 (cu2 := CU + 1) (su2 := SU + 6) qL_holds_60 kL_168 rfl (by decide +kernel) (c := 3) (by assumption) (by decide) rfl rfl rfl rfl (lbx (m := 5000) rfl (by omega)) (lbx (m := 30000) rfl (by omega)) ?_
          refine q_bathOf hX1 hJ.1 hk ?_
          show zR E _ _ X 63 _ _ _ _ _ _ _
          refine r_is_18_12 qL_holds_63 rfl rfl ?_
          refine r_aload_n qL_holds_65 rfl ?_
          refine r_cv0 (cu2 := CU + 1) (su2 := SU + 6) qL_holds_66 kL_144 rfl (by decide +kernel) (c := 3) (by assumption) (by decide) rfl rfl rfl rfl (lbx (m := 5000) rfl (by omega)) (lbx (m := 30000) rfl (by omega)) ?_
          refine c_X3_thumbedTube hX1 hJ.1 ?_
          show zR E _ _ X 69 _ _ _ _ _ _ _
          refine r_iload qL_holds_69 rfl ?_
          refine r_icmp_ne (t := 80) qL_holds_71 (by decide) (fun hc71 => ?_) (fun hc71 => ?_)
          · refine r_bipush (v := nI 10) qL_holds_80 (by decide) ?_
            refine r_iload qL_holds_82 rfl ?_
            refine r_iconst (v := (-1)) qL_holds_84 (by decide) ?_
            refine r_icmp_ne (t := 95) qL_holds_85 (by decide) (fun hc85 => ?_) (fun hc85 => absurd hc85 (nb))
            refine r_aload_n qL_holds_95 rfl ?_
            refine r_iload qL_holds_96 rfl ?_
            refine r_cs2 (cu2 := CU + 1) (su2 := SU + 6) qL_holds_98 kL_101 rfl (by decide +kernel) rfl rfl rfl (lbx (m := 5000) rfl (by omega)) (lbx (m := 30000) rfl (by omega)) ?_
            refine c_L_degreesE hb (by omega) ?_
            show zR E _ _ X 101 _ _ _ _ _ _ _
            first | with_reducible refine r_imulN qL_holds_101 ?_ | refine r_imul qL_holds_101 ?_
            refine r_widen (by omega) (by omega) (K102 _ ?_ _ _ _ _ _)
            first | exact (if_pos hc71).symm | (rw [sAround, if_neg hc71, if_neg nb, eDg])
          · refine r_sipush (v := nI 370) qL_holds_74 (by decide) ?_
            refine r_goto (t := 102) qL_holds_77 (by decide) ?_
            refine r_widen (by omega) (by omega) (K102 _ ?_ _ _ _ _ _)
            first | exact (if_pos hc71).symm | (rw [sAround, if_neg hc71, if_neg nb, eDg])
    exact K48 (vT E) 0 (by omega) i1 hJ0 (fun _ _ _ => rfl) _ _ (Or.inl ⟨rfl, rfl, rfl, rfl, rfl⟩) _ _ _ _ _ _ 2 7 (by omega) (by omega)
  have nac : ∀ ra : Nat, gT g ra = 0 → ∀ q, q < 30 → a q ≠ ra := fun ra h q hq e => hX.2.2.ty hq (by rw [e]; exact h)
  refine r_aload_n qL_holds_0 rfl ?_
  refine r_cv0 (cu2 := 0) (su2 := 0) qL_holds_1 kL_249 rfl (by decide +kernel) (c := 3) (by assumption) (by decide) rfl rfl rfl rfl rfl rfl ?_
  refine c_X3_missedPoints hX hH ?_
  rw [hM]
  show zR E _ _ X 4 _ _ _ _ _ _ _
  refine r_if_ne (t := 14) qL_holds_4 (by decide) (fun hc4 => absurd hc4 (fun h => h rfl)) (fun hc4 => ?_)
  refine r_aload_n qL_holds_7 rfl ?_
  refine r_cv0 (cu2 := 0) (su2 := 0) qL_holds_8 kL_252 rfl (by decide +kernel) (c := 3) (by assumption) (by decide) rfl rfl rfl rfl rfl rfl ?_
  refine c_X3_spiritDifference hX hH ?_
  rw [hR]
  show zR E _ _ X 11 _ _ _ _ _ _ _
  refine r_if_eq (t := 16) qL_holds_11 (by decide) (fun hc11 => ?_) (fun hc11 => absurd hc11 (fun h => h rfl))
  refine r_iconst (v := nI 4) qL_holds_16 (by decide) ?_
  refine r_newa (N := 4) qL_holds_17 rfl (by decide) na_0 (by decide) (by decide) rfl rfl rfl (fun ra ra0 raf => ?_)
  refine r_as_18_2 qL_holds_19 rfl rfl ?_
  refine r_iconst (v := nI 3) qL_holds_20 (by decide) ?_
  refine r_newa (N := 3) qL_holds_21 rfl (by decide) na_0 (by decide) (by decide) rfl rfl rfl (fun rb rb0 rbf => ?_)
  refine r_as_18_3 qL_holds_23 rfl rfl ?_
  refine r_iconst (v := nI 0) qL_holds_24 (by decide) ?_
  refine r_is_18_4 qL_holds_25 rfl rfl ?_
  refine r_iconst (v := nI 0) qL_holds_27 (by decide) ?_
  refine r_is_18_5 qL_holds_28 rfl rfl ?_
  refine r_iconst (v := (-1)) qL_holds_30 (by decide) ?_
  refine r_is_18_6 qL_holds_31 rfl rfl ?_
  refine r_iconst (v := (-1)) qL_holds_33 (by decide) ?_
  refine r_is_18_7 qL_holds_34 rfl rfl ?_
  refine r_iconst (v := (-1)) qL_holds_36 (by decide) ?_
  refine r_is_18_8 qL_holds_37 rfl rfl ?_
  refine r_iconst (v := nI 0) qL_holds_39 (by decide) ?_
  refine r_is_18_9 qL_holds_40 rfl rfl ?_
  refine r_iconst (v := nI 0) qL_holds_42 (by decide) ?_
  refine r_is_18_10 qL_holds_43 rfl rfl ?_
  refine r_iconst (v := nI 0) qL_holds_45 (by decide) ?_
  refine r_is_18_11 qL_holds_46 rfl rfl ?_
  have rab : ra ≠ rb := fun e => by
    rw [← e, gT_wN, if_pos rfl] at rbf
    exact absurd rbf (by decide)
  have rbf2 : gT g rb = 0 := by
    rw [gT_wN, if_neg (Ne.symm rab)] at rbf
    exact rbf
  have F1 : zNa2 g i j (wN g ra 11 4) (wA i ra (fun _ => 0)) (wB j ra (fun _ => 0)) := fun u => zNf.new raf
  have F2 : zNa2 (wN g ra 11 4) (wA i ra (fun _ => 0)) (wB j ra (fun _ => 0)) (wN (wN g ra 11 4) rb 11 3) (wA (wA i ra (fun _ => 0)) rb (fun _ => 0)) (wB (wB j ra (fun _ => 0)) rb (fun _ => 0)) := fun u => zNf.new rbf
  have F3 := F1.trans F2
  refine KM ra rb _ _ _ (hX.na F3) (by rw [gT_wN, if_neg rab, gT_wN, if_pos rfl]) (by rw [gL_wN, if_neg rab, gL_wN, if_pos rfl]) (by rw [gT_wN, if_pos rfl]) (by rw [gL_wN, if_pos rfl]) rab (fun q hq => ⟨nac ra raf q hq, nac rb rbf2 q hq⟩) (fun i2 h2 u q hq => ?_) ⟨hH.nk hX.2.2 F3, fun b hb => ?_, fun s hs => ?_⟩
  · obtain ⟨a1, a2, a3, a4⟩ := F3 u q hq
    exact ⟨a1, a2, a3, fun hu => ⟨(a4 hu).1, (h2 q (fun e => hq (by rw [e]; exact raf)) (fun e => hq (by rw [e]; exact rbf2))).trans (a4 hu).2⟩⟩
  · rw [wA_n rab, wA_s]; rfl
  · rw [wA_s]; rfl

