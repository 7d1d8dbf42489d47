/-! ===== settledShare, meanHeight ===== -/
theorem sStills_le (N : Nat → Int32) : ∀ k, sStills N k ≤ k
  | 0 => Nat.le_refl 0
  | k + 1 => by
    have := sStills_le N k
    rw [sStills]
    split <;> omega
theorem nf32_all : ∀ a : Fin 9, ∀ b : Fin 9, b.val ≠ 0 → (FP.fdiv (FP.i2f (nI a.val)) (FP.i2f (nI b.val))) &&& 0x7fffffff ≤ 0x7f800000 := by decide +kernel
theorem nf32 {a b : Nat} (ha : a ≤ 8) (hb : b ≤ 8) (h0 : b ≠ 0) : vf_n32 (FP.fdiv (FP.i2f (nI a)) (FP.i2f (nI b))) := nf32_all ⟨a, by omega⟩ ⟨b, by omega⟩ h0
def sShare (N : Nat → Int32) (m : Nat) : UInt32 := if m = 0 then FP.fconst0 else FP.fdiv (FP.i2f (nI (sStills N m))) (FP.i2f (nI m))
def sMean (N : Nat → Int32) (m : Nat) : UInt64 := if m = 0 then FP.dconst0 else FP.ddiv (FP.i2d (sHighs N m)) (FP.i2d (nI m))
set_option maxHeartbeats 4000000 in
set_option maxRecDepth 20000 in
theorem c_X4_settledShare {E : Ev} {g : Sh} {i : Ni} {j : Nj} {K : Kp} {x n d b p s o : Nat}  (hB : zB g i x n d b p s o) (hK : K (.inl (some (.float (sShare (i n) (zn (i n 5)))))) g (wA i x (upd (i x) 0 (nI 0))) j) : zCon E mX4_settledShare [.ref x] g i j K := by
  refine zcon_of (by decide +kernel) rfl rfl (lo := [.ref x, zJ, zJ]) rfl (fun X => ?_)
  have hB' := hB
  obtain ⟨hW, hR3, hO⟩ := hB
  have w1 := hW.1
  have w2 := hW.2.1
  have w8 := hW.2.2.2.2.2.2.2.1.1
  have w9 := hW.2.2.2.2.2.2.2.1.2
  have nx := hW.nx
  have hM' := hW.m hR3
  obtain ⟨hT, hT8⟩ := hO.T8
  generalize hmm : zn (i n 5) = m at *
  have KL : ∀ i' : Ni, zOk (i' n) → i' n 5 = nI m → zn (i' n 5) = m → K (.inl (some (.float (sShare (i' n) m)))) g i' j → ∀ q p : Nat, q = m - p → p ≤ m → zR E mX4_settledShare (zZ E mX4_settledShare K) X 9 [.ref x, .int (nI (sStills (i' n) p)), .int (nI p)] [] g i' j 0 0 := by
    intro i' hO' hT' hmm' hK' q
    induction q with
    | zero =>
      intro p hp hpm
      obtain rfl : p = m := by omega
      refine r_iload_n qX4_settledShare_9 rfl ?_
      refine r_aload_n qX4_settledShare_10 rfl ?_
      refine r_getr qX4_settledShare_11 fX4_17 rfl (by assumption) (by first | assumption | rfl) ?_
      refine r_iconst (v := nI 5) qX4_settledShare_14 (by decide) ?_
      refine r_ialdN qX4_settledShare_15 (by assumption) (by assumption) (by omega) rfl ?_
      rw [hT']
      refine r_icmp_ge (t := 41) qX4_settledShare_16 (by decide) (fun hc16 => ?_) (fun hc16 => absurd hc16 (fun h => h (nI_le (by omega) (by omega))))
      refine r_aload_n qX4_settledShare_41 rfl ?_
      refine r_getr qX4_settledShare_42 fX4_17 rfl (by assumption) (by first | assumption | rfl) ?_
      refine r_iconst (v := nI 5) qX4_settledShare_45 (by decide) ?_
      refine r_ialdN qX4_settledShare_46 (by assumption) (by assumption) (by omega) rfl ?_
      rw [hT']
      refine r_if_ne (t := 54) qX4_settledShare_47 (by decide) (fun hc47 => ?_) (fun hc47 => ?_)
      · have hm0 : p ≠ 0 := fun h => hc47 (by rw [h]; rfl)
        rw [sShare, if_neg hm0] at hK'
        refine r_iload_n qX4_settledShare_54 rfl ?_
        refine r_i2f qX4_settledShare_55 ?_
        refine r_aload_n qX4_settledShare_56 rfl ?_
        refine r_getr qX4_settledShare_57 fX4_17 rfl (by assumption) (by first | assumption | rfl) ?_
        refine r_iconst (v := nI 5) qX4_settledShare_60 (by decide) ?_
        refine r_ialdN qX4_settledShare_61 (by assumption) (by assumption) (by omega) rfl ?_
        rw [hT']
        refine r_i2f qX4_settledShare_62 ?_
        refine r_fdiv qX4_settledShare_63 (nf32 (Nat.le_trans (sStills_le _ _) hT8) hT8 hm0) ?_
        refine r_fret qX4_settledShare_64 rfl rfl rfl ?_
        exact hK'
      · have hm0 : p = 0 := (nI_eq (by omega) (by omega)).mp hc47
        rw [sShare, if_pos hm0] at hK'
        refine r_fconst0 qX4_settledShare_50 ?_
        refine r_goto (t := 64) qX4_settledShare_51 (by decide) ?_
        refine r_fret qX4_settledShare_64 rfl rfl rfl ?_
        exact hK'
    | succ q ih =>
      intro p hp hpm
      have hpl : p < m := by omega
      have hk' : p < zn (i' n 5) := by rw [hmm']; exact hpl
      have hf' := hO'.f hk'
      have h8 := hO'.k8 hk'
      refine r_iload_n qX4_settledShare_9 rfl ?_
      refine r_aload_n qX4_settledShare_10 rfl ?_
      refine r_getr qX4_settledShare_11 fX4_17 rfl (by assumption) (by first | assumption | rfl) ?_
      refine r_iconst (v := nI 5) qX4_settledShare_14 (by decide) ?_
      refine r_ialdN qX4_settledShare_15 (by assumption) (by assumption) (by omega) rfl ?_
      rw [hT']
      refine r_icmp_ge (t := 41) qX4_settledShare_16 (by decide) (fun hc16 => absurd hc16 (nI_ge hpl (by omega))) (fun hc16 => ?_)
      refine r_iload_n qX4_settledShare_19 rfl ?_
      refine r_aload_n qX4_settledShare_20 rfl ?_
      refine r_iload_n qX4_settledShare_21 rfl ?_
      refine r_cv1 (cu2 := 0) (su2 := 0) qX4_settledShare_22 kX4_178 rfl (by decide +kernel) (c := 4) (by assumption) (by decide) rfl rfl rfl rfl rfl rfl ?_
      refine c_X4_isStill hM' hO' hk' ?_
      show zR E _ _ X 25 _ _ _ _ _ _ _
      refine r_if_eq (t := 32) qX4_settledShare_25 (by decide) (fun hc25 => ?_) (fun hc25 => ?_)
      · refine r_iconst (v := nI 0) qX4_settledShare_32 (by decide) ?_
        first | with_reducible refine r_iaddN qX4_settledShare_33 ?_ | refine r_iadd qX4_settledShare_33 ?_
        refine r_is_3_1 qX4_settledShare_34 rfl rfl ?_
        refine r_ii_3_2 qX4_settledShare_35 rfl rfl (nI_inc p) ?_
        refine r_goto (t := 9) qX4_settledShare_38 (by decide) ?_
        have z := ih (p + 1) (by omega) (by omega); rw [sStills] at z; first | (rw [if_pos (zb_ne.mp hc25)] at z; exact z) | (rw [if_neg (zb_0.mp hc25)] at z; exact z)
      · refine r_iconst (v := nI 1) qX4_settledShare_28 (by decide) ?_
        refine r_goto (t := 33) qX4_settledShare_29 (by decide) ?_
        first | with_reducible refine r_iaddN qX4_settledShare_33 ?_ | refine r_iadd qX4_settledShare_33 ?_
        refine r_is_3_1 qX4_settledShare_34 rfl rfl ?_
        refine r_ii_3_2 qX4_settledShare_35 rfl rfl (nI_inc p) ?_
        refine r_goto (t := 9) qX4_settledShare_38 (by decide) ?_
        have z := ih (p + 1) (by omega) (by omega); rw [sStills] at z; first | (rw [if_pos (zb_ne.mp hc25)] at z; exact z) | (rw [if_neg (zb_0.mp hc25)] at z; exact z)
  refine r_aload_n qX4_settledShare_0 rfl ?_
  refine r_iconst (v := nI 0) qX4_settledShare_1 (by decide) ?_
  refine r_puti qX4_settledShare_2 fX4_3 (Or.inl rfl) rfl rfl rfl (by assumption) ?_
  generalize hi : wA i x (upd (i x) 0 (nI 0)) = i' at hK ⊢
  have hn : i' n = i n := by rw [← hi]; exact wA_n nx
  clear hi
  have hO' : zOk (i' n) := by rw [hn]; exact hO
  refine r_iconst (v := nI 0) qX4_settledShare_5 (by decide) ?_
  refine r_is_3_1 qX4_settledShare_6 rfl rfl ?_
  refine r_iconst (v := nI 0) qX4_settledShare_7 (by decide) ?_
  refine r_is_3_2 qX4_settledShare_8 rfl rfl ?_
  exact KL i' hO' (by rw [hn]; exact hT) (by rw [hn]; exact hmm) (by rw [hn]; exact hK) m 0 (by omega) (by omega)

