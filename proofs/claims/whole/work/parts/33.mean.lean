theorem sHighs_in {N : Nat → Int32} (h : zOk N) : ∀ k, k ≤ zn (N 5) → ∃ S : Nat, sHighs N k = nI S ∧ S ≤ 999 * k
  | 0, _ => ⟨0, rfl, Nat.le_refl 0⟩
  | k + 1, hk => by
    obtain ⟨S, e, hS⟩ := sHighs_in h k (by omega)
    obtain ⟨H, e2, hH⟩ := sHigh_in h (k := k) (by omega)
    exact ⟨S + H, by rw [sHighs, e, e2, nI_add], by omega⟩
set_option maxHeartbeats 4000000 in
set_option maxRecDepth 20000 in
theorem c_X4_meanHeight {E : Ev} {g : Sh} {i : Ni} {j : Nj} {K : Kp} {x n d b p s o : Nat}  (hB : zB g i x n d b p s o) (hK : K (.inl (some (.double (sMean (i n) (zn (i n 5)))))) g (wA i x (upd (i x) 0 (nI 0))) j) : zCon E mX4_meanHeight [.ref x] g i j K := by
  refine zcon_of (by decide +kernel) rfl rfl (lo := [.ref x, zJ, zJ]) rfl (fun X => ?_)
  have hB' := hB
  obtain ⟨hW, hR3, hO⟩ := hB
  have w1 := hW.1
  have w2 := hW.2.1
  have w8 := hW.2.2.2.2.2.2.2.1.1
  have w9 := hW.2.2.2.2.2.2.2.1.2
  have nx := hW.nx
  have hM' := hW.m hR3
  obtain ⟨hT, hT8⟩ := hO.T8
  generalize hmm : zn (i n 5) = m at *
  have KL : ∀ i' : Ni, zOk (i' n) → i' n 5 = nI m → zn (i' n 5) = m → K (.inl (some (.double (sMean (i' n) m)))) g i' j → ∀ q p : Nat, q = m - p → p ≤ m → zR E mX4_meanHeight (zZ E mX4_meanHeight K) X 9 [.ref x, .int (sHighs (i' n) p), .int (nI p)] [] g i' j 0 0 := by
    intro i' hO' hT' hmm' hK' q
    induction q with
    | zero =>
      intro p hp hpm
      obtain rfl : p = m := by omega
      refine r_iload_n qX4_meanHeight_9 rfl ?_
      refine r_aload_n qX4_meanHeight_10 rfl ?_
      refine r_getr qX4_meanHeight_11 fX4_17 rfl (by assumption) (by first | assumption | rfl) ?_
      refine r_iconst (v := nI 5) qX4_meanHeight_14 (by decide) ?_
      refine r_ialdN qX4_meanHeight_15 (by assumption) (by assumption) (by omega) rfl ?_
      rw [hT']
      refine r_icmp_ge (t := 33) qX4_meanHeight_16 (by decide) (fun hc16 => ?_) (fun hc16 => absurd hc16 (fun h => h (nI_le (by omega) (by omega))))
      refine r_aload_n qX4_meanHeight_33 rfl ?_
      refine r_getr qX4_meanHeight_34 fX4_17 rfl (by assumption) (by first | assumption | rfl) ?_
      refine r_iconst (v := nI 5) qX4_meanHeight_37 (by decide) ?_
      refine r_ialdN qX4_meanHeight_38 (by assumption) (by assumption) (by omega) rfl ?_
      rw [hT']
      refine r_if_ne (t := 46) qX4_meanHeight_39 (by decide) (fun hc39 => ?_) (fun hc39 => ?_)
      · have hm0 : p ≠ 0 := fun h => hc39 (by rw [h]; rfl)
        rw [sMean, if_neg hm0] at hK'
        refine r_iload_n qX4_meanHeight_46 rfl ?_
        refine r_i2d qX4_meanHeight_47 ?_
        refine r_aload_n qX4_meanHeight_48 rfl ?_
        refine r_getr qX4_meanHeight_49 fX4_17 rfl (by assumption) (by first | assumption | rfl) ?_
        refine r_iconst (v := nI 5) qX4_meanHeight_52 (by decide) ?_
        refine r_ialdN qX4_meanHeight_53 (by assumption) (by assumption) (by omega) rfl ?_
        rw [hT']
        obtain ⟨S, eS, hS⟩ := sHighs_in hO' p (by omega)
        refine r_i2d qX4_meanHeight_54 ?_
        refine r_ddiv qX4_meanHeight_55 (by rw [eS]; exact nf64 (by omega) hT8 hm0) ?_
        refine r_dret qX4_meanHeight_56 rfl rfl rfl ?_
        exact hK'
      · have hm0 : p = 0 := (nI_eq (by omega) (by omega)).mp hc39
        rw [sMean, if_pos hm0] at hK'
        refine r_dconst0 qX4_meanHeight_42 ?_
        refine r_goto (t := 56) qX4_meanHeight_43 (by decide) ?_
        refine r_dret qX4_meanHeight_56 rfl rfl rfl ?_
        exact hK'
    | succ q ih =>
      intro p hp hpm
      have hpl : p < m := by omega
      have hk' : p < zn (i' n 5) := by rw [hmm']; exact hpl
      have hf' := hO'.f hk'
      have h8 := hO'.k8 hk'
      refine r_iload_n qX4_meanHeight_9 rfl ?_
      refine r_aload_n qX4_meanHeight_10 rfl ?_
      refine r_getr qX4_meanHeight_11 fX4_17 rfl (by assumption) (by first | assumption | rfl) ?_
      refine r_iconst (v := nI 5) qX4_meanHeight_14 (by decide) ?_
      refine r_ialdN qX4_meanHeight_15 (by assumption) (by assumption) (by omega) rfl ?_
      rw [hT']
      refine r_icmp_ge (t := 33) qX4_meanHeight_16 (by decide) (fun hc16 => absurd hc16 (nI_ge hpl (by omega))) (fun hc16 => ?_)
      refine r_iload_n qX4_meanHeight_19 rfl ?_
      refine r_aload_n qX4_meanHeight_20 rfl ?_
      refine r_iload_n qX4_meanHeight_21 rfl ?_
      refine r_cv1 (cu2 := 0) (su2 := 0) qX4_meanHeight_22 kX4_186 rfl (by decide +kernel) (c := 4) (by assumption) (by decide) rfl rfl rfl rfl rfl rfl ?_
      refine c_X4_heightNow hM' hf' ?_
      show zR E _ _ X 25 _ _ _ _ _ _ _
      first | with_reducible refine r_iaddN qX4_meanHeight_25 ?_ | refine r_iadd qX4_meanHeight_25 ?_
      refine r_is_3_1 qX4_meanHeight_26 rfl rfl ?_
      refine r_ii_3_2 qX4_meanHeight_27 rfl rfl (nI_inc p) ?_
      refine r_goto (t := 9) qX4_meanHeight_30 (by decide) ?_
      have z := ih (p + 1) (by omega) (by omega); rw [sHighs] at z; exact z
  refine r_aload_n qX4_meanHeight_0 rfl ?_
  refine r_iconst (v := nI 0) qX4_meanHeight_1 (by decide) ?_
  refine r_puti qX4_meanHeight_2 fX4_3 (Or.inl rfl) rfl rfl rfl (by assumption) ?_
  generalize hi : wA i x (upd (i x) 0 (nI 0)) = i' at hK ⊢
  have hn : i' n = i n := by rw [← hi]; exact wA_n nx
  clear hi
  have hO' : zOk (i' n) := by rw [hn]; exact hO
  refine r_iconst (v := nI 0) qX4_meanHeight_5 (by decide) ?_
  refine r_is_3_1 qX4_meanHeight_6 rfl rfl ?_
  refine r_iconst (v := nI 0) qX4_meanHeight_7 (by decide) ?_
  refine r_is_3_2 qX4_meanHeight_8 rfl rfl ?_
  exact KL i' hO' (by rw [hn]; exact hT) (by rw [hn]; exact hmm) (by rw [hn]; exact hK) m 0 (by omega) (by omega)

