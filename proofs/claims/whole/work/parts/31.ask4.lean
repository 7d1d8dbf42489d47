/-! ===== missedPoints, settledShare, meanHeight ===== -/
theorem sMiss_e {N : Nat → Int32} {k p : Nat} (h : sTells N k (sHgt N k p) = nI 10 * sDeg N k p) : sMiss N k p = nI 0 := if_pos h
theorem sMiss_n {N : Nat → Int32} {k p : Nat} (h : ¬ sTells N k (sHgt N k p) = nI 10 * sDeg N k p) : sMiss N k p = nI 1 := if_neg h
set_option maxHeartbeats 4000000 in
set_option maxRecDepth 20000 in
theorem c_X4_missedPoints {E : Ev} {g : Sh} {i : Ni} {j : Nj} {K : Kp} {x n d b p s o : Nat} (hB : zB g i x n d b p s o) (hK : K (.inl (some (.int (sMissed (i n) (zn (i n 5)))))) g (wA i x (upd (i x) 0 (nI 0))) j) : zCon E mX4_missedPoints [.ref x] g i j K := by
  refine zcon_of (by decide +kernel) rfl rfl (lo := [.ref x, zJ, zJ, zJ, zJ]) rfl (fun X => ?_)
  have hB' := hB
  obtain ⟨hW, hR3, hO⟩ := hB
  have w1 := hW.1
  have w2 := hW.2.1
  obtain ⟨w8, w9⟩ := hW.2.2.2.2.2.2.2.1
  have nx := hW.nx
  have hM' := hW.m hR3
  obtain ⟨hT, hT8⟩ := hO.T8
  generalize hmm : zn (i n 5) = m at *
  have KL : ∀ i' : Ni, i' n = i n → K (.inl (some (.int (sMissed (i n) m)))) g i' j → ∀ q p : Nat, ∀ a c : Value, a.category = 1 → q = m - p → p ≤ m → zR E mX4_missedPoints (zZ E mX4_missedPoints K) X 9 [.ref x, .int (sMissed (i n) p), .int (nI p), a, c] [] g i' j 0 0 := by
    intro i' hn hK' q
    have hO' : zOk (i' n) := by rw [hn]; exact hO
    induction q with
    | zero =>
      intro p a c ha hp hpm
      obtain rfl : p = m := by omega
      refine r_iload_n qX4_missedPoints_9 rfl ?_
      refine r_aload_n qX4_missedPoints_10 rfl ?_
      refine r_getr qX4_missedPoints_11 fX4_17 rfl (by assumption) (by first | assumption | rfl) ?_
      refine r_iconst (v := nI 5) qX4_missedPoints_14 (by decide) ?_
      refine r_ialdN qX4_missedPoints_15 (by assumption) (by assumption) (by omega) rfl ?_
      rw [hn, hT]
      refine r_icmp_ge (t := 87) qX4_missedPoints_16 (by decide) (fun hc16 => ?_) (fun hc16 => absurd hc16 (fun h => h (nI_le (by omega) (by omega))))
      refine r_iload_n qX4_missedPoints_87 rfl ?_
      refine r_iret qX4_missedPoints_88 rfl rfl rfl rfl ?_
      exact hK'
    | succ q ih =>
      intro p a c ha hp hpm
      have hk : p < zn (i n 5) := by omega
      have hk' : p < zn (i' n 5) := by rw [hn]; exact hk
      have h8 := hO.k8 hk
      obtain ⟨hm, hm6⟩ := hO.many hk
      have KE : ∀ (v : Int32) (a c : Value), a.category = 1 → v = sMissed (i n) (p + 1) → zR E mX4_missedPoints (zZ E mX4_missedPoints K) X 81 [.ref x, .int v, .int (nI p), a, c] [] g i' j 0 0 := by
        intro v a c ha hv
        subst hv
        refine r_ii_5_2 qX4_missedPoints_81 rfl rfl (nI_inc p) ?_
        refine r_goto (t := 9) qX4_missedPoints_84 (by decide) ?_
        exact ih (p + 1) a c ha (by omega) (by omega)
      by_cases h2m : 2 ≤ sMany (i n) p
      · skip
        have l1 := sBy_lt (sDeg (i n) p) (nI 1) (m := sMany (i n) p) (by omega)
        have l2 := sBy_lt (sDeg (i n) p) (-1) (m := sMany (i n) p) (by omega)
        have eM : sMissed (i n) (p + 1) = sMissed (i n) p + sMiss (i n) p (sBy (sDeg (i n) p) (-1) (sMany (i n) p)) + sMiss (i n) p (sBy (sDeg (i n) p) (nI 1) (sMany (i n) p)) := by rw [sMissed, if_pos h2m]
        have K2 : ∀ (v : Int32) (c : Value), v = sMissed (i n) p + sMiss (i n) p (sBy (sDeg (i n) p) (-1) (sMany (i n) p)) → zR E mX4_missedPoints (zZ E mX4_missedPoints K) X 21 [.ref x, .int v, .int (nI p), .int (nI 1), c] [] g i' j 0 0 := by
          intro v c hv
          have K3 : ∀ (v : Int32) (c : Value), v = sMissed (i n) (p + 1) → zR E mX4_missedPoints (zZ E mX4_missedPoints K) X 21 [.ref x, .int v, .int (nI p), .int (nI 3), c] [] g i' j 0 0 := by
            intro v c hv
            refine r_iload_n qX4_missedPoints_21 rfl ?_
            refine r_iconst (v := nI 2) qX4_missedPoints_22 (by decide) ?_
            refine r_icmp_ge (t := 81) qX4_missedPoints_23 (by decide) (fun hc23 => ?_) (fun hc23 => absurd hc23 (by decide))
            exact KE v _ c rfl hv
          refine r_iload_n qX4_missedPoints_21 rfl ?_
          refine r_iconst (v := nI 2) qX4_missedPoints_22 (by decide) ?_
          refine r_icmp_ge (t := 81) qX4_missedPoints_23 (by decide) (fun hc23 => absurd hc23 (by decide)) (fun hc23 => ?_)
          refine r_aload_n qX4_missedPoints_26 rfl ?_
          refine r_iload_n qX4_missedPoints_27 rfl ?_
          refine r_cv1 (cu2 := 0) (su2 := 0) qX4_missedPoints_28 kX4_416 rfl (by decide +kernel) (c := 4) (by assumption) (by decide) rfl rfl rfl rfl rfl rfl ?_
          refine c_X4_isScaled hM' hO' hk' ?_
          show zR E _ _ X 31 _ _ _ _ _ _ _
          rw [hn, zb_t h2m]
          refine r_if_eq (t := 81) qX4_missedPoints_31 (by decide) (fun hc31 => absurd hc31 (by decide)) (fun hc31 => ?_)
          refine r_aload_n qX4_missedPoints_34 rfl ?_
          refine r_iload_n qX4_missedPoints_35 rfl ?_
          refine r_iload_n qX4_missedPoints_36 rfl ?_
          skip
          refine r_cv2 (cu2 := 0) (su2 := 0) qX4_missedPoints_37 kX4_192 rfl (by decide +kernel) (c := 4) (by assumption) (by decide) rfl rfl rfl rfl rfl rfl ?_
          refine c_X4_pointBy hM' hO' hk' ?_
          show zR E _ _ X 40 _ _ _ _ _ _ _
          rw [hn]
          refine r_is_5_4 qX4_missedPoints_40 rfl rfl ?_
          refine r_iload_n qX4_missedPoints_42 rfl ?_
          refine r_aload_n qX4_missedPoints_43 rfl ?_
          refine r_iload_n qX4_missedPoints_44 rfl ?_
          refine r_aload_n qX4_missedPoints_45 rfl ?_
          refine r_iload_n qX4_missedPoints_46 rfl ?_
          refine r_iload qX4_missedPoints_47 rfl ?_
          refine r_cv2 (cu2 := 0) (su2 := 0) qX4_missedPoints_49 kX4_175 rfl (by decide +kernel) (c := 4) (by assumption) (by decide) rfl rfl rfl rfl rfl rfl ?_
          refine c_X4_heightOf hM' h8 (by omega) ?_
          show zR E _ _ X 52 _ _ _ _ _ _ _
          refine r_cv2 (cu2 := 0) (su2 := 0) qX4_missedPoints_52 kX4_195 rfl (by decide +kernel) (c := 4) (by assumption) (by decide) rfl rfl rfl rfl rfl rfl ?_
          refine c_X4_tells hM' hO' hk' (by rw [hn]; exact h2m) ?_
          show zR E _ _ X 55 _ _ _ _ _ _ _
          refine r_bipush (v := nI 10) qX4_missedPoints_55 (by decide) ?_
          refine r_aload_n qX4_missedPoints_57 rfl ?_
          refine r_iload_n qX4_missedPoints_58 rfl ?_
          refine r_iload qX4_missedPoints_59 rfl ?_
          refine r_cv2 (cu2 := 0) (su2 := 0) qX4_missedPoints_61 kX4_172 rfl (by decide +kernel) (c := 4) (by assumption) (by decide) rfl rfl rfl rfl rfl rfl ?_
          refine c_X4_degreesOf hM' h8 (by omega) ?_
          show zR E _ _ X 64 _ _ _ _ _ _ _
          first | with_reducible refine r_imulN qX4_missedPoints_64 ?_ | refine r_imul qX4_missedPoints_64 ?_
          rw [hn]
          refine r_icmp_eq (t := 72) qX4_missedPoints_65 (by decide) (fun hc65 => ?_) (fun hc65 => ?_)
          · refine r_iconst (v := nI 0) qX4_missedPoints_72 (by decide) ?_
            first | with_reducible refine r_iaddN qX4_missedPoints_73 ?_ | refine r_iadd qX4_missedPoints_73 ?_
            refine r_is_5_1 qX4_missedPoints_74 rfl rfl ?_
            refine r_ii_5_3 qX4_missedPoints_75 rfl rfl rfl ?_
            refine r_goto (t := 21) qX4_missedPoints_78 (by decide) ?_
            refine K3 _ _ ?_
            rw [eM, hv]
            first | rw [sMiss_e hc65] | rw [sMiss_n hc65]
          · refine r_iconst (v := nI 1) qX4_missedPoints_68 (by decide) ?_
            refine r_goto (t := 73) qX4_missedPoints_69 (by decide) ?_
            first | with_reducible refine r_iaddN qX4_missedPoints_73 ?_ | refine r_iadd qX4_missedPoints_73 ?_
            refine r_is_5_1 qX4_missedPoints_74 rfl rfl ?_
            refine r_ii_5_3 qX4_missedPoints_75 rfl rfl rfl ?_
            refine r_goto (t := 21) qX4_missedPoints_78 (by decide) ?_
            refine K3 _ _ ?_
            rw [eM, hv]
            first | rw [sMiss_e hc65] | rw [sMiss_n hc65]
        have K1 : ∀ c : Value, zR E mX4_missedPoints (zZ E mX4_missedPoints K) X 21 [.ref x, .int (sMissed (i n) p), .int (nI p), .int (-1), c] [] g i' j 0 0 := by
          intro c
          refine r_iload_n qX4_missedPoints_21 rfl ?_
          refine r_iconst (v := nI 2) qX4_missedPoints_22 (by decide) ?_
          refine r_icmp_ge (t := 81) qX4_missedPoints_23 (by decide) (fun hc23 => absurd hc23 (by decide)) (fun hc23 => ?_)
          refine r_aload_n qX4_missedPoints_26 rfl ?_
          refine r_iload_n qX4_missedPoints_27 rfl ?_
          refine r_cv1 (cu2 := 0) (su2 := 0) qX4_missedPoints_28 kX4_416 rfl (by decide +kernel) (c := 4) (by assumption) (by decide) rfl rfl rfl rfl rfl rfl ?_
          refine c_X4_isScaled hM' hO' hk' ?_
          show zR E _ _ X 31 _ _ _ _ _ _ _
          rw [hn, zb_t h2m]
          refine r_if_eq (t := 81) qX4_missedPoints_31 (by decide) (fun hc31 => absurd hc31 (by decide)) (fun hc31 => ?_)
          refine r_aload_n qX4_missedPoints_34 rfl ?_
          refine r_iload_n qX4_missedPoints_35 rfl ?_
          refine r_iload_n qX4_missedPoints_36 rfl ?_
          refine r_cv2 (cu2 := 0) (su2 := 0) qX4_missedPoints_37 kX4_192 rfl (by decide +kernel) (c := 4) (by assumption) (by decide) rfl rfl rfl rfl rfl rfl ?_
          refine c_X4_pointBy hM' hO' hk' ?_
          show zR E _ _ X 40 _ _ _ _ _ _ _
          rw [hn]
          refine r_is_5_4 qX4_missedPoints_40 rfl rfl ?_
          refine r_iload_n qX4_missedPoints_42 rfl ?_
          refine r_aload_n qX4_missedPoints_43 rfl ?_
          refine r_iload_n qX4_missedPoints_44 rfl ?_
          refine r_aload_n qX4_missedPoints_45 rfl ?_
          refine r_iload_n qX4_missedPoints_46 rfl ?_
          refine r_iload qX4_missedPoints_47 rfl ?_
          refine r_cv2 (cu2 := 0) (su2 := 0) qX4_missedPoints_49 kX4_175 rfl (by decide +kernel) (c := 4) (by assumption) (by decide) rfl rfl rfl rfl rfl rfl ?_
          refine c_X4_heightOf hM' h8 (by omega) ?_
          show zR E _ _ X 52 _ _ _ _ _ _ _
          refine r_cv2 (cu2 := 0) (su2 := 0) qX4_missedPoints_52 kX4_195 rfl (by decide +kernel) (c := 4) (by assumption) (by decide) rfl rfl rfl rfl rfl rfl ?_
          refine c_X4_tells hM' hO' hk' (by rw [hn]; exact h2m) ?_
          show zR E _ _ X 55 _ _ _ _ _ _ _
          refine r_bipush (v := nI 10) qX4_missedPoints_55 (by decide) ?_
          refine r_aload_n qX4_missedPoints_57 rfl ?_
          refine r_iload_n qX4_missedPoints_58 rfl ?_
          refine r_iload qX4_missedPoints_59 rfl ?_
          refine r_cv2 (cu2 := 0) (su2 := 0) qX4_missedPoints_61 kX4_172 rfl (by decide +kernel) (c := 4) (by assumption) (by decide) rfl rfl rfl rfl rfl rfl ?_
          refine c_X4_degreesOf hM' h8 (by omega) ?_
          show zR E _ _ X 64 _ _ _ _ _ _ _
          first | with_reducible refine r_imulN qX4_missedPoints_64 ?_ | refine r_imul qX4_missedPoints_64 ?_
          rw [hn]
          refine r_icmp_eq (t := 72) qX4_missedPoints_65 (by decide) (fun hc65 => ?_) (fun hc65 => ?_)
          · refine r_iconst (v := nI 0) qX4_missedPoints_72 (by decide) ?_
            first | with_reducible refine r_iaddN qX4_missedPoints_73 ?_ | refine r_iadd qX4_missedPoints_73 ?_
            refine r_is_5_1 qX4_missedPoints_74 rfl rfl ?_
            refine r_ii_5_3 qX4_missedPoints_75 rfl rfl (show (-1 : Int32) + Int32.ofInt 2 = nI 1 by decide) ?_
            refine r_goto (t := 21) qX4_missedPoints_78 (by decide) ?_
            refine K2 _ _ ?_
            first | rw [sMiss_e hc65] | rw [sMiss_n hc65]
          · refine r_iconst (v := nI 1) qX4_missedPoints_68 (by decide) ?_
            refine r_goto (t := 73) qX4_missedPoints_69 (by decide) ?_
            first | with_reducible refine r_iaddN qX4_missedPoints_73 ?_ | refine r_iadd qX4_missedPoints_73 ?_
            refine r_is_5_1 qX4_missedPoints_74 rfl rfl ?_
            refine r_ii_5_3 qX4_missedPoints_75 rfl rfl (show (-1 : Int32) + Int32.ofInt 2 = nI 1 by decide) ?_
            refine r_goto (t := 21) qX4_missedPoints_78 (by decide) ?_
            refine K2 _ _ ?_
            first | rw [sMiss_e hc65] | rw [sMiss_n hc65]
        refine r_iload_n qX4_missedPoints_9 rfl ?_
        refine r_aload_n qX4_missedPoints_10 rfl ?_
        refine r_getr qX4_missedPoints_11 fX4_17 rfl (by assumption) (by first | assumption | rfl) ?_
        refine r_iconst (v := nI 5) qX4_missedPoints_14 (by decide) ?_
        refine r_ialdN qX4_missedPoints_15 (by assumption) (by assumption) (by omega) rfl ?_
        rw [hn, hT]
        refine r_icmp_ge (t := 87) qX4_missedPoints_16 (by decide) (fun hc16 => absurd hc16 (nI_ge (by omega) (by omega))) (fun hc16 => ?_)
        refine r_iconst (v := (-1)) qX4_missedPoints_19 (by decide) ?_
        refine r_is_5_3 qX4_missedPoints_20 rfl rfl ?_
        exact K1 c
      · skip
        have eM : sMissed (i n) (p + 1) = sMissed (i n) p := by rw [sMissed, if_neg h2m]
        refine r_iload_n qX4_missedPoints_9 rfl ?_
        refine r_aload_n qX4_missedPoints_10 rfl ?_
        refine r_getr qX4_missedPoints_11 fX4_17 rfl (by assumption) (by first | assumption | rfl) ?_
        refine r_iconst (v := nI 5) qX4_missedPoints_14 (by decide) ?_
        refine r_ialdN qX4_missedPoints_15 (by assumption) (by assumption) (by omega) rfl ?_
        rw [hn, hT]
        refine r_icmp_ge (t := 87) qX4_missedPoints_16 (by decide) (fun hc16 => absurd hc16 (nI_ge (by omega) (by omega))) (fun hc16 => ?_)
        refine r_iconst (v := (-1)) qX4_missedPoints_19 (by decide) ?_
        refine r_is_5_3 qX4_missedPoints_20 rfl rfl ?_
        refine r_iload_n qX4_missedPoints_21 rfl ?_
        refine r_iconst (v := nI 2) qX4_missedPoints_22 (by decide) ?_
        refine r_icmp_ge (t := 81) qX4_missedPoints_23 (by decide) (fun hc23 => absurd hc23 (by decide)) (fun hc23 => ?_)
        refine r_aload_n qX4_missedPoints_26 rfl ?_
        refine r_iload_n qX4_missedPoints_27 rfl ?_
        refine r_cv1 (cu2 := 0) (su2 := 0) qX4_missedPoints_28 kX4_416 rfl (by decide +kernel) (c := 4) (by assumption) (by decide) rfl rfl rfl rfl rfl rfl ?_
        refine c_X4_isScaled hM' hO' hk' ?_
        show zR E _ _ X 31 _ _ _ _ _ _ _
        rw [hn, zb_f h2m]
        refine r_if_eq (t := 81) qX4_missedPoints_31 (by decide) (fun hc31 => ?_) (fun hc31 => absurd hc31 (by decide))
        exact KE _ _ c rfl eM.symm
  refine r_aload_n qX4_missedPoints_0 rfl ?_
  refine r_iconst (v := nI 0) qX4_missedPoints_1 (by decide) ?_
  refine r_puti qX4_missedPoints_2 fX4_3 (Or.inl rfl) rfl rfl rfl (by assumption) ?_
  generalize hi : wA i x (upd (i x) 0 (nI 0)) = i' at hK ⊢
  have hn : i' n = i n := by rw [← hi]; exact wA_n nx
  refine r_iconst (v := nI 0) qX4_missedPoints_5 (by decide) ?_
  refine r_is_5_1 qX4_missedPoints_6 rfl rfl ?_
  refine r_iconst (v := nI 0) qX4_missedPoints_7 (by decide) ?_
  refine r_is_5_2 qX4_missedPoints_8 rfl rfl ?_
  exact KL i' hn hK m 0 _ _ rfl (by omega) (by omega)

