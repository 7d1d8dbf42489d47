/-! ===== THE CLASS: A TUBE'S POINTS; A TUBE COPIED ===== -/
set_option maxHeartbeats 4000000 in
set_option maxRecDepth 20000 in
theorem c_X2_addPoint {E : Ev} {g : Sh} {i : Ni} {j : Nj} {K : Kp} {u d h m : Nat} {a b : Int32} (hT : zT3 g u d h) (hm : i u 3 = nI m) (hm6 : m < 6) (hK : K (.inl none) g (wA (wA (wA i d (upd (i d) m a)) h (upd (i h) m b)) u (upd (i u) 3 (nI (m + 1)))) j) : zCon E mX2_addPoint [.ref u, .int a, .int b] g i j K := by
  refine zcon_of (by decide +kernel) rfl rfl (lo := [.ref u, .int a, .int b]) rfl (fun X => ?_)
  obtain ⟨w1, w2, w3, w4, w5, w6, w7, w8⟩ := id hT
  have ud : u ≠ d := by rintro rfl; omega
  have uh : u ≠ h := by rintro rfl; omega
  have hd := Ne.symm w8
  refine r_aload_n qX2_addPoint_0 rfl ?_
  refine r_geti qX2_addPoint_1 fX2_34 rfl (by assumption) ?_
  rw [hm]
  refine r_bipush (v := nI 6) qX2_addPoint_4 (by decide) ?_
  refine r_icmp_ge (t := 39) qX2_addPoint_6 (by decide) (fun hc6 => absurd hc6 (nI_ge (by omega) (by omega))) (fun hc6 => ?_)
  refine r_aload_n qX2_addPoint_9 rfl ?_
  refine r_getr qX2_addPoint_10 fX2_15 rfl (by assumption) (by first | assumption | rfl) ?_
  refine r_aload_n qX2_addPoint_13 rfl ?_
  refine r_geti qX2_addPoint_14 fX2_34 rfl (by assumption) ?_
  rw [hm]
  refine r_iload_n qX2_addPoint_17 rfl ?_
  refine r_iastN qX2_addPoint_18 (by assumption) (by assumption) (by omega) rfl ?_
  refine r_aload_n qX2_addPoint_19 rfl ?_
  refine r_getr qX2_addPoint_20 fX2_19 rfl (by assumption) (by first | assumption | rfl) ?_
  refine r_aload_n qX2_addPoint_23 rfl ?_
  refine r_geti qX2_addPoint_24 fX2_34 rfl (by assumption) ?_
  rw [wA_n ud, hm]
  refine r_iload_n qX2_addPoint_27 rfl ?_
  refine r_iastN qX2_addPoint_28 (by assumption) (by assumption) (by omega) rfl ?_
  rw [wA_n hd]
  refine r_aload_n qX2_addPoint_29 rfl ?_
  refine r_dup qX2_addPoint_30 rfl ?_
  refine r_geti qX2_addPoint_31 fX2_34 rfl (by assumption) ?_
  rw [wA_n uh, wA_n ud, hm]
  refine r_iconst (v := nI 1) qX2_addPoint_34 (by decide) ?_
  first | with_reducible refine r_iaddN qX2_addPoint_35 ?_ | refine r_iadd qX2_addPoint_35 ?_
  refine r_puti qX2_addPoint_36 fX2_34 (Or.inl rfl) rfl rfl rfl (by assumption) ?_
  rw [wA_n uh, wA_n ud]
  refine r_vret qX2_addPoint_39 rfl rfl rfl ?_
  exact hK
/-- points from q on go down by one, up to e -/
def sPull (f : Nat → Int32) (q : Nat) (e : Nat) : Nat → Int32 := fun p => if q ≤ p ∧ p < e then f (p + 1) else f p
theorem sPull_0 {f : Nat → Int32} {q : Nat} : sPull f q q = f := by
  funext p
  simp only [sPull]
  rw [if_neg (by omega)]
theorem sPull_s {f : Nat → Int32} {q e : Nat} (h : q ≤ e) : upd (sPull f q e) e (sPull f q e (e + 1)) = sPull f q (e + 1) := by
  funext p
  simp only [upd, sPull]
  by_cases hp : p = e
  · subst hp
    rw [if_pos rfl, if_neg (by omega), if_pos (by omega)]
  · rw [if_neg hp]
    by_cases h2 : q ≤ p ∧ p < e
    · rw [if_pos h2, if_pos (by omega)]
    · rw [if_neg h2, if_neg (by omega)]
set_option maxHeartbeats 4000000 in
set_option maxRecDepth 20000 in
theorem c_X2_removePoint {E : Ev} {g : Sh} {i : Ni} {j : Nj} {K : Kp} {u d h m q : Nat} (hT : zT3 g u d h) (hm : i u 3 = nI m) (hm6 : m ≤ 6) (hq : q < m) (hK : ∀ i' : Ni, i' u = upd (i u) 3 (nI (m - 1)) → i' d = sPull (i d) q (m - 1) → i' h = sPull (i h) q (m - 1) → (∀ r, r ≠ u → r ≠ d → r ≠ h → i' r = i r) → K (.inl none) g i' j) : zCon E mX2_removePoint [.ref u, .int (nI q)] g i j K := by
  refine zcon_of (by decide +kernel) rfl rfl (lo := [.ref u, .int (nI q), zJ]) rfl (fun X => ?_)
  obtain ⟨w1, w2, w3, w4, w5, w6, w7, w8⟩ := id hT
  have ud : u ≠ d := by rintro rfl; omega
  have uh : u ≠ h := by rintro rfl; omega
  have hd := Ne.symm w8
  have du := Ne.symm ud
  have hu := Ne.symm uh
  have K25 : ∀ n e : Nat, e + n = m - 1 → q ≤ e → ∀ i1 : Ni, i1 u = upd (i u) 3 (nI (m - 1)) → i1 d = sPull (i d) q e → i1 h = sPull (i h) q e → (∀ r, r ≠ u → r ≠ d → r ≠ h → i1 r = i r) → zR E mX2_removePoint (zZ E mX2_removePoint K) X 25 [.ref u, .int (nI q), .int (nI e)] [] g i1 j 0 0 := by
    intro n
    induction n with
    | zero =>
      intro e he hqe i1 g1 g2 g3 g4
      obtain rfl : e = m - 1 := by omega
      refine r_iload_n qX2_removePoint_25 rfl ?_
      refine r_aload_n qX2_removePoint_26 rfl ?_
      refine r_geti qX2_removePoint_27 fX2_34 rfl (by assumption) ?_
      rw [g1, pk_us]
      refine r_icmp_ge (t := 67) qX2_removePoint_30 (by decide) (fun hc30 => ?_) (fun hc30 => absurd hc30 (fun h => h (nI_le (by omega) (by omega))))
      refine r_vret qX2_removePoint_67 rfl rfl rfl ?_
      exact hK i1 g1 g2 g3 g4
    | succ n ih =>
      intro e he hqe i1 g1 g2 g3 g4
      refine r_iload_n qX2_removePoint_25 rfl ?_
      refine r_aload_n qX2_removePoint_26 rfl ?_
      refine r_geti qX2_removePoint_27 fX2_34 rfl (by assumption) ?_
      rw [g1, pk_us]
      refine r_icmp_ge (t := 67) qX2_removePoint_30 (by decide) (fun hc30 => absurd hc30 (nI_ge (by omega) (by omega))) (fun hc30 => ?_)
      refine r_aload_n qX2_removePoint_33 rfl ?_
      refine r_getr qX2_removePoint_34 fX2_15 rfl (by assumption) (by first | assumption | rfl) ?_
      refine r_iload_n qX2_removePoint_37 rfl ?_
      refine r_aload_n qX2_removePoint_38 rfl ?_
      refine r_getr qX2_removePoint_39 fX2_15 rfl (by assumption) (by first | assumption | rfl) ?_
      refine r_iload_n qX2_removePoint_42 rfl ?_
      refine r_iconst (v := nI 1) qX2_removePoint_43 (by decide) ?_
      first | with_reducible refine r_iaddN qX2_removePoint_44 ?_ | refine r_iadd qX2_removePoint_44 ?_
      refine r_ialdN qX2_removePoint_45 (by assumption) (by assumption) (by omega) rfl ?_
      rw [g2]
      refine r_iastN qX2_removePoint_46 (by assumption) (by assumption) (by omega) rfl ?_
      refine r_aload_n qX2_removePoint_47 rfl ?_
      refine r_getr qX2_removePoint_48 fX2_19 rfl (by assumption) (by first | assumption | rfl) ?_
      refine r_iload_n qX2_removePoint_51 rfl ?_
      refine r_aload_n qX2_removePoint_52 rfl ?_
      refine r_getr qX2_removePoint_53 fX2_19 rfl (by assumption) (by first | assumption | rfl) ?_
      refine r_iload_n qX2_removePoint_56 rfl ?_
      refine r_iconst (v := nI 1) qX2_removePoint_57 (by decide) ?_
      first | with_reducible refine r_iaddN qX2_removePoint_58 ?_ | refine r_iadd qX2_removePoint_58 ?_
      refine r_ialdN qX2_removePoint_59 (by assumption) (by assumption) (by omega) rfl ?_
      rw [wA_n hd, g3]
      refine r_iastN qX2_removePoint_60 (by assumption) (by assumption) (by omega) rfl ?_
      simp only [g2, g3, wA_n hd, sPull_s hqe]
      refine r_ii_3_2 qX2_removePoint_61 rfl rfl (nI_inc e) ?_
      refine r_goto (t := 25) qX2_removePoint_64 (by decide) ?_
      exact ih (e + 1) (by omega) (by omega) _ (by rw [wA_n uh, wA_n ud]; exact g1) (by rw [wA_n w8, wA_s]) (by rw [wA_s]) (fun r a1 a2 a3 => by rw [wA_n a3, wA_n a2]; exact g4 r a1 a2 a3)
  refine r_iload_n qX2_removePoint_0 rfl ?_
  refine r_if_lt (t := 12) qX2_removePoint_1 (by decide) (fun hc1 => absurd hc1 (fun h => absurd h (Int32.not_lt.mpr (by rw [← nI_0]; exact nI_le (by omega) (by omega))))) (fun hc1 => ?_)
  refine r_iload_n qX2_removePoint_4 rfl ?_
  refine r_aload_n qX2_removePoint_5 rfl ?_
  refine r_geti qX2_removePoint_6 fX2_34 rfl (by assumption) ?_
  rw [hm]
  refine r_icmp_lt (t := 13) qX2_removePoint_9 (by decide) (fun hc9 => ?_) (fun hc9 => absurd hc9 (fun h => h (nI_lt (by omega) (by omega))))
  refine r_aload_n qX2_removePoint_13 rfl ?_
  refine r_dup qX2_removePoint_14 rfl ?_
  refine r_geti qX2_removePoint_15 fX2_34 rfl (by assumption) ?_
  rw [hm]
  refine r_iconst (v := nI 1) qX2_removePoint_18 (by decide) ?_
  refine r_isub qX2_removePoint_19 ?_
  rw [nI_sub (by omega)]
  refine r_puti qX2_removePoint_20 fX2_34 (Or.inl rfl) rfl rfl rfl (by assumption) ?_
  refine r_iload_n qX2_removePoint_23 rfl ?_
  refine r_is_3_2 qX2_removePoint_24 rfl rfl ?_
  exact K25 (m - 1 - q) q (by omega) (by omega) _ (by rw [wA_s]) (by rw [wA_n du, sPull_0]) (by rw [wA_n hu, sPull_0]) (fun r a1 a2 a3 => wA_n a1)
theorem cpy_at {f g : Nat → Int32} {n p : Nat} (h : p < n) (hn : n < 2 ^ 31) : va_cpy f g (nI 0).toNatClampNeg (nI 0).toNatClampNeg (nI n).toNatClampNeg p = f p := by
  rw [nI_clamp hn, nI_clamp (show 0 < 2 ^ 31 by decide)]
  show (if 0 ≤ p ∧ p < 0 + n then f (0 + (p - 0)) else g p) = f p
  rw [if_pos ⟨Nat.zero_le _, by omega⟩, Nat.sub_zero, Nat.zero_add]
set_option maxHeartbeats 4000000 in
set_option maxRecDepth 20000 in
theorem c_X2_copyFrom {E : Ev} {g : Sh} {i : Ni} {j : Nj} {K : Kp} {u d h u' d' h' : Nat} (hT : zT3 g u d h) (hT' : zT3 g u' d' h') (nu : u ≠ u') (nd : d ≠ d') (ndh : d ≠ h') (nhd : h ≠ d') (nh : h ≠ h') (hn : ∀ f, f = 13 → i u' f = nI 0 ∨ i u' f = nI 1) (hK : ∀ i' : Ni, i' u 0 = i u 0 → (∀ f, 3 ≤ f → f < 17 → i' u f = i u' f) → (∀ p, p < 6 → i' d p = i d' p) → (∀ p, p < 6 → i' h p = i h' p) → (∀ r, r ≠ u → r ≠ d → r ≠ h → i' r = i r) → K (.inl none) g i' j) : zCon E mX2_copyFrom [.ref u, .ref u'] g i j K := by
  refine zcon_of (by decide +kernel) rfl rfl (lo := [.ref u, .ref u']) rfl (fun X => ?_)
  obtain ⟨w1, w2, w3, w4, w5, w6, w7, w8⟩ := id hT
  obtain ⟨v1, v2, v3, v4, v5, v6, v7, v8⟩ := id hT'
  have ud : u ≠ d := by rintro rfl; omega
  have uh : u ≠ h := by rintro rfl; omega
  have hd := Ne.symm w8
  have du := Ne.symm ud
  have hu := Ne.symm uh
  have u'd : u' ≠ d := by rintro rfl; omega
  have u'h : u' ≠ h := by rintro rfl; omega
  have nu' := Ne.symm nu
  have nhd' := Ne.symm nhd
  have nh' := Ne.symm nh
  have K30 : ∀ i1 : Ni, i1 u = i u → i1 u' = i u' → (∀ p, p < 6 → i1 d p = i d' p) → (∀ p, p < 6 → i1 h p = i h' p) → (∀ r, r ≠ u → r ≠ d → r ≠ h → i1 r = i r) → zR E mX2_copyFrom (zZ E mX2_copyFrom K) X 30 [.ref u, .ref u'] [] g i1 j 0 0 := by
    intro i1 g1 g2 g3 g4 g5
    have e13 : fits .boolean (.int (i u' 13)) = true := by rcases hn 13 rfl with e | e <;> rw [e] <;> decide
    have n13 : narrow .boolean (.int (i u' 13)) = .int (i u' 13) := by rcases hn 13 rfl with e | e <;> rw [e] <;> decide
    refine r_aload_n qX2_copyFrom_30 rfl ?_
    refine r_aload_n qX2_copyFrom_31 rfl ?_
    refine r_geti qX2_copyFrom_32 fX2_34 rfl (by assumption) ?_
    rw [g2]
    refine r_puti qX2_copyFrom_35 fX2_34 (Or.inl rfl) rfl rfl rfl (by assumption) ?_
    refine r_aload_n qX2_copyFrom_38 rfl ?_
    refine r_aload_n qX2_copyFrom_39 rfl ?_
    refine r_geti qX2_copyFrom_40 fX2_37 rfl (by assumption) ?_
    rw [wA_n nu', g2]
    refine r_puti qX2_copyFrom_43 fX2_37 (Or.inl rfl) rfl rfl rfl (by assumption) ?_
    simp only [wA_s, wA_wA]
    refine r_aload_n qX2_copyFrom_46 rfl ?_
    refine r_aload_n qX2_copyFrom_47 rfl ?_
    refine r_geti qX2_copyFrom_48 fX2_40 rfl (by assumption) ?_
    rw [wA_n nu', g2]
    refine r_puti qX2_copyFrom_51 fX2_40 (Or.inl rfl) rfl rfl rfl (by assumption) ?_
    simp only [wA_s, wA_wA]
    refine r_aload_n qX2_copyFrom_54 rfl ?_
    refine r_aload_n qX2_copyFrom_55 rfl ?_
    refine r_geti qX2_copyFrom_56 fX2_43 rfl (by assumption) ?_
    rw [wA_n nu', g2]
    refine r_puti qX2_copyFrom_59 fX2_43 (Or.inl rfl) rfl rfl rfl (by assumption) ?_
    simp only [wA_s, wA_wA]
    refine r_aload_n qX2_copyFrom_62 rfl ?_
    refine r_aload_n qX2_copyFrom_63 rfl ?_
    refine r_geti qX2_copyFrom_64 fX2_46 rfl (by assumption) ?_
    rw [wA_n nu', g2]
    refine r_puti qX2_copyFrom_67 fX2_46 (Or.inl rfl) rfl rfl rfl (by assumption) ?_
    simp only [wA_s, wA_wA]
    refine r_aload_n qX2_copyFrom_70 rfl ?_
    refine r_aload_n qX2_copyFrom_71 rfl ?_
    refine r_geti qX2_copyFrom_72 fX2_22 rfl (by assumption) ?_
    rw [wA_n nu', g2]
    refine r_puti qX2_copyFrom_75 fX2_22 (Or.inl rfl) rfl rfl rfl (by assumption) ?_
    simp only [wA_s, wA_wA]
    refine r_aload_n qX2_copyFrom_78 rfl ?_
    refine r_aload_n qX2_copyFrom_79 rfl ?_
    refine r_geti qX2_copyFrom_80 fX2_49 rfl (by assumption) ?_
    rw [wA_n nu', g2]
    refine r_puti qX2_copyFrom_83 fX2_49 (Or.inl rfl) rfl rfl rfl (by assumption) ?_
    simp only [wA_s, wA_wA]
    refine r_aload_n qX2_copyFrom_86 rfl ?_
    refine r_aload_n qX2_copyFrom_87 rfl ?_
    refine r_geti qX2_copyFrom_88 fX2_52 rfl (by assumption) ?_
    rw [wA_n nu', g2]
    refine r_puti qX2_copyFrom_91 fX2_52 (Or.inl rfl) rfl rfl rfl (by assumption) ?_
    simp only [wA_s, wA_wA]
    refine r_aload_n qX2_copyFrom_94 rfl ?_
    refine r_aload_n qX2_copyFrom_95 rfl ?_
    refine r_geti qX2_copyFrom_96 fX2_55 rfl (by assumption) ?_
    rw [wA_n nu', g2]
    refine r_puti qX2_copyFrom_99 fX2_55 (Or.inl rfl) rfl rfl rfl (by assumption) ?_
    simp only [wA_s, wA_wA]
    refine r_aload_n qX2_copyFrom_102 rfl ?_
    refine r_aload_n qX2_copyFrom_103 rfl ?_
    refine r_geti qX2_copyFrom_104 fX2_25 rfl (by assumption) ?_
    rw [wA_n nu', g2]
    refine r_puti qX2_copyFrom_107 fX2_25 (Or.inl rfl) rfl rfl rfl (by assumption) ?_
    simp only [wA_s, wA_wA]
    refine r_aload_n qX2_copyFrom_110 rfl ?_
    refine r_aload_n qX2_copyFrom_111 rfl ?_
    refine r_geti qX2_copyFrom_112 fX2_58 rfl (by assumption) ?_
    rw [wA_n nu', g2]
    refine r_puti qX2_copyFrom_115 fX2_58 (Or.inl rfl) rfl n13 e13 (by assumption) ?_
    simp only [wA_s, wA_wA]
    refine r_aload_n qX2_copyFrom_118 rfl ?_
    refine r_aload_n qX2_copyFrom_119 rfl ?_
    refine r_geti qX2_copyFrom_120 fX2_62 rfl (by assumption) ?_
    rw [wA_n nu', g2]
    refine r_puti qX2_copyFrom_123 fX2_62 (Or.inl rfl) rfl rfl rfl (by assumption) ?_
    simp only [wA_s, wA_wA]
    refine r_aload_n qX2_copyFrom_126 rfl ?_
    refine r_aload_n qX2_copyFrom_127 rfl ?_
    refine r_geti qX2_copyFrom_128 fX2_65 rfl (by assumption) ?_
    rw [wA_n nu', g2]
    refine r_puti qX2_copyFrom_131 fX2_65 (Or.inl rfl) rfl rfl rfl (by assumption) ?_
    simp only [wA_s, wA_wA]
    refine r_aload_n qX2_copyFrom_134 rfl ?_
    refine r_aload_n qX2_copyFrom_135 rfl ?_
    refine r_geti qX2_copyFrom_136 fX2_68 rfl (by assumption) ?_
    rw [wA_n nu', g2]
    refine r_puti qX2_copyFrom_139 fX2_68 (Or.inl rfl) rfl rfl rfl (by assumption) ?_
    simp only [wA_s, wA_wA]
    refine r_vret qX2_copyFrom_142 rfl rfl rfl ?_
    exact hK _ (by rw [wA_s]; simp (disch := decide) only [pk_us, pk_un, g1]) (fun f f1 f2 => by rw [wA_s]; rcases (show f = 3 ∨ f = 4 ∨ f = 5 ∨ f = 6 ∨ f = 7 ∨ f = 8 ∨ f = 9 ∨ f = 10 ∨ f = 11 ∨ f = 12 ∨ f = 13 ∨ f = 14 ∨ f = 15 ∨ f = 16 by omega) with rfl | rfl | rfl | rfl | rfl | rfl | rfl | rfl | rfl | rfl | rfl | rfl | rfl | rfl <;> simp (disch := decide) only [pk_us, pk_un]) (fun p hp => by rw [wA_n du]; exact g3 p hp) (fun p hp => by rw [wA_n hu]; exact g4 p hp) (fun r a1 a2 a3 => by rw [wA_n a1]; exact g5 r a1 a2 a3)
  refine r_aload_n qX2_copyFrom_0 rfl ?_
  refine r_getr qX2_copyFrom_1 fX2_15 rfl (by assumption) (by first | assumption | rfl) ?_
  refine r_iconst (v := nI 0) qX2_copyFrom_4 (by decide) ?_
  refine r_aload_n qX2_copyFrom_5 rfl ?_
  refine r_getr qX2_copyFrom_6 fX2_15 rfl (by assumption) (by first | assumption | rfl) ?_
  refine r_iconst (v := nI 0) qX2_copyFrom_9 (by decide) ?_
  refine r_bipush (v := nI 6) qX2_copyFrom_10 (by decide) ?_
  refine r_copyi (t := 0) qX2_copyFrom_12 kX2_28 (Or.inl rfl) (by assumption) (by assumption) (by decide) (by decide) (by decide) (by rw [v5]; decide) (by rw [w5]; decide) (Or.inl rfl) rfl rfl ?_
  refine r_aload_n qX2_copyFrom_15 rfl ?_
  refine r_getr qX2_copyFrom_16 fX2_19 rfl (by assumption) (by first | assumption | rfl) ?_
  refine r_iconst (v := nI 0) qX2_copyFrom_19 (by decide) ?_
  refine r_aload_n qX2_copyFrom_20 rfl ?_
  refine r_getr qX2_copyFrom_21 fX2_19 rfl (by assumption) (by first | assumption | rfl) ?_
  refine r_iconst (v := nI 0) qX2_copyFrom_24 (by decide) ?_
  refine r_bipush (v := nI 6) qX2_copyFrom_25 (by decide) ?_
  refine r_copyi (t := 0) qX2_copyFrom_27 kX2_28 (Or.inl rfl) (by assumption) (by assumption) (by decide) (by decide) (by decide) (by rw [v7]; decide) (by rw [w7]; decide) (Or.inl rfl) rfl rfl ?_
  exact K30 _ (by rw [wA_n uh, wA_n ud]) (by rw [wA_n u'h, wA_n u'd]) (fun p hp => by rw [wA_n w8, wA_s]; exact cpy_at hp (by decide)) (fun p hp => by rw [wA_s, cpy_at hp (by decide), wA_n (Ne.symm ndh)]) (fun r a1 a2 a3 => by rw [wA_n a3, wA_n a2])


