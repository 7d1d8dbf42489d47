/-! ===== THE MODEL LOADS ===== -/
theorem zW.wr {g : Sh} {x n d b p s o v : Nat} (h : zW g x n d b p s o) : zW (wR g x 3 v) x n d b p s o := by
  obtain ⟨w1, w2, w3, w4, w5, w6, w7, rest⟩ := h
  exact ⟨w1, by rw [gR_wR, if_pos rfl, if_neg (by decide)]; exact w2, by rw [gR_wR, if_pos rfl, if_neg (by decide)]; exact w3, by rw [gR_wR, if_pos rfl, if_neg (by decide)]; exact w4, by rw [gR_wR, if_pos rfl, if_neg (by decide)]; exact w5, by rw [gR_wR, if_pos rfl, if_neg (by decide)]; exact w6, by rw [gR_wR, if_pos rfl, if_neg (by decide)]; exact w7, rest⟩
def zLd (x : Nat) (i' i : Ni) (j' j : Nj) (c w : Int32) : Prop := i' x 0 = nI 0 ∧ i' x 5 = nI 0 ∧ i' x 32 = c ∧ i' x 33 = w ∧ i' x 31 = i x 31 ∧ i' x 35 = i x 35 ∧ (∀ m, m ≠ 10 → j' x m = j x m) ∧ ∀ q, q ≠ x → j' q = j q
set_option maxHeartbeats 4000000 in
set_option maxRecDepth 20000 in
theorem c_X4_load {E : Ev} {g : Sh} {i : Ni} {j : Nj} {K : Kp} {x n d b p s o c L : Nat} (hB : zB g i x n d b p s o) (hc : i x 29 = nI c) (hcl : c ≤ 6) (hL : i x 5 = nI L) (hL6 : L ≤ 600) (hBy : zByt (i b)) (hWd : zWd (j x)) (hK0 : ∀ c' w, mText (i b) L = .error (c', w) → ¬ c' = 0 → ∀ i' j', zLd x i' i j' j c' (nI w) → i' x 29 = nI c → (∀ r, r ≠ x → r ≠ d → i' r = i r) → K (.inl (some (.int (-7)))) g i' j') (hK1 : ∀ t N, mText (i b) L = .ok (t, N) → ∀ i' j', zLd x i' i j' j 0 (-1) → i' x 29 = nI (if c = 6 then 6 else c + 1) → i' n = N → i' p = sRem (i p) (i n) c → (∀ r, r ≠ x → r ≠ d → r ≠ n → r ≠ p → i' r = i r) → K (.inl (some (.int (N 5)))) g i' j') : zCon E mX4_load [.ref x] g i j K := by
  refine zcon_of (by decide +kernel) rfl rfl (lo := [.ref x, zJ]) rfl (fun X => ?_)
  obtain ⟨hW, hR3, hO⟩ := hB
  have w1 := hW.1
  have w2 := hW.2.1
  have w3 := hW.2.2.1
  have hW1 := hW.wr (v := d)
  have hM1 := hW.dr
  have w1' : gT (wR g x 3 d) x = 5 := hW.1
  have d1 : gR (wR g x 3 d) x 1 = n := hW.d1
  have nx := hW.nx
  have xn := Ne.symm nx
  have dx := hW.dx
  have xd := Ne.symm dx
  obtain ⟨bx, wb1, wb2⟩ := hW.bb
  obtain ⟨px, np⟩ := hW.pp
  have pn := Ne.symm np
  have xp := Ne.symm px
  obtain ⟨-, -, -, -, -, -, -, ⟨w8, w9⟩, ⟨w10, w11⟩, -, ⟨w12, w13⟩, -, -, nd, -, -, -, dp, -⟩ := id hW
  have dn := Ne.symm nd
  have db : d ≠ b := by rintro rfl; omega
  have pd := Ne.symm dp
  have K17e : ∀ (i2 : Ni) (j2 : Nj) (c' : Int32) (w : Nat), zE x d (wA i x (upd (i x) 0 (nI 0))) j c' w i2 j2 → mText (i b) L = .error (c', w) → zR E mX4_load (zZ E mX4_load K) X 17 [.ref x, zJ] [] (wR g x 3 d) i2 j2 0 0 := by
    intro i2 j2 c' w e he
    obtain ⟨e12, e0, e13, f1, f2, f3, f4⟩ := e
    have F : ∀ m, m ≠ 6 → m ≠ 7 → m ≠ 8 → m ≠ 9 → m ≠ 11 → m ≠ 12 → m ≠ 13 → m ≠ 0 → i2 x m = i x m := fun m a1 a2 a3 a4 a5 a6 a7 a8 => by rw [f1 m a1 a2 a3 a4 a5 a6 a7, wA_s, pk_un a8]
    refine r_aload_n qX4_load_17 rfl ?_
    refine r_aload_n qX4_load_18 rfl ?_
    refine r_getr qX4_load_19 fX4_17 rfl (by assumption) (by first | assumption | rfl) ?_
    refine r_putr qX4_load_22 fX4_24 (Or.inl rfl) rfl (by assumption) ?_
    rw [hW.bk hR3]
    refine r_aload_n qX4_load_25 rfl ?_
    refine r_iconst (v := nI 0) qX4_load_26 (by decide) ?_
    refine r_puti qX4_load_27 fX4_214 (Or.inl rfl) rfl rfl rfl (by assumption) ?_
    refine r_aload_n qX4_load_30 rfl ?_
    refine r_aload_n qX4_load_31 rfl ?_
    refine r_geti qX4_load_32 fX4_250 rfl (by assumption) ?_
    rw [wA_s, pk_un (by decide), e12]
    refine r_puti qX4_load_35 fX4_381 (Or.inl rfl) rfl rfl rfl (by assumption) ?_
    simp only [wA_s, wA_wA]
    refine r_aload_n qX4_load_38 rfl ?_
    refine r_aload_n qX4_load_39 rfl ?_
    refine r_cv0 (cu2 := 0) (su2 := 0) qX4_load_40 kX4_269 rfl (by decide +kernel) (c := 4) (by assumption) (by decide) rfl rfl rfl rfl rfl rfl ?_
    refine c_X4_isGood (by first | assumption | omega | rfl | decide) ?_
    show zR E _ _ X 43 _ _ _ _ _ _ _
    rw [zb_f (by rw [wA_s, pk_un (by decide), pk_un (by decide), e12]; exact e0)]
    refine r_if_eq (t := 50) qX4_load_43 (by decide) (fun hc43 => ?_) (fun hc43 => absurd hc43 (by decide))
    refine r_aload_n qX4_load_50 rfl ?_
    refine r_geti qX4_load_51 fX4_256 rfl (by assumption) ?_
    rw [wA_s, pk_un (by decide), pk_un (by decide), e13]
    refine r_puti qX4_load_54 fX4_112 (Or.inl rfl) rfl rfl rfl (by assumption) ?_
    simp only [wA_s, wA_wA]
    refine r_aload_n qX4_load_57 rfl ?_
    refine r_cv0 (cu2 := 0) (su2 := 0) qX4_load_58 kX4_269 rfl (by decide +kernel) (c := 4) (by assumption) (by decide) rfl rfl rfl rfl rfl rfl ?_
    refine c_X4_isGood (by first | assumption | omega | rfl | decide) ?_
    show zR E _ _ X 61 _ _ _ _ _ _ _
    rw [zb_f (by rw [wA_s, pk_un (by decide), pk_un (by decide), pk_un (by decide), e12]; exact e0)]
    refine r_if_ne (t := 67) qX4_load_61 (by decide) (fun hc61 => absurd hc61 (by decide)) (fun hc61 => ?_)
    refine r_bipush (v := (-7)) qX4_load_64 (by decide) ?_
    refine r_iret qX4_load_66 rfl rfl rfl rfl ?_
    exact hK0 c' w he e0 _ _ ⟨by rw [wA_s, pk_un (by decide), pk_un (by decide), pk_un (by decide), f1 0 (by decide) (by decide) (by decide) (by decide) (by decide) (by decide) (by decide), wA_s, pk_us], by rw [wA_s, pk_un (by decide), pk_un (by decide), pk_us], by rw [wA_s, pk_un (by decide), pk_us], by rw [wA_s, pk_us], by rw [wA_s, pk_un (by decide), pk_un (by decide), pk_un (by decide)]; exact F 31 (by decide) (by decide) (by decide) (by decide) (by decide) (by decide) (by decide) (by decide), by rw [wA_s, pk_un (by decide), pk_un (by decide), pk_un (by decide)]; exact F 35 (by decide) (by decide) (by decide) (by decide) (by decide) (by decide) (by decide) (by decide), f3, f4⟩ (by rw [wA_s, pk_un (by decide), pk_un (by decide), pk_un (by decide), F 29 (by decide) (by decide) (by decide) (by decide) (by decide) (by decide) (by decide) (by decide)]; exact hc) (fun r h1 h2 => by rw [wA_n h1, f2 r h1 h2, wA_n h1])
  have K73 : ∀ (t : Nat) (N : Nat → Int32) (i3 : Ni) (j2 : Nj), mText (i b) L = .ok (t, N) → i3 d = N → (∀ i' : Ni, i' n = N → (∀ r, r ≠ n → i' r = i3 r) → K (.inl (some (.int (N 5)))) g i' j2) → ∀ q m : Nat, q = 210 - m → m ≤ 210 → zR E mX4_load (zZ E mX4_load K) X 73 [.ref x, .int (nI m)] [] g (wA i3 n (ycp N (i3 n) m)) j2 0 0 := by
    intro t N i3 j2 he hd hK q
    induction q with
    | zero =>
      intro m hm hm2
      obtain rfl : m = 210 := by omega
      refine r_iload_n qX4_load_73 rfl ?_
      refine r_sipush (v := nI 210) qX4_load_74 (by decide) ?_
      refine r_icmp_ge (t := 98) qX4_load_77 (by decide) (fun hc77 => ?_) (fun hc77 => absurd hc77 (fun h => h (nI_le (by omega) (by omega))))
      refine r_ext (r := n) (f := N) w8 (fun k hk => by rw [wA_s, ycp, if_pos (by omega)]) ?_
      simp only [wA_wA]
      refine r_aload_n qX4_load_98 rfl ?_
      refine r_getr qX4_load_99 fX4_17 rfl (by assumption) (by first | assumption | rfl) ?_
      refine r_iconst (v := nI 5) qX4_load_102 (by decide) ?_
      refine r_ialdN qX4_load_103 (by assumption) (by assumption) (by omega) rfl ?_
      rw [wA_s]
      refine r_iret qX4_load_104 rfl rfl rfl rfl ?_
      exact hK _ (by rw [wA_s]) (fun r hr => wA_n hr)
    | succ q ih =>
      intro m hm hm2
      refine r_iload_n qX4_load_73 rfl ?_
      refine r_sipush (v := nI 210) qX4_load_74 (by decide) ?_
      refine r_icmp_ge (t := 98) qX4_load_77 (by decide) (fun hc77 => absurd hc77 (nI_ge (by omega) (by omega))) (fun hc77 => ?_)
      refine r_aload_n qX4_load_80 rfl ?_
      refine r_getr qX4_load_81 fX4_17 rfl (by assumption) (by first | assumption | rfl) ?_
      refine r_iload_n qX4_load_84 rfl ?_
      refine r_aload_n qX4_load_85 rfl ?_
      refine r_getr qX4_load_86 fX4_21 rfl (by assumption) (by first | assumption | rfl) ?_
      refine r_iload_n qX4_load_89 rfl ?_
      refine r_ialdN qX4_load_90 (by assumption) (by assumption) (by omega) rfl ?_
      rw [wA_n dn, hd]
      refine r_iastN qX4_load_91 (by assumption) (by assumption) (by omega) rfl ?_
      simp only [wA_s, wA_wA]; rw [ycp_s]
      refine r_ii_2_1 qX4_load_92 rfl rfl (nI_inc m) ?_
      refine r_goto (t := 73) qX4_load_95 (by decide) ?_
      exact ih (m + 1) (by omega) (by omega)
  have K17o : ∀ (i2 : Ni) (j2 : Nj) (t : Nat) (N : Nat → Int32), zG x b d L (i b) N (wA i x (upd (i x) 0 (nI 0))) j t i2 j2 → mText (i b) L = .ok (t, N) → zR E mX4_load (zZ E mX4_load K) X 17 [.ref x, zJ] [] (wR g x 3 d) i2 j2 0 0 := by
    intro i2 j2 t N e he
    obtain ⟨-, eb, eN, e12, f1, f2, f3, f4⟩ := e
    have F : ∀ m, m ≠ 6 → m ≠ 7 → m ≠ 8 → m ≠ 9 → m ≠ 11 → m ≠ 12 → m ≠ 13 → m ≠ 0 → i2 x m = i x m := fun m a1 a2 a3 a4 a5 a6 a7 a8 => by rw [f1 m a1 a2 a3 a4 a5 a6 a7, wA_s, pk_un a8]
    have F0 : i2 x 0 = nI 0 := by rw [f1 0 (by decide) (by decide) (by decide) (by decide) (by decide) (by decide) (by decide), wA_s, pk_us]
    have Fr : ∀ r, r ≠ x → r ≠ d → i2 r = i r := fun r h1 h2 => by rw [f2 r h1 h2, wA_n h1]
    refine r_aload_n qX4_load_17 rfl ?_
    refine r_aload_n qX4_load_18 rfl ?_
    refine r_getr qX4_load_19 fX4_17 rfl (by assumption) (by first | assumption | rfl) ?_
    refine r_putr qX4_load_22 fX4_24 (Or.inl rfl) rfl (by assumption) ?_
    rw [hW.bk hR3]
    refine r_aload_n qX4_load_25 rfl ?_
    refine r_iconst (v := nI 0) qX4_load_26 (by decide) ?_
    refine r_puti qX4_load_27 fX4_214 (Or.inl rfl) rfl rfl rfl (by assumption) ?_
    refine r_aload_n qX4_load_30 rfl ?_
    refine r_aload_n qX4_load_31 rfl ?_
    refine r_geti qX4_load_32 fX4_250 rfl (by assumption) ?_
    rw [wA_s, pk_un (by decide), e12]
    refine r_puti qX4_load_35 fX4_381 (Or.inl rfl) rfl rfl rfl (by assumption) ?_
    simp only [wA_s, wA_wA]
    refine r_aload_n qX4_load_38 rfl ?_
    refine r_aload_n qX4_load_39 rfl ?_
    refine r_cv0 (cu2 := 0) (su2 := 0) qX4_load_40 kX4_269 rfl (by decide +kernel) (c := 4) (by assumption) (by decide) rfl rfl rfl rfl rfl rfl ?_
    refine c_X4_isGood (by first | assumption | omega | rfl | decide) ?_
    show zR E _ _ X 43 _ _ _ _ _ _ _
    rw [zb_t (by rw [wA_s, pk_un (by decide), pk_un (by decide), e12])]
    refine r_if_eq (t := 50) qX4_load_43 (by decide) (fun hc43 => absurd hc43 (by decide)) (fun hc43 => ?_)
    refine r_iconst (v := (-1)) qX4_load_46 (by decide) ?_
    refine r_goto (t := 54) qX4_load_47 (by decide) ?_
    refine r_puti qX4_load_54 fX4_112 (Or.inl rfl) rfl rfl rfl (by assumption) ?_
    simp only [wA_s, wA_wA]
    refine r_aload_n qX4_load_57 rfl ?_
    refine r_cv0 (cu2 := 0) (su2 := 0) qX4_load_58 kX4_269 rfl (by decide +kernel) (c := 4) (by assumption) (by decide) rfl rfl rfl rfl rfl rfl ?_
    refine c_X4_isGood (by first | assumption | omega | rfl | decide) ?_
    show zR E _ _ X 61 _ _ _ _ _ _ _
    rw [zb_t (by rw [wA_s, pk_un (by decide), pk_un (by decide), pk_un (by decide), e12])]
    refine r_if_ne (t := 67) qX4_load_61 (by decide) (fun hc61 => ?_) (fun hc61 => absurd hc61 (by decide))
    refine r_aload_n qX4_load_67 rfl ?_
    refine r_cv0 (cu2 := 0) (su2 := 0) qX4_load_68 kX4_384 rfl (by decide +kernel) (c := 4) (by assumption) (by decide) rfl rfl rfl rfl rfl rfl ?_
    refine c_X4_remember hW (c := c) (by rw [wA_s, pk_un (by decide), pk_un (by decide), pk_un (by decide), F 29 (by decide) (by decide) (by decide) (by decide) (by decide) (by decide) (by decide) (by decide)]; exact hc) hcl (fun i3 r1 r2 r3 => ?_)
    show zR E _ _ X 71 _ _ _ _ _ _ _
    refine r_iconst (v := nI 0) qX4_load_71 (by decide) ?_
    refine r_is_2_1 qX4_load_72 rfl rfl ?_
    rw [wA_s] at r1
    rw [wA_n px, wA_n nx, Fr p px pd, Fr n nx nd] at r2
    have z := K73 t N i3 j2 he (by rw [r3 d dx dp, wA_n dx]; exact eN) (fun i' h1 h2 => hK1 t N he i' j2 ⟨by rw [h2 x xn, r1, pk_un (by decide), pk_un (by decide), pk_un (by decide), pk_un (by decide)]; exact F0, by rw [h2 x xn, r1, pk_un (by decide), pk_un (by decide), pk_un (by decide), pk_us], by rw [h2 x xn, r1, pk_un (by decide), pk_un (by decide), pk_us], by rw [h2 x xn, r1, pk_un (by decide), pk_us], by rw [h2 x xn, r1, pk_un (by decide), pk_un (by decide), pk_un (by decide), pk_un (by decide)]; exact F 31 (by decide) (by decide) (by decide) (by decide) (by decide) (by decide) (by decide) (by decide), by rw [h2 x xn, r1, pk_un (by decide), pk_un (by decide), pk_un (by decide), pk_un (by decide)]; exact F 35 (by decide) (by decide) (by decide) (by decide) (by decide) (by decide) (by decide) (by decide), f3, f4⟩ (by rw [h2 x xn, r1, pk_us]) h1 (by rw [h2 p pn]; exact r2) (fun r a1 a2 a3 a4 => by rw [h2 r a3, r3 r a1 a4, wA_n a1]; exact Fr r a1 a2)) 210 0 (by omega) (by omega)
    rw [ycp_0, wA_self] at z
    exact z
  refine r_aload_n qX4_load_0 rfl ?_
  refine r_iconst (v := nI 0) qX4_load_1 (by decide) ?_
  refine r_puti qX4_load_2 fX4_3 (Or.inl rfl) rfl rfl rfl (by assumption) ?_
  refine r_aload_n qX4_load_5 rfl ?_
  refine r_aload_n qX4_load_6 rfl ?_
  refine r_getr qX4_load_7 fX4_21 rfl (by assumption) (by first | assumption | rfl) ?_
  refine r_putr qX4_load_10 fX4_24 (Or.inl rfl) rfl (by assumption) ?_
  refine r_aload_n qX4_load_13 rfl ?_
  refine r_cv0 (cu2 := 0) (su2 := 0) qX4_load_14 kX4_378 rfl (by decide +kernel) (c := 4) (by assumption) (by decide) rfl rfl rfl rfl rfl rfl ?_
  refine c_X4_readText (B := i b) hW1 hM1 dx db hWd (by rw [wA_s, pk_un (by decide)]; exact hL) hL6 (wA_n bx) hBy (fun i2 j2 z => ?_)
  show zR E _ _ X 17 _ _ _ _ _ _ _
  cases hs : mText (i b) L with
  | error p =>
    obtain ⟨c', w⟩ := p
    rw [hs] at z
    exact K17e i2 j2 c' w z hs
  | ok p =>
    obtain ⟨t2, N2⟩ := p
    rw [hs] at z
    exact K17o i2 j2 t2 N2 z hs

