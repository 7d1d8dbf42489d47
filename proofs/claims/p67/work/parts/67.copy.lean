/-! ===== THE CLASS: A GALLERY COPIED, CLEARED ===== -/
theorem cpy_n {f g : Nat → Int32} {n p : Nat} (h : p < n) (hn : n < 2 ^ 31) : va_cpy f g (nI 0).toNatClampNeg (nI 0).toNatClampNeg (nI n).toNatClampNeg p = f p := cpy_at h hn
/-- the first z tubes of gallery a are those that gallery b had in i0 -/
def zTs (i' i0 : Ni) (a b : Nat → Nat) (z : Nat) : Prop := ∀ q, q < z → (∀ f, 3 ≤ f → f < 17 → i' (a (6 + 3 * q)) f = i0 (b (6 + 3 * q)) f) ∧ ∀ p, p < 6 → i' (a (7 + 3 * q)) p = i0 (b (7 + 3 * q)) p ∧ i' (a (8 + 3 * q)) p = i0 (b (8 + 3 * q)) p
theorem zH.copy {i i' : Ni} {a b : Nat → Nat} {N : Nat → Int32} (h : zH i b N) (h0 : ∀ f, 5 ≤ f → f < 13 → i' (a 0) f = i (b 0) f) (h1 : ∀ p, p < 5 → i' (a 1) p = i (b 1) p ∧ i' (a 2) p = i (b 2) p) (h3 : ∀ p, p < 4 → i' (a 3) p = i (b 3) p ∧ i' (a 4) p = i (b 4) p) (ht : zTs i' i a b (zn (N 5))) (hn : ∀ z, z < 8 → i' (a (6 + 3 * z)) 0 = nI z) : zH i' a N := by
  have hO := h.1
  have hT8 := hO.T8.2
  have hS5 := hO.S5.2
  have hB4 := hO.B4.2
  obtain ⟨c5, c6, c7, c8, c9, c10, c11, c12⟩ := h.cnt
  refine ⟨hO, ⟨(h0 5 (by omega) (by omega)).trans c5, (h0 6 (by omega) (by omega)).trans c6, (h0 7 (by omega) (by omega)).trans c7, (h0 8 (by omega) (by omega)).trans c8, (h0 9 (by omega) (by omega)).trans c9, (h0 10 (by omega) (by omega)).trans c10, (h0 11 (by omega) (by omega)).trans c11, (h0 12 (by omega) (by omega)).trans c12⟩, fun s hs => ?_, fun s hs => ?_, fun q hq => ?_, ?_, fun s hs => ?_, hn⟩
  · show i' (a 2) s = _ ∧ zNx (i' (a 1) s) _ _
    rw [(h1 s (by omega)).1, (h1 s (by omega)).2]; exact h.sp hs
  · show i' (a 4) s = _ ∧ zNx (i' (a 3) s) _ _
    rw [(h3 s (by omega)).1, (h3 s (by omega)).2]; exact h.ba hs
  · obtain ⟨t1, t2⟩ := ht q hq
    obtain ⟨f0, f3, f4, f6, f7, f8, f9, f10, f11, f12, f13, fP⟩ := h.tu hq
    have hm := (hO.many hq).2
    obtain ⟨s, s1, s2, s3⟩ := hO.S hq
    refine ⟨⟨hn q (by omega), (t1 3 (by omega) (by omega)).trans f3, (t1 4 (by omega) (by omega)).trans f4, (t1 6 (by omega) (by omega)).trans f6, (t1 7 (by omega) (by omega)).trans f7, (t1 8 (by omega) (by omega)).trans f8, (t1 9 (by omega) (by omega)).trans f9, (t1 10 (by omega) (by omega)).trans f10, (t1 11 (by omega) (by omega)).trans f11, (t1 12 (by omega) (by omega)).trans f12, (t1 13 (by omega) (by omega)).trans f13, fun p hp => ?_⟩, ?_⟩
    · exact ⟨(t2 p (by omega)).1.trans (fP p hp).1, (t2 p (by omega)).2.trans (fP p hp).2⟩
    · show i' (a (6 + 3 * q)) 5 = i' (a 1) (zn (N (42 + 21 * q + 0)))
      rw [t1 5 (by omega) (by omega), h.na hq, (h1 _ (by rw [s1, zn_nI (by omega)]; exact s3)).1]
  · show sAdd (fun q => i' (a (6 + 3 * q)) 14) (zn (N 5)) = N 8
    rw [← h.giv]
    exact sAdd_c _ (fun q hq => (ht q hq).1 14 (by omega) (by omega))
  · show sAdd (fun q => if N (42 + 21 * q + 0) = nI s then i' (a (6 + 3 * q)) 15 else nI 0) (zn (N 5)) = N (10 + 4 * s + 3)
    rw [← h.los hs]
    exact sAdd_c _ (fun q hq => by rw [(ht q hq).1 15 (by omega) (by omega)])
set_option maxHeartbeats 4000000 in
set_option maxRecDepth 20000 in
theorem c_X0_copyFrom {E : Ev} {g : Sh} {i : Ni} {j : Nj} {K : Kp} {a b : Nat → Nat} {N : Nat → Int32} (hC : zC g a) (hCb : zC g b) (hab : ∀ p q, p < 30 → q < 30 → a p ≠ b q) (hH : zH i b N) (hn : ∀ z, z < 8 → i (a (6 + 3 * z)) 0 = nI z) (hK : ∀ i' : Ni, zH i' a N → zOu a i' i → K (.inl none) g i' j) : zCon E mX0_copyFrom [.ref (a 0), .ref (b 0)] g i j K := by
  refine zcon_of (by decide +kernel) rfl rfl (lo := [.ref (a 0), .ref (b 0), zJ]) rfl (fun X => ?_)
  have hO := hH.1
  obtain ⟨hT5, hT8⟩ := hO.T8
  obtain ⟨a1, a2, a3, a4, a5, a6, a7, a8, a9, a10, a11, a12, a13, a14, a15, a16, -⟩ := id hC
  obtain ⟨b1, b2, b3, b4, b5, b6, b7, b8, b9, b10, b11, b12, b13, b14, b15, b16, -⟩ := id hCb
  obtain ⟨c5, c6, c7, c8, c9, c10, c11, c12⟩ := hH.cnt
  have na : ∀ p q, p < 30 → q < 30 → p ≠ q → a p ≠ a q := fun p q => hC.inj
  have K122 : ∀ q p : Nat, p + q = zn (N 5) → ∀ i1 : Ni, (∀ f, 5 ≤ f → f < 13 → i1 (a 0) f = i (b 0) f) → (∀ p, p < 5 → i1 (a 1) p = i (b 1) p ∧ i1 (a 2) p = i (b 2) p) → (∀ p, p < 4 → i1 (a 3) p = i (b 3) p ∧ i1 (a 4) p = i (b 4) p) → zTs i1 i a b p → (∀ z, z < 8 → i1 (a (6 + 3 * z)) 0 = nI z) → zOu a i1 i → zR E mX0_copyFrom (zZ E mX0_copyFrom K) X 122 [.ref (a 0), .ref (b 0), .int (nI p)] [] g i1 j 0 0 := by
    intro q
    induction q with
    | zero =>
      intro p hp i1 h0 h1 h3 ht h6 ou
      obtain rfl : p = zn (N 5) := by omega
      have c7' := (h0 7 (by omega) (by omega)).trans (c7.trans hT5)
      refine r_iload_n qX0_copyFrom_122 rfl ?_
      refine r_aload_n qX0_copyFrom_123 rfl ?_
      refine r_geti qX0_copyFrom_124 fX0_52 rfl (by assumption) ?_
      rw [c7']
      refine r_icmp_ge (t := 151) qX0_copyFrom_127 (by decide) (fun hc127 => ?_) (fun hc127 => absurd hc127 (fun h => h (nI_le (Nat.le_refl _) (by omega))))
      refine r_vret qX0_copyFrom_151 rfl rfl rfl ?_
      exact hK i1 (hH.copy h0 h1 h3 ht h6) ou
    | succ q ih =>
      intro p hp i1 h0 h1 h3 ht h6 ou
      have c7' := (h0 7 (by omega) (by omega)).trans (c7.trans hT5)
      obtain ⟨tb1, hT⟩ := hC.tb (show p < 8 by omega)
      obtain ⟨tb2, hT'⟩ := hCb.tb (show p < 8 by omega)
      have u1 := hT.1
      obtain ⟨f0, f3, f4, f6, f7, f8, f9, f10, f11, f12, f13, fP⟩ := hH.tu (k := p) (by omega)
      obtain ⟨-, -, -, -, -, -, t6, -⟩ := hO.tu (k := p) (by omega)
      have ob : ∀ c, c < 30 → i1 (b c) = i (b c) := fun c hc => ou _ (fun c' hc' => Ne.symm (hab c' c hc' hc))
      refine r_iload_n qX0_copyFrom_122 rfl ?_
      refine r_aload_n qX0_copyFrom_123 rfl ?_
      refine r_geti qX0_copyFrom_124 fX0_52 rfl (by assumption) ?_
      rw [c7']
      refine r_icmp_ge (t := 151) qX0_copyFrom_127 (by decide) (fun hc127 => absurd hc127 (nI_ge (by omega) (by omega))) (fun hc127 => ?_)
      refine r_aload_n qX0_copyFrom_130 rfl ?_
      refine r_getr qX0_copyFrom_131 fX0_26 rfl (by assumption) (by first | assumption | rfl) ?_
      refine r_iload_n qX0_copyFrom_134 rfl ?_
      refine r_aaldN qX0_copyFrom_135 (by first | exact Or.inl (by assumption) | exact Or.inr (by assumption)) (by assumption) (by omega) rfl (by first | assumption | rfl) ?_
      refine r_aload_n qX0_copyFrom_136 rfl ?_
      refine r_getr qX0_copyFrom_137 fX0_26 rfl (by assumption) (by first | assumption | rfl) ?_
      refine r_iload_n qX0_copyFrom_140 rfl ?_
      refine r_aaldN qX0_copyFrom_141 (by first | exact Or.inl (by assumption) | exact Or.inr (by assumption)) (by assumption) (by omega) rfl (by first | assumption | rfl) ?_
      refine r_cv1 (cu2 := 0) (su2 := 0) qX0_copyFrom_142 kX0_64 rfl (by decide +kernel) (c := 2) (by assumption) (by decide) rfl rfl rfl rfl rfl rfl ?_
      refine c_X2_copyFrom hT hT' (hab _ _ (by omega) (by omega)) (hab _ _ (by omega) (by omega)) (hab _ _ (by omega) (by omega)) (hab _ _ (by omega) (by omega)) (hab _ _ (by omega) (by omega)) (fun f hf => by rw [hf, ob _ (by omega), f13]; exact t6) (fun i2 r0 r1 r2 r3 r4 => ?_)
      show zR E _ _ X 145 _ _ _ _ _ _ _
      refine r_ii_3_2 qX0_copyFrom_145 rfl rfl (nI_inc p) ?_
      refine r_goto (t := 122) qX0_copyFrom_148 (by decide) ?_
      have R : ∀ c, c < 30 → c ≠ 6 + 3 * p → c ≠ 7 + 3 * p → c ≠ 8 + 3 * p → i2 (a c) = i1 (a c) := fun c hc x1 x2 x3 => r4 _ (na _ _ hc (by omega) x1) (na _ _ hc (by omega) x2) (na _ _ hc (by omega) x3)
      refine ih (p + 1) (by omega) i2 (fun f x1 x2 => by rw [R 0 (by omega) (by omega) (by omega) (by omega)]; exact h0 f x1 x2) (fun z hz => by rw [R 1 (by omega) (by omega) (by omega) (by omega), R 2 (by omega) (by omega) (by omega) (by omega)]; exact h1 z hz) (fun z hz => by rw [R 3 (by omega) (by omega) (by omega) (by omega), R 4 (by omega) (by omega) (by omega) (by omega)]; exact h3 z hz) (fun z hz => ?_) (fun z hz => ?_) (fun r hr => by rw [r4 r (hr _ (by omega)) (hr _ (by omega)) (hr _ (by omega))]; exact ou r hr)
      · by_cases hzp : z = p
        · subst hzp
          exact ⟨fun f x1 x2 => by rw [r1 f x1 x2, ob _ (by omega)], fun w hw => by rw [r2 w hw, r3 w hw, ob _ (by omega), ob _ (by omega)]; exact ⟨rfl, rfl⟩⟩
        · rw [R (6 + 3 * z) (by omega) (by omega) (by omega) (by omega), R (7 + 3 * z) (by omega) (by omega) (by omega) (by omega), R (8 + 3 * z) (by omega) (by omega) (by omega) (by omega)]
          exact ht z (by omega)
      · by_cases hzp : z = p
        · subst hzp; rw [r0]; exact h6 z hz
        · rw [R (6 + 3 * z) (by omega) (by omega) (by omega) (by omega)]; exact h6 z hz
  have K56 : ∀ i1 : Ni, i1 (a 0) = i (a 0) → i1 (b 0) = i (b 0) → (∀ p, p < 5 → i1 (a 1) p = i (b 1) p ∧ i1 (a 2) p = i (b 2) p) → (∀ p, p < 4 → i1 (a 3) p = i (b 3) p ∧ i1 (a 4) p = i (b 4) p) → (∀ z, z < 8 → i1 (a (6 + 3 * z)) 0 = nI z) → zOu a i1 i → zR E mX0_copyFrom (zZ E mX0_copyFrom K) X 56 [.ref (a 0), .ref (b 0), zJ] [] g i1 j 0 0 := by
    intro i1 ea eb h1 h3 h6 ou
    have nb : b 0 ≠ a 0 := fun e => hab 0 0 (by omega) (by omega) e.symm
    have nm : ∀ c, c < 30 → c ≠ 0 → ∀ F, wA i1 (a 0) F (a c) = i1 (a c) := fun c hc h F => wA_n (na c 0 hc (by omega) h)
    refine r_aload_n qX0_copyFrom_56 rfl ?_
    refine r_aload_n qX0_copyFrom_57 rfl ?_
    refine r_geti qX0_copyFrom_58 fX0_46 rfl (by assumption) ?_
    rw [eb]
    refine r_puti qX0_copyFrom_61 fX0_46 (Or.inl rfl) rfl rfl rfl (by assumption) ?_
    skip
    refine r_aload_n qX0_copyFrom_64 rfl ?_
    refine r_aload_n qX0_copyFrom_65 rfl ?_
    refine r_geti qX0_copyFrom_66 fX0_49 rfl (by assumption) ?_
    rw [wA_n nb, eb]
    refine r_puti qX0_copyFrom_69 fX0_49 (Or.inl rfl) rfl rfl rfl (by assumption) ?_
    simp only [wA_s, wA_wA]
    refine r_aload_n qX0_copyFrom_72 rfl ?_
    refine r_aload_n qX0_copyFrom_73 rfl ?_
    refine r_geti qX0_copyFrom_74 fX0_52 rfl (by assumption) ?_
    rw [wA_n nb, eb]
    refine r_puti qX0_copyFrom_77 fX0_52 (Or.inl rfl) rfl rfl rfl (by assumption) ?_
    simp only [wA_s, wA_wA]
    refine r_aload_n qX0_copyFrom_80 rfl ?_
    refine r_aload_n qX0_copyFrom_81 rfl ?_
    refine r_geti qX0_copyFrom_82 fX0_55 rfl (by assumption) ?_
    rw [wA_n nb, eb]
    refine r_puti qX0_copyFrom_85 fX0_55 (Or.inl rfl) rfl rfl rfl (by assumption) ?_
    simp only [wA_s, wA_wA]
    refine r_aload_n qX0_copyFrom_88 rfl ?_
    refine r_aload_n qX0_copyFrom_89 rfl ?_
    refine r_geti qX0_copyFrom_90 fX0_58 rfl (by assumption) ?_
    rw [wA_n nb, eb]
    refine r_puti qX0_copyFrom_93 fX0_58 (Or.inl rfl) rfl rfl rfl (by assumption) ?_
    simp only [wA_s, wA_wA]
    refine r_aload_n qX0_copyFrom_96 rfl ?_
    refine r_aload_n qX0_copyFrom_97 rfl ?_
    refine r_geti qX0_copyFrom_98 fX0_33 rfl (by assumption) ?_
    rw [wA_n nb, eb]
    refine r_puti qX0_copyFrom_101 fX0_33 (Or.inl rfl) rfl rfl rfl (by assumption) ?_
    simp only [wA_s, wA_wA]
    refine r_aload_n qX0_copyFrom_104 rfl ?_
    refine r_aload_n qX0_copyFrom_105 rfl ?_
    refine r_geti qX0_copyFrom_106 fX0_37 rfl (by assumption) ?_
    rw [wA_n nb, eb]
    refine r_puti qX0_copyFrom_109 fX0_37 (Or.inl rfl) rfl rfl rfl (by assumption) ?_
    simp only [wA_s, wA_wA]
    refine r_aload_n qX0_copyFrom_112 rfl ?_
    refine r_aload_n qX0_copyFrom_113 rfl ?_
    refine r_geti qX0_copyFrom_114 fX0_61 rfl (by assumption) ?_
    rw [wA_n nb, eb]
    refine r_puti qX0_copyFrom_117 fX0_61 (Or.inl rfl) rfl rfl rfl (by assumption) ?_
    simp only [wA_s, wA_wA]
    refine r_iconst (v := nI 0) qX0_copyFrom_120 (by decide) ?_
    refine r_is_3_2 qX0_copyFrom_121 rfl rfl ?_
    refine K122 (zn (N 5)) 0 (by omega) _ (fun f x1 x2 => ?_) (fun z hz => by rw [nm 1 (by omega) (by omega), nm 2 (by omega) (by omega)]; exact h1 z hz) (fun z hz => by rw [nm 3 (by omega) (by omega), nm 4 (by omega) (by omega)]; exact h3 z hz) (fun z hz => by omega) (fun z hz => by rw [nm _ (by omega) (by omega)]; exact h6 z hz) (fun r hr => by rw [wA_n (hr 0 (by omega))]; exact ou r hr)
    rw [wA_s]
    rcases (show f = 5 ∨ f = 6 ∨ f = 7 ∨ f = 8 ∨ f = 9 ∨ f = 10 ∨ f = 11 ∨ f = 12 by omega) with rfl | rfl | rfl | rfl | rfl | rfl | rfl | rfl <;> simp (disch := decide) only [pk_us, pk_un]
  have nq : ∀ p q, p < 30 → q < 30 → b p ≠ a q := fun p q hp hq e => hab q p hq hp e.symm
  refine r_aload_n qX0_copyFrom_0 rfl ?_
  refine r_getr qX0_copyFrom_1 fX0_11 rfl (by assumption) (by first | assumption | rfl) ?_
  refine r_iconst (v := nI 0) qX0_copyFrom_4 (by decide) ?_
  refine r_aload_n qX0_copyFrom_5 rfl ?_
  refine r_getr qX0_copyFrom_6 fX0_11 rfl (by assumption) (by first | assumption | rfl) ?_
  refine r_iconst (v := nI 0) qX0_copyFrom_9 (by decide) ?_
  refine r_iconst (v := nI 5) qX0_copyFrom_10 (by decide) ?_
  refine r_copyi (t := 0) qX0_copyFrom_11 kX0_40 (Or.inl rfl) (by assumption) (by assumption) (by decide) (by decide) (by decide) (by rw [b8]; decide) (by rw [a8]; decide) (Or.inl rfl) rfl rfl ?_
  refine r_aload_n qX0_copyFrom_14 rfl ?_
  refine r_getr qX0_copyFrom_15 fX0_15 rfl (by assumption) (by first | assumption | rfl) ?_
  refine r_iconst (v := nI 0) qX0_copyFrom_18 (by decide) ?_
  refine r_aload_n qX0_copyFrom_19 rfl ?_
  refine r_getr qX0_copyFrom_20 fX0_15 rfl (by assumption) (by first | assumption | rfl) ?_
  refine r_iconst (v := nI 0) qX0_copyFrom_23 (by decide) ?_
  refine r_iconst (v := nI 5) qX0_copyFrom_24 (by decide) ?_
  refine r_copyi (t := 0) qX0_copyFrom_25 kX0_40 (Or.inl rfl) (by assumption) (by assumption) (by decide) (by decide) (by decide) (by rw [b10]; decide) (by rw [a10]; decide) (Or.inl rfl) rfl rfl ?_
  refine r_aload_n qX0_copyFrom_28 rfl ?_
  refine r_getr qX0_copyFrom_29 fX0_18 rfl (by assumption) (by first | assumption | rfl) ?_
  refine r_iconst (v := nI 0) qX0_copyFrom_32 (by decide) ?_
  refine r_aload_n qX0_copyFrom_33 rfl ?_
  refine r_getr qX0_copyFrom_34 fX0_18 rfl (by assumption) (by first | assumption | rfl) ?_
  refine r_iconst (v := nI 0) qX0_copyFrom_37 (by decide) ?_
  refine r_iconst (v := nI 4) qX0_copyFrom_38 (by decide) ?_
  refine r_copyi (t := 0) qX0_copyFrom_39 kX0_40 (Or.inl rfl) (by assumption) (by assumption) (by decide) (by decide) (by decide) (by rw [b12]; decide) (by rw [a12]; decide) (Or.inl rfl) rfl rfl ?_
  refine r_aload_n qX0_copyFrom_42 rfl ?_
  refine r_getr qX0_copyFrom_43 fX0_21 rfl (by assumption) (by first | assumption | rfl) ?_
  refine r_iconst (v := nI 0) qX0_copyFrom_46 (by decide) ?_
  refine r_aload_n qX0_copyFrom_47 rfl ?_
  refine r_getr qX0_copyFrom_48 fX0_21 rfl (by assumption) (by first | assumption | rfl) ?_
  refine r_iconst (v := nI 0) qX0_copyFrom_51 (by decide) ?_
  refine r_iconst (v := nI 4) qX0_copyFrom_52 (by decide) ?_
  refine r_copyi (t := 0) qX0_copyFrom_53 kX0_40 (Or.inl rfl) (by assumption) (by assumption) (by decide) (by decide) (by decide) (by rw [b14]; decide) (by rw [a14]; decide) (Or.inl rfl) rfl rfl ?_
  refine K56 _ (by rw [wA_n (na _ _ (by omega) (by omega) (by omega)), wA_n (na _ _ (by omega) (by omega) (by omega)), wA_n (na _ _ (by omega) (by omega) (by omega)), wA_n (na _ _ (by omega) (by omega) (by omega))]) (by rw [wA_n (nq _ _ (by omega) (by omega)), wA_n (nq _ _ (by omega) (by omega)), wA_n (nq _ _ (by omega) (by omega)), wA_n (nq _ _ (by omega) (by omega))]) (fun p hp => ⟨?_, ?_⟩) (fun p hp => ⟨?_, ?_⟩) (fun z hz => by rw [wA_n (na _ _ (by omega) (by omega) (by omega)), wA_n (na _ _ (by omega) (by omega) (by omega)), wA_n (na _ _ (by omega) (by omega) (by omega)), wA_n (na _ _ (by omega) (by omega) (by omega))]; exact hn z hz) (fun r hr => by rw [wA_n (hr _ (by omega)), wA_n (hr _ (by omega)), wA_n (hr _ (by omega)), wA_n (hr _ (by omega))])
  · rw [wA_n (na 1 4 (by omega) (by omega) (by omega)), wA_n (na 1 3 (by omega) (by omega) (by omega)), wA_n (na 1 2 (by omega) (by omega) (by omega)), wA_s]; exact cpy_n hp (by decide)
  · rw [wA_n (na 2 4 (by omega) (by omega) (by omega)), wA_n (na 2 3 (by omega) (by omega) (by omega)), wA_s]; rw [cpy_n hp (by decide), wA_n (nq _ _ (by omega) (by omega))]
  · rw [wA_n (na 3 4 (by omega) (by omega) (by omega)), wA_s]; rw [cpy_n hp (by decide), wA_n (nq _ _ (by omega) (by omega)), wA_n (nq _ _ (by omega) (by omega))]
  · rw [wA_s]; rw [cpy_n hp (by decide), wA_n (nq _ _ (by omega) (by omega)), wA_n (nq _ _ (by omega) (by omega)), wA_n (nq _ _ (by omega) (by omega))]


