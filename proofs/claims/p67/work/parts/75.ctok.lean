/-! ===== THE CLASS: TOKENS ===== -/
def kd (v : Int32) : Nat := if kLet v = true then 1 else if kDig v = true then 2 else if v = nI 45 then 3 else if v = nI 59 then 4 else 5
theorem kLet_t {v : Int32} (h1 : ¬ v < nI 97) (h2 : ¬ nI 122 < v) : kLet v = true := by
  rw [Int32.lt_iff_toInt_lt, nI_toInt (by decide)] at h1 h2
  exact decide_eq_true ⟨by omega, by omega⟩
theorem kLet_f {v : Int32} (h : v < nI 97 ∨ nI 122 < v) : ¬ kLet v = true := fun h2 => by
  have h3 := of_decide_eq_true h2
  rw [Int32.lt_iff_toInt_lt, Int32.lt_iff_toInt_lt, nI_toInt (by decide), nI_toInt (by decide)] at h
  omega
theorem kDig_t {v : Int32} (h1 : ¬ v < nI 48) (h2 : ¬ nI 57 < v) : kDig v = true := by
  rw [Int32.lt_iff_toInt_lt, nI_toInt (by decide)] at h1 h2
  exact decide_eq_true ⟨by omega, by omega⟩
theorem kDig_f {v : Int32} (h : v < nI 48 ∨ nI 57 < v) : ¬ kDig v = true := fun h2 => by
  have h3 := of_decide_eq_true h2
  rw [Int32.lt_iff_toInt_lt, Int32.lt_iff_toInt_lt, nI_toInt (by decide), nI_toInt (by decide)] at h
  omega
theorem kDig_n {v : Int32} (h : kDig v = true) : ¬ kLet v = true := fun h2 => by
  have h3 := of_decide_eq_true h2
  have h4 := of_decide_eq_true h
  omega
theorem kd_1 {v : Int32} : kd v = 1 ↔ kLet v = true := by
  rw [kd]
  constructor
  · intro h
    split at h
    · assumption
    · split at h
      · omega
      · split at h
        · omega
        · split at h <;> omega
  · intro h; rw [if_pos h]
theorem kd_2 {v : Int32} : kd v = 2 ↔ kDig v = true := by
  rw [kd]
  constructor
  · intro h
    split at h
    · omega
    · split at h
      · assumption
      · split at h
        · omega
        · split at h <;> omega
  · intro h; rw [if_neg (kDig_n h), if_pos h]
theorem kd_le (v : Int32) : 1 ≤ kd v ∧ kd v ≤ 5 := by
  rw [kd]
  split
  · omega
  · split
    · omega
    · split
      · omega
      · split <;> omega
set_option maxHeartbeats 4000000 in
set_option maxRecDepth 20000 in
theorem c_X1_kindOf {E : Ev} {g : Sh} {i : Ni} {j : Nj} {K : Kp} {v : Int32} (hK : K (.inl (some (.int (nI (kd v))))) g i j) : zCon E mX1_kindOf [.int v] g i j K := by
  refine zcon_of (by decide +kernel) rfl rfl (lo := [.int v]) rfl (fun X => ?_)
  have K14 : ¬ kLet v = true → zR E mX1_kindOf (zZ E mX1_kindOf K) X 14 [.int v] [] g i j 0 0 := by
    intro h1
    have K28 : ¬ kDig v = true → zR E mX1_kindOf (zZ E mX1_kindOf K) X 28 [.int v] [] g i j 0 0 := by
      intro h2
      refine r_iload_n qX1_kindOf_28 rfl ?_
      refine r_bipush (v := nI 45) qX1_kindOf_29 (by decide) ?_
      refine r_icmp_ne (t := 36) qX1_kindOf_31 (by decide) (fun hc31 => ?_) (fun hc31 => ?_)
      · refine r_iload_n qX1_kindOf_36 rfl ?_
        refine r_bipush (v := nI 59) qX1_kindOf_37 (by decide) ?_
        refine r_icmp_ne (t := 46) qX1_kindOf_39 (by decide) (fun hc39 => ?_) (fun hc39 => ?_)
        · refine r_iconst (v := nI 5) qX1_kindOf_46 (by decide) ?_
          refine r_iret qX1_kindOf_47 rfl rfl rfl rfl ?_
          first | (rw [kd, if_neg h1, if_neg h2, if_pos hc31] at hK; exact hK) | (rw [kd, if_neg h1, if_neg h2, if_neg hc31, if_pos hc39] at hK; exact hK) | (rw [kd, if_neg h1, if_neg h2, if_neg hc31, if_neg hc39] at hK; exact hK)
        · refine r_iconst (v := nI 4) qX1_kindOf_42 (by decide) ?_
          refine r_goto (t := 47) qX1_kindOf_43 (by decide) ?_
          refine r_iret qX1_kindOf_47 rfl rfl rfl rfl ?_
          first | (rw [kd, if_neg h1, if_neg h2, if_pos hc31] at hK; exact hK) | (rw [kd, if_neg h1, if_neg h2, if_neg hc31, if_pos hc39] at hK; exact hK) | (rw [kd, if_neg h1, if_neg h2, if_neg hc31, if_neg hc39] at hK; exact hK)
      · refine r_iconst (v := nI 3) qX1_kindOf_34 (by decide) ?_
        refine r_iret qX1_kindOf_35 rfl rfl rfl rfl ?_
        first | (rw [kd, if_neg h1, if_neg h2, if_pos hc31] at hK; exact hK) | (rw [kd, if_neg h1, if_neg h2, if_neg hc31, if_pos hc39] at hK; exact hK) | (rw [kd, if_neg h1, if_neg h2, if_neg hc31, if_neg hc39] at hK; exact hK)
    refine r_iload_n qX1_kindOf_14 rfl ?_
    refine r_bipush (v := nI 48) qX1_kindOf_15 (by decide) ?_
    refine r_icmp_lt (t := 28) qX1_kindOf_17 (by decide) (fun hc17 => ?_) (fun hc17 => ?_)
    · first | exact K28 (kDig_f (Or.inl hc17)) | exact K28 (kDig_f (Or.inr hc23))
    · refine r_iload_n qX1_kindOf_20 rfl ?_
      refine r_bipush (v := nI 57) qX1_kindOf_21 (by decide) ?_
      refine r_icmp_gt (t := 28) qX1_kindOf_23 (by decide) (fun hc23 => ?_) (fun hc23 => ?_)
      · first | exact K28 (kDig_f (Or.inl hc17)) | exact K28 (kDig_f (Or.inr hc23))
      · refine r_iconst (v := nI 2) qX1_kindOf_26 (by decide) ?_
        refine r_iret qX1_kindOf_27 rfl rfl rfl rfl ?_
        rw [kd, if_neg h1, if_pos (kDig_t hc17 hc23)] at hK; exact hK
  refine r_iload_n qX1_kindOf_0 rfl ?_
  refine r_bipush (v := nI 97) qX1_kindOf_1 (by decide) ?_
  refine r_icmp_lt (t := 14) qX1_kindOf_3 (by decide) (fun hc3 => ?_) (fun hc3 => ?_)
  · first | exact K14 (kLet_f (Or.inl hc3)) | exact K14 (kLet_f (Or.inr hc9))
  · refine r_iload_n qX1_kindOf_6 rfl ?_
    refine r_bipush (v := nI 122) qX1_kindOf_7 (by decide) ?_
    refine r_icmp_gt (t := 14) qX1_kindOf_9 (by decide) (fun hc9 => ?_) (fun hc9 => ?_)
    · first | exact K14 (kLet_f (Or.inl hc3)) | exact K14 (kLet_f (Or.inr hc9))
    · refine r_iconst (v := nI 1) qX1_kindOf_12 (by decide) ?_
      refine r_iret qX1_kindOf_13 rfl rfl rfl rfl ?_
      rw [kd, if_pos (kLet_t hc3 hc9)] at hK; exact hK
def cKind (B : Nat → Int32) (L s : Nat) : Nat := if L ≤ s then 0 else kd (B s)
/-- the class's token at s -/
def cTk (f : Nat → Int32) (B : Nat → Int32) (L s : Nat) : Prop := f 6 = nI s ∧ f 7 = nI (sEnd B L s) ∧ f 5 = nI (cKind B L s)
def zR2 (g : Sh) (rd tx : Nat) : Prop := gT g rd = 2 ∧ gR g rd 0 = tx ∧ gT g tx = 12 ∧ gL g tx = 600
set_option maxHeartbeats 4000000 in
set_option maxRecDepth 20000 in
theorem c_X1_nextToken {E : Ev} {g : Sh} {i : Ni} {j : Nj} {K : Kp} {rd tx L a : Nat} {B : Nat → Int32} (hR : zR2 g rd tx) (hL : i rd 2 = nI L) (hL6 : L ≤ 600) (hB : i tx = B) (ha : i rd 7 = nI a) (haL : a ≤ L) (hK : ∀ F : Nat → Int32, cTk F B L (sSkip B L (L - a) a) → (∀ m, m ≠ 5 → m ≠ 6 → m ≠ 7 → F m = i rd m) → K (.inl none) g (wA i rd F) j) : zCon E mX1_nextToken [.ref rd] g i j K := by
  refine zcon_of (by decide +kernel) rfl rfl (lo := [.ref rd]) rfl (fun X => ?_)
  obtain ⟨r1, r2, r3, r4⟩ := hR
  have tr : tx ≠ rd := by rintro rfl; omega
  have K60 : ∀ (s : Nat) (F : Nat → Int32), s ≤ L → sSkip B L (L - a) a = s → F 6 = nI s → (∀ m, m ≠ 5 → m ≠ 6 → m ≠ 7 → F m = i rd m) → zR E mX1_nextToken (zZ E mX1_nextToken K) X 60 [.ref rd] [] g (wA i rd F) j 0 0 := by
    intro s F hs hsk f6 fo
    rw [hsk] at hK
    have fL : F 2 = nI L := (fo 2 (by decide) (by decide) (by decide)).trans hL
    by_cases hsL : s < L
    · skip
      have hKd : cKind B L s = kd (B s) := by rw [cKind, if_neg (by omega)]
      have hEn : sEnd B L s = if kLet (B s) = true then sRun kLet B L (L - s) s else if kDig (B s) = true then sRun kDig B L (L - s) s else s + 1 := by rw [sEnd, if_neg (by omega)]
      have K111 : ∀ (c : Int32 → Bool) (kk : Nat), (∀ v, kd v = kk ↔ c v = true) → (kk = 1 ∨ kk = 2) → kd (B s) = kk → ∀ (q e : Nat) (G : Nat → Int32), q = L - e → e ≤ L → sRun c B L q e = sEnd B L s → G 6 = nI s → G 7 = nI e → G 5 = nI kk → (∀ m, m ≠ 5 → m ≠ 6 → m ≠ 7 → G m = i rd m) → zR E mX1_nextToken (zZ E mX1_nextToken K) X 111 [.ref rd] [] g (wA i rd G) j 0 0 := by
        intro c kk hc hkk hks q
        have K127 : ∀ (q e : Nat) (G : Nat → Int32), q = L - e → e ≤ L → sRun c B L q e = sEnd B L s → G 6 = nI s → G 7 = nI e → G 5 = nI kk → (∀ m, m ≠ 5 → m ≠ 6 → m ≠ 7 → G m = i rd m) → (∀ (G2 : Nat → Int32), e < L → c (B e) = true → G2 = upd G 7 (nI (e + 1)) → zR E mX1_nextToken (zZ E mX1_nextToken K) X 111 [.ref rd] [] g (wA i rd G2) j 0 0) → zR E mX1_nextToken (zZ E mX1_nextToken K) X 127 [.ref rd] [] g (wA i rd G) j 0 0 := by
          intro q e G hq he hr g6 g7 g5 go hnext
          have gL : G 2 = nI L := (go 2 (by decide) (by decide) (by decide)).trans hL
          have hend : ¬ (e < L ∧ c (B e) = true) → K (.inl none) g (wA i rd G) j := fun hn => by
            refine hK G ⟨g6, ?_, ?_⟩ go
            · rw [g7, ← hr]
              cases q with
              | zero => rw [sRun]
              | succ q => rw [sRun, if_neg hn]
            · rw [g5, hKd, hks]
          by_cases heL : e < L
          · skip
            refine r_aload_n qX1_nextToken_127 rfl ?_
            refine r_geti qX1_nextToken_128 fX1_48 rfl (by assumption) ?_
            rw [wA_s, g7]
            refine r_aload_n qX1_nextToken_131 rfl ?_
            refine r_geti qX1_nextToken_132 fX1_26 rfl (by assumption) ?_
            rw [wA_s, gL]
            refine r_icmp_ge (t := 170) qX1_nextToken_135 (by decide) (fun hc135 => absurd hc135 (nI_ge heL (by omega))) (fun hc135 => ?_)
            refine r_aload_n qX1_nextToken_138 rfl ?_
            refine r_getr qX1_nextToken_139 fX1_11 rfl (by assumption) (by first | assumption | rfl) ?_
            refine r_aload_n qX1_nextToken_142 rfl ?_
            refine r_geti qX1_nextToken_143 fX1_48 rfl (by assumption) ?_
            rw [wA_s, g7]
            refine r_baldN qX1_nextToken_146 (by assumption) (by assumption) (by omega) rfl ?_
            rw [wA_n tr, hB]
            refine r_cs1 (cu2 := 0) (su2 := 0) qX1_nextToken_147 kX1_259 rfl (by decide +kernel) rfl rfl rfl rfl rfl ?_
            refine c_X1_kindOf ?_
            show zR E _ _ X 150 _ _ _ _ _ _ _
            refine r_aload_n qX1_nextToken_150 rfl ?_
            refine r_geti qX1_nextToken_151 fX1_57 rfl (by assumption) ?_
            rw [wA_s, g5]
            refine r_icmp_ne (t := 170) qX1_nextToken_154 (by decide) (fun hc154 => ?_) (fun hc154 => ?_)
            · refine r_vret qX1_nextToken_170 rfl rfl rfl ?_
              exact hend (fun h => hc154 (congrArg nI ((hc _).mpr h.2)))
            · refine r_aload_n qX1_nextToken_157 rfl ?_
              refine r_dup qX1_nextToken_158 rfl ?_
              refine r_geti qX1_nextToken_159 fX1_48 rfl (by assumption) ?_
              rw [wA_s, g7]
              refine r_iconst (v := nI 1) qX1_nextToken_162 (by decide) ?_
              first | with_reducible refine r_iaddN qX1_nextToken_163 ?_ | refine r_iadd qX1_nextToken_163 ?_
              refine r_puti qX1_nextToken_164 fX1_48 (Or.inl rfl) rfl rfl rfl (by assumption) ?_
              simp only [wA_s, wA_wA]
              refine r_goto (t := 111) qX1_nextToken_167 (by decide) ?_
              exact hnext _ heL ((hc _).mp ((nI_eq (by have := kd_le (B e); omega) (by omega)).mp hc154)) rfl
          · skip
            refine r_aload_n qX1_nextToken_127 rfl ?_
            refine r_geti qX1_nextToken_128 fX1_48 rfl (by assumption) ?_
            rw [wA_s, g7]
            refine r_aload_n qX1_nextToken_131 rfl ?_
            refine r_geti qX1_nextToken_132 fX1_26 rfl (by assumption) ?_
            rw [wA_s, gL]
            refine r_icmp_ge (t := 170) qX1_nextToken_135 (by decide) (fun hc135 => ?_) (fun hc135 => absurd hc135 (fun h => h (nI_le (by omega) (by omega))))
            refine r_vret qX1_nextToken_170 rfl rfl rfl ?_
            exact hend (fun h => heL h.1)
        induction q with
        | zero =>
          intro e G hq he hr g6 g7 g5 go
          have z := K127 0 e G hq he hr g6 g7 g5 go (fun G2 h1 _ _ => by omega)
          rcases hkk with h | h
          · subst h
            refine r_aload_n qX1_nextToken_111 rfl ?_
            refine r_geti qX1_nextToken_112 fX1_57 rfl (by assumption) ?_
            rw [wA_s, g5]
            refine r_iconst (v := nI 1) qX1_nextToken_115 (by decide) ?_
            refine r_icmp_eq (t := 127) qX1_nextToken_116 (by decide) (fun hc116 => ?_) (fun hc116 => absurd hc116 (fun h => h rfl))
            exact z
          · subst h
            refine r_aload_n qX1_nextToken_111 rfl ?_
            refine r_geti qX1_nextToken_112 fX1_57 rfl (by assumption) ?_
            rw [wA_s, g5]
            refine r_iconst (v := nI 1) qX1_nextToken_115 (by decide) ?_
            refine r_icmp_eq (t := 127) qX1_nextToken_116 (by decide) (fun hc116 => absurd hc116 (by decide)) (fun hc116 => ?_)
            refine r_aload_n qX1_nextToken_119 rfl ?_
            refine r_geti qX1_nextToken_120 fX1_57 rfl (by assumption) ?_
            rw [wA_s, g5]
            refine r_iconst (v := nI 2) qX1_nextToken_123 (by decide) ?_
            refine r_icmp_ne (t := 170) qX1_nextToken_124 (by decide) (fun hc124 => absurd hc124 (fun h => h rfl)) (fun hc124 => ?_)
            exact z
        | succ q ih =>
          intro e G hq he hr g6 g7 g5 go
          have z := K127 (q + 1) e G hq he hr g6 g7 g5 go (fun G2 h1 h2 h3 => by
            subst h3
            refine ih (e + 1) _ (by omega) (by omega) ?_ (by rw [pk_un (by decide)]; exact g6) (by rw [pk_us]) (by rw [pk_un (by decide)]; exact g5) (fun m m1 m2 m3 => by rw [pk_un m3]; exact go m m1 m2 m3)
            rw [← hr, sRun, if_pos ⟨h1, h2⟩])
          rcases hkk with h | h
          · subst h
            refine r_aload_n qX1_nextToken_111 rfl ?_
            refine r_geti qX1_nextToken_112 fX1_57 rfl (by assumption) ?_
            rw [wA_s, g5]
            refine r_iconst (v := nI 1) qX1_nextToken_115 (by decide) ?_
            refine r_icmp_eq (t := 127) qX1_nextToken_116 (by decide) (fun hc116 => ?_) (fun hc116 => absurd hc116 (fun h => h rfl))
            exact z
          · subst h
            refine r_aload_n qX1_nextToken_111 rfl ?_
            refine r_geti qX1_nextToken_112 fX1_57 rfl (by assumption) ?_
            rw [wA_s, g5]
            refine r_iconst (v := nI 1) qX1_nextToken_115 (by decide) ?_
            refine r_icmp_eq (t := 127) qX1_nextToken_116 (by decide) (fun hc116 => absurd hc116 (by decide)) (fun hc116 => ?_)
            refine r_aload_n qX1_nextToken_119 rfl ?_
            refine r_geti qX1_nextToken_120 fX1_57 rfl (by assumption) ?_
            rw [wA_s, g5]
            refine r_iconst (v := nI 2) qX1_nextToken_123 (by decide) ?_
            refine r_icmp_ne (t := 170) qX1_nextToken_124 (by decide) (fun hc124 => absurd hc124 (fun h => h rfl)) (fun hc124 => ?_)
            exact z
      have run1 : ∀ (c : Int32 → Bool), c (B s) = true → sRun c B L (L - s) s = sRun c B L (L - (s + 1)) (s + 1) := fun c h => by
        rw [show L - s = (L - (s + 1)) + 1 by omega, sRun, if_pos ⟨hsL, h⟩]
      have hkl := kd_le (B s)
      refine r_aload_n qX1_nextToken_60 rfl ?_
      refine r_aload_n qX1_nextToken_61 rfl ?_
      refine r_geti qX1_nextToken_62 fX1_242 rfl (by assumption) ?_
      rw [wA_s, f6]
      refine r_puti qX1_nextToken_65 fX1_48 (Or.inl rfl) rfl rfl rfl (by assumption) ?_
      simp only [wA_s, wA_wA]
      refine r_aload_n qX1_nextToken_68 rfl ?_
      refine r_geti qX1_nextToken_69 fX1_242 rfl (by assumption) ?_
      simp (disch := decide) only [wA_s, pk_us, pk_un, f6]
      refine r_aload_n qX1_nextToken_72 rfl ?_
      refine r_geti qX1_nextToken_73 fX1_26 rfl (by assumption) ?_
      simp (disch := decide) only [wA_s, pk_us, pk_un, fL]
      refine r_icmp_lt (t := 85) qX1_nextToken_76 (by decide) (fun hc76 => ?_) (fun hc76 => absurd hc76 (fun h => h (nI_lt hsL (by omega))))
      refine r_aload_n qX1_nextToken_85 rfl ?_
      refine r_aload_n qX1_nextToken_86 rfl ?_
      refine r_getr qX1_nextToken_87 fX1_11 rfl (by assumption) (by first | assumption | rfl) ?_
      refine r_aload_n qX1_nextToken_90 rfl ?_
      refine r_geti qX1_nextToken_91 fX1_242 rfl (by assumption) ?_
      simp (disch := decide) only [wA_s, pk_us, pk_un, f6]
      refine r_baldN qX1_nextToken_94 (by assumption) (by assumption) (by omega) rfl ?_
      rw [wA_n tr, hB]
      refine r_cs1 (cu2 := 0) (su2 := 0) qX1_nextToken_95 kX1_259 rfl (by decide +kernel) rfl rfl rfl rfl rfl ?_
      refine c_X1_kindOf ?_
      show zR E _ _ X 98 _ _ _ _ _ _ _
      refine r_puti qX1_nextToken_98 fX1_57 (Or.inl rfl) rfl rfl rfl (by assumption) ?_
      simp only [wA_s, wA_wA]
      refine r_aload_n qX1_nextToken_101 rfl ?_
      refine r_dup qX1_nextToken_102 rfl ?_
      refine r_geti qX1_nextToken_103 fX1_48 rfl (by assumption) ?_
      simp (disch := decide) only [wA_s, pk_us, pk_un]
      refine r_iconst (v := nI 1) qX1_nextToken_106 (by decide) ?_
      first | with_reducible refine r_iaddN qX1_nextToken_107 ?_ | refine r_iadd qX1_nextToken_107 ?_
      refine r_puti qX1_nextToken_108 fX1_48 (Or.inl rfl) rfl rfl rfl (by assumption) ?_
      simp only [wA_s, wA_wA]
      by_cases hk1 : kLet (B s) = true
      · exact K111 kLet 1 (fun v => kd_1) (Or.inl rfl) (kd_1.mpr hk1) (L - (s + 1)) (s + 1) _ rfl (by omega) (by rw [hEn, if_pos hk1, run1 _ hk1]) (by simp (disch := decide) only [pk_us, pk_un]; exact f6) (by rw [pk_us]) (by simp (disch := decide) only [pk_us, pk_un]; rw [kd_1.mpr hk1]) (fun m m1 m2 m3 => by rw [pk_un m3, pk_un m1, pk_un m3]; exact fo m m1 m2 m3)
      · by_cases hk2 : kDig (B s) = true
        · exact K111 kDig 2 (fun v => kd_2) (Or.inr rfl) (kd_2.mpr hk2) (L - (s + 1)) (s + 1) _ rfl (by omega) (by rw [hEn, if_neg hk1, if_pos hk2, run1 _ hk2]) (by simp (disch := decide) only [pk_us, pk_un]; exact f6) (by rw [pk_us]) (by simp (disch := decide) only [pk_us, pk_un]; rw [kd_2.mpr hk2]) (fun m m1 m2 m3 => by rw [pk_un m3, pk_un m1, pk_un m3]; exact fo m m1 m2 m3)
        · have hz : ∀ kk, (kk = 1 ∨ kk = 2) → ¬ nI (kd (B s)) = nI kk := fun kk hkk h => by
            have h2 := (nI_eq (by omega) (by omega)).mp h
            rcases hkk with h3 | h3
            · exact hk1 (kd_1.mp (h2.trans h3))
            · exact hk2 (kd_2.mp (h2.trans h3))
          refine r_aload_n qX1_nextToken_111 rfl ?_
          refine r_geti qX1_nextToken_112 fX1_57 rfl (by assumption) ?_
          simp (disch := decide) only [wA_s, pk_us, pk_un]
          refine r_iconst (v := nI 1) qX1_nextToken_115 (by decide) ?_
          refine r_icmp_eq (t := 127) qX1_nextToken_116 (by decide) (fun hc => absurd hc (hz 1 (Or.inl rfl))) (fun hc => ?_)
          refine r_aload_n qX1_nextToken_119 rfl ?_
          refine r_geti qX1_nextToken_120 fX1_57 rfl (by assumption) ?_
          simp (disch := decide) only [wA_s, pk_us, pk_un]
          refine r_iconst (v := nI 2) qX1_nextToken_123 (by decide) ?_
          refine r_icmp_ne (t := 170) qX1_nextToken_124 (by decide) (fun hc => ?_) (fun hc => absurd hc (hz 2 (Or.inr rfl)))
          refine r_vret qX1_nextToken_170 rfl rfl rfl ?_
          exact hK _ ⟨by simp (disch := decide) only [pk_us, pk_un]; exact f6, by rw [pk_us, hEn, if_neg hk1, if_neg hk2], by simp (disch := decide) only [pk_us, pk_un]; rw [hKd]⟩ (fun m m1 m2 m3 => by rw [pk_un m3, pk_un m1, pk_un m3]; exact fo m m1 m2 m3)
    · skip
      have hKd : cKind B L s = 0 := by rw [cKind, if_pos (by omega)]
      have hEn : sEnd B L s = s := by rw [sEnd, if_pos (by omega)]
      refine r_aload_n qX1_nextToken_60 rfl ?_
      refine r_aload_n qX1_nextToken_61 rfl ?_
      refine r_geti qX1_nextToken_62 fX1_242 rfl (by assumption) ?_
      rw [wA_s, f6]
      refine r_puti qX1_nextToken_65 fX1_48 (Or.inl rfl) rfl rfl rfl (by assumption) ?_
      simp only [wA_s, wA_wA]
      refine r_aload_n qX1_nextToken_68 rfl ?_
      refine r_geti qX1_nextToken_69 fX1_242 rfl (by assumption) ?_
      simp (disch := decide) only [wA_s, pk_us, pk_un, f6]
      refine r_aload_n qX1_nextToken_72 rfl ?_
      refine r_geti qX1_nextToken_73 fX1_26 rfl (by assumption) ?_
      simp (disch := decide) only [wA_s, pk_us, pk_un, fL]
      refine r_icmp_lt (t := 85) qX1_nextToken_76 (by decide) (fun hc76 => absurd hc76 (fun h => absurd h (Int32.not_lt.mpr (nI_le (by omega) (by omega))))) (fun hc76 => ?_)
      refine r_aload_n qX1_nextToken_79 rfl ?_
      refine r_iconst (v := nI 0) qX1_nextToken_80 (by decide) ?_
      refine r_puti qX1_nextToken_81 fX1_57 (Or.inl rfl) rfl rfl rfl (by assumption) ?_
      simp only [wA_s, wA_wA]
      refine r_vret qX1_nextToken_84 rfl rfl rfl ?_
      exact hK _ ⟨by simp (disch := decide) only [pk_us, pk_un]; exact f6, by simp (disch := decide) only [pk_us, pk_un]; rw [hEn], by rw [pk_us, hKd]⟩ (fun m m1 m2 m3 => by rw [pk_un m1, pk_un m3]; exact fo m m1 m2 m3)
  have K8 : ∀ (q e : Nat) (F : Nat → Int32), q = L - e → e ≤ L → sSkip B L (L - a) a = sSkip B L q e → F 6 = nI e → (∀ m, m ≠ 5 → m ≠ 6 → m ≠ 7 → F m = i rd m) → zR E mX1_nextToken (zZ E mX1_nextToken K) X 8 [.ref rd] [] g (wA i rd F) j 0 0 := by
    intro q
    induction q with
    | zero =>
      intro e F hq he hsk f6 fo
      have fL : F 2 = nI L := (fo 2 (by decide) (by decide) (by decide)).trans hL
      rw [sSkip] at hsk
      refine r_aload_n qX1_nextToken_8 rfl ?_
      refine r_geti qX1_nextToken_9 fX1_242 rfl (by assumption) ?_
      rw [wA_s, f6]
      refine r_aload_n qX1_nextToken_12 rfl ?_
      refine r_geti qX1_nextToken_13 fX1_26 rfl (by assumption) ?_
      rw [wA_s, fL]
      refine r_icmp_ge (t := 60) qX1_nextToken_16 (by decide) (fun hc16 => ?_) (fun hc16 => absurd hc16 (fun h => h (nI_le (by omega) (by omega))))
      exact K60 e F he hsk f6 fo
    | succ q ih =>
      intro e F hq he hsk f6 fo
      have fL : F 2 = nI L := (fo 2 (by decide) (by decide) (by decide)).trans hL
      have heL : e < L := by omega
      rw [sSkip] at hsk
      refine r_aload_n qX1_nextToken_8 rfl ?_
      refine r_geti qX1_nextToken_9 fX1_242 rfl (by assumption) ?_
      rw [wA_s, f6]
      refine r_aload_n qX1_nextToken_12 rfl ?_
      refine r_geti qX1_nextToken_13 fX1_26 rfl (by assumption) ?_
      rw [wA_s, fL]
      refine r_icmp_ge (t := 60) qX1_nextToken_16 (by decide) (fun hc16 => absurd hc16 (nI_ge heL (by omega))) (fun hc16 => ?_)
      refine r_aload_n qX1_nextToken_19 rfl ?_
      refine r_getr qX1_nextToken_20 fX1_11 rfl (by assumption) (by first | assumption | rfl) ?_
      refine r_aload_n qX1_nextToken_23 rfl ?_
      refine r_geti qX1_nextToken_24 fX1_242 rfl (by assumption) ?_
      rw [wA_s, f6]
      refine r_baldN qX1_nextToken_27 (by assumption) (by assumption) (by omega) rfl ?_
      rw [wA_n tr, hB]
      refine r_bipush (v := nI 32) qX1_nextToken_28 (by decide) ?_
      refine r_icmp_eq (t := 47) qX1_nextToken_30 (by decide) (fun hc30 => ?_) (fun hc30 => ?_)
      · refine r_aload_n qX1_nextToken_47 rfl ?_
        refine r_dup qX1_nextToken_48 rfl ?_
        refine r_geti qX1_nextToken_49 fX1_242 rfl (by assumption) ?_
        rw [wA_s, f6]
        refine r_iconst (v := nI 1) qX1_nextToken_52 (by decide) ?_
        first | with_reducible refine r_iaddN qX1_nextToken_53 ?_ | refine r_iadd qX1_nextToken_53 ?_
        refine r_puti qX1_nextToken_54 fX1_242 (Or.inl rfl) rfl rfl rfl (by assumption) ?_
        simp only [wA_s, wA_wA]
        refine r_goto (t := 8) qX1_nextToken_57 (by decide) ?_
        have w : kSp (B e) = true := by
          first | exact decide_eq_true (Or.inl hc30) | exact decide_eq_true (Or.inr hc44)
        exact ih (e + 1) _ (by omega) (by omega) (hsk.trans (if_pos ⟨heL, w⟩)) (by rw [pk_us]) (fun m m1 m2 m3 => by rw [pk_un m2]; exact fo m m1 m2 m3)
      · refine r_aload_n qX1_nextToken_33 rfl ?_
        refine r_getr qX1_nextToken_34 fX1_11 rfl (by assumption) (by first | assumption | rfl) ?_
        refine r_aload_n qX1_nextToken_37 rfl ?_
        refine r_geti qX1_nextToken_38 fX1_242 rfl (by assumption) ?_
        rw [wA_s, f6]
        refine r_baldN qX1_nextToken_41 (by assumption) (by assumption) (by omega) rfl ?_
        rw [wA_n tr, hB]
        refine r_bipush (v := nI 10) qX1_nextToken_42 (by decide) ?_
        refine r_icmp_ne (t := 60) qX1_nextToken_44 (by decide) (fun hc44 => ?_) (fun hc44 => ?_)
        · exact K60 e F he (by rw [hsk, if_neg (fun h => (of_decide_eq_true h.2).elim hc30 hc44)]) f6 fo
        · refine r_aload_n qX1_nextToken_47 rfl ?_
          refine r_dup qX1_nextToken_48 rfl ?_
          refine r_geti qX1_nextToken_49 fX1_242 rfl (by assumption) ?_
          rw [wA_s, f6]
          refine r_iconst (v := nI 1) qX1_nextToken_52 (by decide) ?_
          first | with_reducible refine r_iaddN qX1_nextToken_53 ?_ | refine r_iadd qX1_nextToken_53 ?_
          refine r_puti qX1_nextToken_54 fX1_242 (Or.inl rfl) rfl rfl rfl (by assumption) ?_
          simp only [wA_s, wA_wA]
          refine r_goto (t := 8) qX1_nextToken_57 (by decide) ?_
          have w : kSp (B e) = true := by
            first | exact decide_eq_true (Or.inl hc30) | exact decide_eq_true (Or.inr hc44)
          exact ih (e + 1) _ (by omega) (by omega) (hsk.trans (if_pos ⟨heL, w⟩)) (by rw [pk_us]) (fun m m1 m2 m3 => by rw [pk_un m2]; exact fo m m1 m2 m3)
  refine r_aload_n qX1_nextToken_0 rfl ?_
  refine r_aload_n qX1_nextToken_1 rfl ?_
  refine r_geti qX1_nextToken_2 fX1_48 rfl (by assumption) ?_
  rw [ha]
  refine r_puti qX1_nextToken_5 fX1_242 (Or.inl rfl) rfl rfl rfl (by assumption) ?_
  exact K8 (L - a) a _ rfl haL rfl (by rw [pk_us]) (fun m m1 m2 m3 => pk_un m2)


