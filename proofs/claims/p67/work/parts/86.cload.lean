/-! ===== THE CLASS LOADS ===== -/
set_option maxHeartbeats 4000000 in
set_option maxRecDepth 20000 in
theorem c_X3_load {E : Ev} {g : Sh} {i : Ni} {j : Nj} {K : Kp} {c rd tx ur sl sf sb u w L : Nat} {A : Nat → Nat → Nat} {N B : Nat → Int32} (hY : zY g c rd tx ur sl sf sb A) (g0 : gT g 0 = 0) (hH : zH i (A 0) N) (hu : i c 7 = nI u) (hu6 : u < 6) (hw : i c 8 = nI w) (hw6 : w ≤ 6) (hN : zNo i (A (3 + u))) (hN2 : zNo i (A 2)) (hL : i rd 2 = nI L) (hL6 : L ≤ 600) (hB : i tx = B) (hBy : zByt B) (hK0 : ∀ c' w', mText B L = .error (c', w') → ¬ c' = 0 → ∀ i' : Ni, i' c 9 = c' → i' c 10 = nI w' → (∀ f, f ≠ 9 → f ≠ 10 → i' c f = i c f) → i' rd 2 = nI 0 → zNo i' (A 2) → (∀ r, r ≠ c → r ≠ rd → (∀ q, q < 30 → r ≠ A 2 q) → i' r = i r) → K (.inl (some (.int (-7)))) g i' j) (hK1 : ∀ t' N2, mText B L = .ok (t', N2) → ∀ i' : Ni, zH i' (A 0) N2 → zH i' (A (3 + u)) N → i' c 7 = nI (if u = 5 then 0 else u + 1) → i' c 8 = nI (if w = 6 then 6 else w + 1) → i' c 9 = 0 → i' c 10 = -1 → i' rd 2 = nI 0 → zNo i' (A 2) → (∀ r, r ≠ c → r ≠ rd → (∀ q, q < 30 → r ≠ A 2 q) → (∀ q, q < 30 → r ≠ A 0 q) → (∀ q, q < 30 → r ≠ A (3 + u) q) → i' r = i r) → K (.inl (some (.int (N2 5)))) g i' j) : zCon E mX3_load [.ref c] g i j K := by
  refine zcon_of (by decide +kernel) rfl rfl (lo := [.ref c]) rfl (fun X => ?_)
  have x1 := hY.1
  obtain ⟨x2, r1, r2, r3, r4, r5⟩ := hY.rdd
  have x3 := hY.x.2.1
  have hC2 := hY.cc (show 2 < 11 by decide)
  have hC0 := hY.cc (show 0 < 11 by decide)
  have hS : yS g rd tx (A 2) := ⟨⟨r1, r2, r4, r5⟩, r3, hC2, g0⟩
  have a1 := hC0.1
  have cr : c ≠ rd := by rintro rfl; omega
  have rc := Ne.symm cr
  have cA : ∀ n q, n < 11 → q < 30 → A n q ≠ c := fun n q hn hq => hY.cn hn hq
  have rA : ∀ n q, n < 11 → q < 30 → A n q ≠ rd := fun n q hn hq => hY.an hn hq r1 (by decide)
  have K7e : ∀ (c' : Int32) (w' : Nat) (i1 : Ni), mText B L = .error (c', w') → ¬ c' = 0 → i1 rd 3 = c' → i1 rd 4 = nI w' → zNo i1 (A 2) → zFy rd (A 2) i1 i → zR E mX3_load (zZ E mX3_load K) X 7 [.ref c] [] g i1 j 0 0 := by
    intro c' w' i1 he h0 e3 e4 eN ⟨f1, f2⟩
    have ec : i1 c = i c := f2 c cr (fun q hq => Ne.symm (cA 2 q (by decide) hq))
    refine r_aload_n qX3_load_7 rfl ?_
    refine r_getr qX3_load_8 fX3_36 rfl (by assumption) (by first | assumption | rfl) ?_
    refine r_iconst (v := nI 0) qX3_load_11 (by decide) ?_
    refine r_puti qX3_load_12 fX3_32 (Or.inl rfl) rfl rfl rfl (by assumption) ?_
    refine r_aload_n qX3_load_15 rfl ?_
    refine r_aload_n qX3_load_16 rfl ?_
    refine r_getr qX3_load_17 fX3_36 rfl (by assumption) (by first | assumption | rfl) ?_
    refine r_geti qX3_load_20 fX3_95 rfl (by assumption) ?_
    rw [wA_s, pk_un (by decide), e3]
    refine r_puti qX3_load_23 fX3_74 (Or.inl rfl) rfl rfl rfl (by assumption) ?_
    refine r_aload_n qX3_load_26 rfl ?_
    refine r_aload_n qX3_load_27 rfl ?_
    refine r_getr qX3_load_28 fX3_36 rfl (by assumption) (by first | assumption | rfl) ?_
    refine r_geti qX3_load_31 fX3_98 rfl (by assumption) ?_
    rw [wA_n rc, wA_s, pk_un (by decide), e4]
    refine r_puti qX3_load_34 fX3_77 (Or.inl rfl) rfl rfl rfl (by assumption) ?_
    simp only [wA_s, wA_wA, wA_n cr, ec]
    refine r_aload_n qX3_load_37 rfl ?_
    refine r_geti qX3_load_38 fX3_74 rfl (by assumption) ?_
    simp (disch := decide) only [wA_s, pk_us, pk_un]
    refine r_if_eq (t := 47) qX3_load_41 (by decide) (fun hc41 => absurd hc41 (h0)) (fun hc41 => ?_)
    refine r_bipush (v := (-7)) qX3_load_44 (by decide) ?_
    refine r_iret qX3_load_46 rfl rfl rfl rfl ?_
    exact hK0 c' w' he h0 _ (by simp (disch := decide) only [wA_s, pk_us, pk_un]) (by simp (disch := decide) only [wA_s, pk_us, pk_un]) (fun f h9 h10 => by rw [wA_s, pk_un h10, pk_un h9]) (by rw [wA_n rc, wA_s, pk_us]) (fun z hz => by rw [wA_n (cA _ _ (by decide) (by omega)), wA_n (rA _ _ (by decide) (by omega))]; exact eN z hz) (fun r h1 h2 h3 => by rw [wA_n h1, wA_n h2]; exact f2 r h2 h3)
  have K7o : ∀ (t' : Nat) (N2 : Nat → Int32) (i1 : Ni), mText B L = .ok (t', N2) → i1 rd 3 = 0 → i1 rd 4 = -1 → zH i1 (A 2) N2 → zFy rd (A 2) i1 i → zR E mX3_load (zZ E mX3_load K) X 7 [.ref c] [] g i1 j 0 0 := by
    intro t' N2 i1 he e3 e4 eH ⟨f1, f2⟩
    have ec : i1 c = i c := f2 c cr (fun q hq => Ne.symm (cA 2 q (by decide) hq))
    have eA : ∀ n q, n < 11 → n ≠ 2 → q < 30 → i1 (A n q) = i (A n q) := fun n q hn h2 hq => f2 _ (rA n q hn hq) (fun q2 hq2 => hY.ne hn (by decide) h2 hq hq2)
    refine r_aload_n qX3_load_7 rfl ?_
    refine r_getr qX3_load_8 fX3_36 rfl (by assumption) (by first | assumption | rfl) ?_
    refine r_iconst (v := nI 0) qX3_load_11 (by decide) ?_
    refine r_puti qX3_load_12 fX3_32 (Or.inl rfl) rfl rfl rfl (by assumption) ?_
    refine r_aload_n qX3_load_15 rfl ?_
    refine r_aload_n qX3_load_16 rfl ?_
    refine r_getr qX3_load_17 fX3_36 rfl (by assumption) (by first | assumption | rfl) ?_
    refine r_geti qX3_load_20 fX3_95 rfl (by assumption) ?_
    rw [wA_s, pk_un (by decide), e3]
    refine r_puti qX3_load_23 fX3_74 (Or.inl rfl) rfl rfl rfl (by assumption) ?_
    refine r_aload_n qX3_load_26 rfl ?_
    refine r_aload_n qX3_load_27 rfl ?_
    refine r_getr qX3_load_28 fX3_36 rfl (by assumption) (by first | assumption | rfl) ?_
    refine r_geti qX3_load_31 fX3_98 rfl (by assumption) ?_
    rw [wA_n rc, wA_s, pk_un (by decide), e4]
    refine r_puti qX3_load_34 fX3_77 (Or.inl rfl) rfl rfl rfl (by assumption) ?_
    simp only [wA_s, wA_wA, wA_n cr, ec]
    generalize hi2 : wA (wA i1 rd (upd (i1 rd) 2 (nI 0))) c (upd (upd (i c) 9 0) 10 (-1)) = i2
    have m1 : i2 c = upd (upd (i c) 9 0) 10 (-1) := by rw [← hi2, wA_s]
    have m2 : i2 rd = upd (i1 rd) 2 (nI 0) := by rw [← hi2, wA_n rc, wA_s]
    have m3 : ∀ r, r ≠ c → r ≠ rd → i2 r = i1 r := fun r h1 h2 => by rw [← hi2, wA_n h1, wA_n h2]
    clear hi2
    have mA : ∀ n q, n < 11 → q < 30 → i2 (A n q) = i1 (A n q) := fun n q hn hq => m3 _ (cA n q hn hq) (rA n q hn hq)
    refine r_aload_n qX3_load_37 rfl ?_
    refine r_geti qX3_load_38 fX3_74 rfl (by assumption) ?_
    rw [m1]; simp (disch := decide) only [pk_us, pk_un]
    refine r_if_eq (t := 47) qX3_load_41 (by decide) (fun hc41 => ?_) (fun hc41 => absurd hc41 (by decide))
    refine r_aload_n qX3_load_47 rfl ?_
    refine r_cv0 (cu2 := 0) (su2 := 0) qX3_load_48 kX3_101 rfl (by decide +kernel) (c := 3) (by assumption) (by decide) rfl rfl rfl rfl rfl rfl ?_
    refine c_X3_rememberCurrent (N := N) hY (hH.ou (fun q hq => by rw [mA 0 q (by decide) hq, eA 0 q (by decide) (by decide) hq])) (u := u) (by rw [m1, pk_un (by decide), pk_un (by decide)]; exact hu) hu6 (w := w) (by rw [m1, pk_un (by decide), pk_un (by decide)]; exact hw) hw6 (fun z hz => by rw [mA _ _ (by omega) (by omega), eA _ _ (by omega) (by omega) (by omega)]; exact hN z hz) (fun i3 R3 => ?_)
    have R3' := R3
    obtain ⟨q1, q2, q3, q4, q5⟩ := R3
    have H2 : zH i3 (A 2) N2 := eH.ou (fun q hq => by rw [q5 _ (cA 2 q (by decide) hq) (fun q2 hq2 => hY.ne (by decide) (by omega) (by omega) hq hq2), mA 2 q (by decide) hq])
    have HN : zNo i3 (A 0) := fun z hz => by rw [q5 _ (cA 0 _ (by decide) (by omega)) (fun q2 hq2 => hY.ne (by decide) (by omega) (by omega) (by omega) hq2), mA 0 _ (by decide) (by omega), eA 0 _ (by decide) (by decide) (by omega)]; exact hH.no z hz
    show zR E _ _ X 51 _ _ _ _ _ _ _
    refine r_aload_n qX3_load_51 rfl ?_
    refine r_getr qX3_load_52 fX3_40 rfl (by assumption) (by first | assumption | rfl) ?_
    refine r_aload_n qX3_load_55 rfl ?_
    refine r_getr qX3_load_56 fX3_36 rfl (by assumption) (by first | assumption | rfl) ?_
    refine r_getr qX3_load_59 fX3_24 rfl (by assumption) (by first | assumption | rfl) ?_
    refine r_cv1 (cu2 := 0) (su2 := 0) qX3_load_62 kX3_28 rfl (by decide +kernel) (c := 0) (by assumption) (by decide) rfl rfl rfl rfl rfl rfl ?_
    refine c_X0_copyFrom hC0 hC2 (fun p q hp hq => hY.ne (by decide) (by decide) (by decide) hp hq) H2 HN (fun i4 H4 o4 => ?_)
    show zR E _ _ X 65 _ _ _ _ _ _ _
    refine r_aload_n qX3_load_65 rfl ?_
    refine r_getr qX3_load_66 fX3_40 rfl (by assumption) (by first | assumption | rfl) ?_
    refine r_geti qX3_load_69 fX3_104 rfl (by assumption) ?_
    refine r_iret qX3_load_72 rfl rfl rfl rfl ?_
    have e4c : i4 c = i3 c := o4 c (fun q hq => Ne.symm (cA 0 q (by decide) hq))
    have e4r : i4 rd = i2 rd := (o4 rd (fun q hq => Ne.symm (rA 0 q (by decide) hq))).trans (q5 rd rc (fun q hq => Ne.symm (rA _ q (by omega) hq)))
    rw [H4.cnt.2.2.1]
    exact hK1 t' N2 he i4 H4 (q1.ou (fun q hq => o4 _ (fun q2 hq2 => hY.ne (by omega) (by decide) (by omega) hq hq2))) (by rw [e4c]; exact q2) (by rw [e4c]; exact q3) (by rw [e4c, q4 9 (by decide) (by decide), m1, pk_un (by decide), pk_us]) (by rw [e4c, q4 10 (by decide) (by decide), m1, pk_us]) (by rw [e4r, m2, pk_us]) (fun z hz => by rw [o4 _ (fun q2 hq2 => hY.ne (by decide) (by decide) (by decide) (by omega) hq2)]; exact H2.no z hz) (fun r h1 h2 h3 h4 h5 => by rw [o4 r h4, q5 r h1 h5, m3 r h1 h2]; exact f2 r h2 h3)
  refine r_aload_n qX3_load_0 rfl ?_
  refine r_getr qX3_load_1 fX3_36 rfl (by assumption) (by first | assumption | rfl) ?_
  refine r_cv0 (cu2 := 0) (su2 := 0) qX3_load_4 kX3_21 rfl (by decide +kernel) (c := 1) (by assumption) (by decide) rfl rfl rfl rfl rfl rfl ?_
  refine c_X1_readSetup hS hL hL6 hB hBy hN2 (fun c' w' he h0 i1 e3 e4 eN ef => K7e c' w' i1 he h0 e3 e4 eN ef) (fun t' N2 he i1 e3 e4 eH ef => K7o t' N2 i1 he e3 e4 eH ef)


