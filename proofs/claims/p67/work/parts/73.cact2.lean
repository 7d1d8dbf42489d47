/-! ===== THE CLASS: SAVE, RESTORE, UNDO; THE BUFFER ===== -/
section
variable {g : Sh} {c rd tx ur sl sf sb : Nat} {A : Nat → Nat → Nat}
theorem zY.k13 (h : zY g c rd tx ur sl sf sb A) : gT g sf = 13 ∧ gL g sf = 2 ∧ gR g c 5 = sf := by
  obtain ⟨-, -, -, -, -, -, y7, -, -, -, -, -, ⟨y13, y14⟩, -⟩ := h
  exact ⟨y13, y14, y7⟩
theorem zY.sll (h : zY g c rd tx ur sl sf sb A) : gR g c 4 = sl ∧ gT g sl = 16 ∧ gL g sl = 2 ∧ ∀ q, q < 2 → gR g sl q = A (9 + q) 0 := by
  obtain ⟨-, -, -, -, -, y6, -, -, -, -, -, ⟨y13, y14, y15⟩, -⟩ := h
  exact ⟨y6, y13, y14, y15⟩
theorem zY.urr (h : zY g c rd tx ur sl sf sb A) : gR g c 3 = ur ∧ gT g ur = 16 ∧ gL g ur = 6 ∧ ∀ q, q < 6 → gR g ur q = A (3 + q) 0 := by
  obtain ⟨-, -, -, -, y5, -, -, -, -, -, ⟨y13, y14, y15⟩, -⟩ := h
  exact ⟨y5, y13, y14, y15⟩
theorem zY.rdd (h : zY g c rd tx ur sl sf sb A) : gR g c 0 = rd ∧ gT g rd = 2 ∧ gR g rd 0 = tx ∧ gR g rd 1 = A 2 0 ∧ gT g tx = 12 ∧ gL g tx = 600 := by
  obtain ⟨-, y2, -, -, -, -, -, -, ⟨y9, y10, y11⟩, ⟨y13, y14⟩, -⟩ := h
  exact ⟨y2, y9, y10, y11, y13, y14⟩
theorem zY.an (h : zY g c rd tx ur sl sf sb A) {n q r k : Nat} (hn : n < 11) (hq : q < 30) (hk : gT g r = k) (h1 : k ≠ 1 ∧ k ≠ 11 ∧ k ≠ 15 ∧ k ≠ 3) : A n q ≠ r := fun e => by
  have z := (h.cc hn).kd hq
  rw [e, hk] at z
  omega
end
set_option maxHeartbeats 4000000 in
set_option maxRecDepth 20000 in
theorem c_X3_undo {E : Ev} {g : Sh} {i : Ni} {j : Nj} {K : Kp} {c rd tx ur sl sf sb u w : Nat} {A : Nat → Nat → Nat} {N N2 : Nat → Int32} (hY : zY g c rd tx ur sl sf sb A) (hH : zH i (A 0) N) (hu : i c 7 = nI u) (hu6 : u < 6) (hw : i c 8 = nI w) (hw6 : w ≤ 6) (hS : w ≠ 0 → zH i (A (3 + (if u = 0 then 5 else u - 1))) N2) (hK0 : w = 0 → K (.inr 0) g i j) (hK1 : w ≠ 0 → ∀ i' : Ni, zH i' (A 0) N2 → i' c 7 = nI (if u = 0 then 5 else u - 1) → i' c 8 = nI (w - 1) → (∀ f, f ≠ 7 → f ≠ 8 → i' c f = i c f) → (∀ r, r ≠ c → (∀ q, q < 30 → r ≠ A 0 q) → i' r = i r) → K (.inl (some (.int (nI (w - 1))))) g i' j) : zCon E mX3_undo [.ref c] g i j K := by
  refine zcon_of (by decide +kernel) rfl rfl (lo := [.ref c]) rfl (fun X => ?_)
  obtain ⟨x1, x2, hC⟩ := id hY.x
  have hX := hY.x
  have hO := hH.1
  obtain ⟨a1, a2, a3, a4, a5, a6, a7, a8, a9, a10, a11, a12, a13, a14, a15, a16, -⟩ := id hC
  obtain ⟨c5, c6, c7, c8, c9, c10, c11, c12⟩ := hH.cnt
  obtain ⟨hT, hT8⟩ := hO.T8
  obtain ⟨hBt, hB4⟩ := hO.B4
  obtain ⟨s1, s2, s3, s4⟩ := hY.urr
  have cA : ∀ n q, n < 11 → q < 30 → A n q ≠ c := fun n q hn hq => hY.cn hn hq
  have K49 : ∀ (i1 : Ni) (p : Nat), w ≠ 0 → p = (if u = 0 then 5 else u - 1) → i1 c 7 = nI p → i1 c 8 = nI (w - 1) → (∀ f, f ≠ 7 → f ≠ 8 → i1 c f = i c f) → (∀ r, r ≠ c → i1 r = i r) → zR E mX3_undo (zZ E mX3_undo K) X 49 [.ref c] [] g i1 j 0 0 := by
    intro i1 p hw0 hp e7 e8 ef eo
    have hp6 : p < 6 := by subst hp; split <;> omega
    have s5 := s4 p hp6
    have hCp := hY.cc (show 3 + p < 11 by omega)
    replace hS := hS hw0
    rw [← hp] at hS
    have HS1 : zH i1 (A (3 + p)) N2 := hS.ou (fun q hq => eo _ (cA _ _ (by omega) hq))
    have HN1 : zNo i1 (A 0) := (hH.ou (fun q hq => eo _ (cA _ _ (by decide) hq))).nn
    rw [← hp] at hK1
    refine r_aload_n qX3_undo_49 rfl ?_
    refine r_getr qX3_undo_50 fX3_40 rfl (by assumption) (by first | assumption | rfl) ?_
    refine r_aload_n qX3_undo_53 rfl ?_
    refine r_getr qX3_undo_54 fX3_50 rfl (by assumption) (by first | assumption | rfl) ?_
    refine r_aload_n qX3_undo_57 rfl ?_
    refine r_geti qX3_undo_58 fX3_68 rfl (by assumption) ?_
    rw [e7]
    refine r_aaldN qX3_undo_61 (by first | exact Or.inl (by assumption) | exact Or.inr (by assumption)) (by assumption) (by omega) rfl (by first | assumption | rfl) ?_
    refine r_cv1 (cu2 := 0) (su2 := 0) qX3_undo_62 kX3_28 rfl (by decide +kernel) (c := 0) (by assumption) (by decide) rfl rfl rfl rfl rfl rfl ?_
    refine c_X0_copyFrom hC hCp (fun p q hp hq => hY.ne (by decide) (by omega) (by omega) hp hq) HS1 HN1 (fun i2 H2 o2 => ?_)
    show zR E _ _ X 65 _ _ _ _ _ _ _
    refine r_aload_n qX3_undo_65 rfl ?_
    refine r_geti qX3_undo_66 fX3_71 rfl (by assumption) ?_
    rw [o2 c (fun q hq => Ne.symm (cA _ _ (by decide) hq)), e8]
    refine r_iret qX3_undo_69 rfl rfl rfl rfl ?_
    have ec := o2 c (fun q hq => Ne.symm (cA _ _ (by decide) hq))
    exact hK1 hw0 i2 H2 (by rw [ec]; exact e7) (by rw [ec]; exact e8) (fun f f1 f2 => by rw [ec]; exact ef f f1 f2) (fun r r1 r2 => (o2 r r2).trans (eo r r1))
  refine r_aload_n qX3_undo_0 rfl ?_
  refine r_geti qX3_undo_1 fX3_71 rfl (by assumption) ?_
  rw [hw]
  refine r_if_ne (t := 18) qX3_undo_4 (by decide) (fun hc4 => ?_) (fun hc4 => ?_)
  · have hw0 : w ≠ 0 := fun h => hc4 (by rw [h]; rfl)
    refine r_aload_n qX3_undo_18 rfl ?_
    refine r_dup qX3_undo_19 rfl ?_
    refine r_geti qX3_undo_20 fX3_71 rfl (by assumption) ?_
    rw [hw]
    refine r_iconst (v := nI 1) qX3_undo_23 (by decide) ?_
    refine r_isub qX3_undo_24 ?_
    rw [nI_sub (by omega)]
    refine r_puti qX3_undo_25 fX3_71 (Or.inl rfl) rfl rfl rfl (by assumption) ?_
    refine r_aload_n qX3_undo_28 rfl ?_
    refine r_aload_n qX3_undo_29 rfl ?_
    refine r_geti qX3_undo_30 fX3_68 rfl (by assumption) ?_
    rw [wA_s, pk_un (by decide), hu]
    refine r_if_ne (t := 40) qX3_undo_33 (by decide) (fun hc33 => ?_) (fun hc33 => ?_)
    · have hu0 : u ≠ 0 := fun h => hc33 (by rw [h]; rfl)
      refine r_aload_n qX3_undo_40 rfl ?_
      refine r_geti qX3_undo_41 fX3_68 rfl (by assumption) ?_
      rw [wA_s, pk_un (by decide), hu]
      refine r_iconst (v := nI 1) qX3_undo_44 (by decide) ?_
      refine r_isub qX3_undo_45 ?_
      (try rw [nI_sub (by omega)])
      refine r_puti qX3_undo_46 fX3_68 (Or.inl rfl) rfl rfl rfl (by assumption) ?_
      (try simp only [wA_s, wA_wA])
      first | exact K49 _ (u - 1) hw0 (by rw [if_neg hu0]) (by rw [wA_s, pk_us]) (by rw [wA_s, pk_un (by decide), pk_us]) (fun f f1 f2 => by rw [wA_s, pk_un f1, pk_un f2]) (fun r hr => wA_n hr) | exact K49 _ 5 hw0 (by rw [if_pos hu0]) (by rw [wA_s, pk_us]) (by rw [wA_s, pk_un (by decide), pk_us]) (fun f f1 f2 => by rw [wA_s, pk_un f1, pk_un f2]) (fun r hr => wA_n hr)
    · have hu0 : u = 0 := (nI_eq (by omega) (by decide)).mp hc33
      refine r_iconst (v := nI 5) qX3_undo_36 (by decide) ?_
      refine r_goto (t := 46) qX3_undo_37 (by decide) ?_
      (try rw [nI_sub (by omega)])
      refine r_puti qX3_undo_46 fX3_68 (Or.inl rfl) rfl rfl rfl (by assumption) ?_
      (try simp only [wA_s, wA_wA])
      first | exact K49 _ (u - 1) hw0 (by rw [if_neg hu0]) (by rw [wA_s, pk_us]) (by rw [wA_s, pk_un (by decide), pk_us]) (fun f f1 f2 => by rw [wA_s, pk_un f1, pk_un f2]) (fun r hr => wA_n hr) | exact K49 _ 5 hw0 (by rw [if_pos hu0]) (by rw [wA_s, pk_us]) (by rw [wA_s, pk_un (by decide), pk_us]) (fun f f1 f2 => by rw [wA_s, pk_un f1, pk_un f2]) (fun r hr => wA_n hr)
  · refine r_throww qX3_undo_7 qX3_undo_10 qX3_undo_11 qX3_undo_14 qX3_undo_17 tX3_80_275 rfl rfl rfl rfl rfl ?_
    exact hK0 ((nI_eq (by omega) (by decide)).mp hc4)
set_option maxHeartbeats 4000000 in
set_option maxRecDepth 20000 in
theorem c_X1_putByte {E : Ev} {g : Sh} {i : Ni} {j : Nj} {K : Kp} {rd tx f : Nat} {v : Int32} (r1 : gT g rd = 2) (r2 : gR g rd 0 = tx) (r3 : gT g tx = 12) (r4 : gL g tx = 600) (hf : i rd 2 = nI f) (hf6 : f < 600) (hK : K (.inl none) g (wA (wA i tx (upd (i tx) f (v.toInt8.toInt32.toInt8.toInt32))) rd (upd (i rd) 2 (nI (f + 1)))) j) : zCon E mX1_putByte [.ref rd, .int v] g i j K := by
  refine zcon_of (by decide +kernel) rfl rfl (lo := [.ref rd, .int v]) rfl (fun X => ?_)
  have rt : rd ≠ tx := by rintro rfl; omega
  refine r_aload_n qX1_putByte_0 rfl ?_
  refine r_geti qX1_putByte_1 fX1_26 rfl (by assumption) ?_
  rw [hf]
  refine r_if_lt (t := 38) qX1_putByte_4 (by decide) (fun hc4 => absurd hc4 (not_neg (by omega))) (fun hc4 => ?_)
  refine r_aload_n qX1_putByte_7 rfl ?_
  refine r_geti qX1_putByte_8 fX1_26 rfl (by assumption) ?_
  rw [hf]
  refine r_sipush (v := nI 600) qX1_putByte_11 (by decide) ?_
  refine r_icmp_ge (t := 38) qX1_putByte_14 (by decide) (fun hc14 => absurd hc14 (nI_ge (by omega) (by omega))) (fun hc14 => ?_)
  refine r_aload_n qX1_putByte_17 rfl ?_
  refine r_getr qX1_putByte_18 fX1_11 rfl (by assumption) (by first | assumption | rfl) ?_
  refine r_aload_n qX1_putByte_21 rfl ?_
  refine r_geti qX1_putByte_22 fX1_26 rfl (by assumption) ?_
  rw [hf]
  refine r_iload_n qX1_putByte_25 rfl ?_
  refine r_i2b qX1_putByte_26 ?_
  refine r_bastN qX1_putByte_27 (by assumption) (by assumption) (by omega) rfl ?_
  refine r_aload_n qX1_putByte_28 rfl ?_
  refine r_dup qX1_putByte_29 rfl ?_
  refine r_geti qX1_putByte_30 fX1_26 rfl (by assumption) ?_
  rw [wA_n rt, hf]
  refine r_iconst (v := nI 1) qX1_putByte_33 (by decide) ?_
  first | with_reducible refine r_iaddN qX1_putByte_34 ?_ | refine r_iadd qX1_putByte_34 ?_
  refine r_puti qX1_putByte_35 fX1_26 (Or.inl rfl) rfl rfl rfl (by assumption) ?_
  rw [wA_n rt]
  refine r_vret qX1_putByte_38 rfl rfl rfl ?_
  exact hK
theorem sh_0 (v : Int32) : v >>> (nI 0 &&& 31) = v := by
  rw [show nI 0 &&& 31 = 0 by decide]
  exact Int32.shiftRight_zero
set_option maxHeartbeats 4000000 in
set_option maxRecDepth 20000 in
theorem c_X1_putFourBytes {E : Ev} {g : Sh} {i : Ni} {j : Nj} {K : Kp} {rd tx f : Nat} {v : Int32} (r1 : gT g rd = 2) (r2 : gR g rd 0 = tx) (r3 : gT g tx = 12) (r4 : gL g tx = 600) (hf : i rd 2 = nI f) (hf6 : f + 4 ≤ 600) (hK : K (.inl none) g (wA (wA i tx (sStore (i tx) f v)) rd (upd (i rd) 2 (nI (f + 4)))) j) : zCon E mX1_putFourBytes [.ref rd, .int v] g i j K := by
  refine zcon_of (by decide +kernel) rfl rfl (lo := [.ref rd, .int v]) rfl (fun X => ?_)
  have rt : rd ≠ tx := by rintro rfl; omega
  have tr := Ne.symm rt
  have M : ∀ (F G P Q : Nat → Int32), wA (wA (wA (wA i tx F) rd G) tx P) rd Q = wA (wA i tx P) rd Q := fun F G P Q => by
    funext q
    by_cases h1 : q = rd
    · subst h1; rw [wA_s, wA_s]
    · by_cases h2 : q = tx
      · subst h2; rw [wA_n h1, wA_n h1, wA_s, wA_s]
      · rw [wA_n h1, wA_n h1, wA_n h2, wA_n h2, wA_n h1, wA_n h2]
  refine r_aload_n qX1_putFourBytes_0 rfl ?_
  refine r_iload_n qX1_putFourBytes_1 rfl ?_
  refine r_bipush (v := nI 24) qX1_putFourBytes_2 (by decide) ?_
  refine r_ishr qX1_putFourBytes_4 ?_
  refine r_cv1 (cu2 := 0) (su2 := 0) qX1_putFourBytes_5 kX1_29 rfl (by decide +kernel) (c := 1) (by assumption) (by decide) rfl rfl rfl rfl rfl rfl ?_
  refine c_X1_putByte r1 r2 r3 r4 (f := f) hf (by omega) ?_
  show zR E _ _ X 8 _ _ _ _ _ _ _
  refine r_aload_n qX1_putFourBytes_8 rfl ?_
  refine r_iload_n qX1_putFourBytes_9 rfl ?_
  refine r_bipush (v := nI 16) qX1_putFourBytes_10 (by decide) ?_
  refine r_ishr qX1_putFourBytes_12 ?_
  refine r_cv1 (cu2 := 0) (su2 := 0) qX1_putFourBytes_13 kX1_29 rfl (by decide +kernel) (c := 1) (by assumption) (by decide) rfl rfl rfl rfl rfl rfl ?_
  refine c_X1_putByte r1 r2 r3 r4 (f := f + 1) (by rw [wA_s, pk_us]) (by omega) ?_
  rw [M, wA_s, wA_n tr, wA_s, yup_twice]
  show zR E _ _ X 16 _ _ _ _ _ _ _
  refine r_aload_n qX1_putFourBytes_16 rfl ?_
  refine r_iload_n qX1_putFourBytes_17 rfl ?_
  refine r_bipush (v := nI 8) qX1_putFourBytes_18 (by decide) ?_
  refine r_ishr qX1_putFourBytes_20 ?_
  refine r_cv1 (cu2 := 0) (su2 := 0) qX1_putFourBytes_21 kX1_29 rfl (by decide +kernel) (c := 1) (by assumption) (by decide) rfl rfl rfl rfl rfl rfl ?_
  refine c_X1_putByte r1 r2 r3 r4 (f := f + 1 + 1) (by rw [wA_s, pk_us]) (by omega) ?_
  rw [M, wA_s, wA_n tr, wA_s, yup_twice]
  show zR E _ _ X 24 _ _ _ _ _ _ _
  refine r_aload_n qX1_putFourBytes_24 rfl ?_
  refine r_iload_n qX1_putFourBytes_25 rfl ?_
  refine r_cv1 (cu2 := 0) (su2 := 0) qX1_putFourBytes_26 kX1_29 rfl (by decide +kernel) (c := 1) (by assumption) (by decide) rfl rfl rfl rfl rfl rfl ?_
  refine c_X1_putByte r1 r2 r3 r4 (f := f + 1 + 1 + 1) (by rw [wA_s, pk_us]) (by omega) ?_
  rw [M, wA_s, wA_n tr, wA_s, yup_twice]
  show zR E _ _ X 29 _ _ _ _ _ _ _
  refine r_vret qX1_putFourBytes_29 rfl rfl rfl ?_
  rw [sStore] at hK; simp only [sByt, sh_0] at hK; exact hK
set_option maxHeartbeats 4000000 in
set_option maxRecDepth 20000 in
theorem c_X3_append {E : Ev} {g : Sh} {i : Ni} {j : Nj} {K : Kp} {c rd tx ur sl sf sb : Nat} {A : Nat → Nat → Nat} {N : Nat → Int32} {f : Nat} {a0 a1 a2 a3 a4 : Int32} (hY : zY g c rd tx ur sl sf sb A) (hf : i rd 2 = nI f) (hf6 : f ≤ 600) (hK0 : ¬ f + 20 ≤ 600 → K (.inr 0) g i j) (hK1 : f + 20 ≤ 600 → ∀ i' : Ni, i' rd = upd (i rd) 2 (nI (f + 20)) → i' tx = sApp (i tx) f a0 a1 a2 a3 a4 → (∀ r, r ≠ rd → r ≠ tx → i' r = i r) → K (.inl (some (.int (nI (f + 20))))) g i' j) : zCon E mX3_append [.ref c, .int a0, .int a1, .int a2, .int a3, .int a4] g i j K := by
  refine zcon_of (by decide +kernel) rfl rfl (lo := [.ref c, .int a0, .int a1, .int a2, .int a3, .int a4]) rfl (fun X => ?_)
  have x1 := hY.1
  obtain ⟨x2, r1, r2, -, r3, r4⟩ := hY.rdd
  have rt : rd ≠ tx := by rintro rfl; omega
  have tr := Ne.symm rt
  have M : ∀ (i : Ni) (F G P Q : Nat → Int32), wA (wA (wA (wA i tx F) rd G) tx P) rd Q = wA (wA i tx P) rd Q := fun i F G P Q => by
    funext q
    by_cases h1 : q = rd
    · subst h1; rw [wA_s, wA_s]
    · by_cases h2 : q = tx
      · subst h2; rw [wA_n h1, wA_n h1, wA_s, wA_s]
      · rw [wA_n h1, wA_n h1, wA_n h2, wA_n h2, wA_n h1, wA_n h2]
  refine r_aload_n qX3_append_0 rfl ?_
  refine r_getr qX3_append_1 fX3_36 rfl (by assumption) (by first | assumption | rfl) ?_
  refine r_geti qX3_append_4 fX3_32 rfl (by assumption) ?_
  rw [hf]
  refine r_bipush (v := nI 20) qX3_append_7 (by decide) ?_
  first | with_reducible refine r_iaddN qX3_append_9 ?_ | refine r_iadd qX3_append_9 ?_
  refine r_sipush (v := nI 600) qX3_append_10 (by decide) ?_
  refine r_icmp_le (t := 26) qX3_append_13 (by decide) (fun hc13 => ?_) (fun hc13 => ?_)
  · have h6 : f + 20 ≤ 600 := Nat.le_of_not_lt fun h => nI_ge h (by omega) hc13
    refine r_aload_n qX3_append_26 rfl ?_
    refine r_getr qX3_append_27 fX3_36 rfl (by assumption) (by first | assumption | rfl) ?_
    refine r_iload_n qX3_append_30 rfl ?_
    refine r_cv1 (cu2 := 0) (su2 := 0) qX3_append_31 kX3_86 rfl (by decide +kernel) (c := 1) (by assumption) (by decide) rfl rfl rfl rfl rfl rfl ?_
    refine c_X1_putFourBytes r1 r2 r3 r4 (f := f) hf (by omega) ?_
    show zR E _ _ X 34 _ _ _ _ _ _ _
    refine r_aload_n qX3_append_34 rfl ?_
    refine r_getr qX3_append_35 fX3_36 rfl (by assumption) (by first | assumption | rfl) ?_
    refine r_iload_n qX3_append_38 rfl ?_
    refine r_cv1 (cu2 := 0) (su2 := 0) qX3_append_39 kX3_86 rfl (by decide +kernel) (c := 1) (by assumption) (by decide) rfl rfl rfl rfl rfl rfl ?_
    refine c_X1_putFourBytes r1 r2 r3 r4 (f := f + 4) (by rw [wA_s, pk_us]) (by omega) ?_
    rw [M, wA_s, wA_n tr, wA_s, yup_twice]
    show zR E _ _ X 42 _ _ _ _ _ _ _
    refine r_aload_n qX3_append_42 rfl ?_
    refine r_getr qX3_append_43 fX3_36 rfl (by assumption) (by first | assumption | rfl) ?_
    refine r_iload_n qX3_append_46 rfl ?_
    refine r_cv1 (cu2 := 0) (su2 := 0) qX3_append_47 kX3_86 rfl (by decide +kernel) (c := 1) (by assumption) (by decide) rfl rfl rfl rfl rfl rfl ?_
    refine c_X1_putFourBytes r1 r2 r3 r4 (f := f + 4 + 4) (by rw [wA_s, pk_us]) (by omega) ?_
    rw [M, wA_s, wA_n tr, wA_s, yup_twice]
    show zR E _ _ X 50 _ _ _ _ _ _ _
    refine r_aload_n qX3_append_50 rfl ?_
    refine r_getr qX3_append_51 fX3_36 rfl (by assumption) (by first | assumption | rfl) ?_
    refine r_iload qX3_append_54 rfl ?_
    refine r_cv1 (cu2 := 0) (su2 := 0) qX3_append_56 kX3_86 rfl (by decide +kernel) (c := 1) (by assumption) (by decide) rfl rfl rfl rfl rfl rfl ?_
    refine c_X1_putFourBytes r1 r2 r3 r4 (f := f + 4 + 4 + 4) (by rw [wA_s, pk_us]) (by omega) ?_
    rw [M, wA_s, wA_n tr, wA_s, yup_twice]
    show zR E _ _ X 59 _ _ _ _ _ _ _
    refine r_aload_n qX3_append_59 rfl ?_
    refine r_getr qX3_append_60 fX3_36 rfl (by assumption) (by first | assumption | rfl) ?_
    refine r_iload qX3_append_63 rfl ?_
    refine r_cv1 (cu2 := 0) (su2 := 0) qX3_append_65 kX3_86 rfl (by decide +kernel) (c := 1) (by assumption) (by decide) rfl rfl rfl rfl rfl rfl ?_
    refine c_X1_putFourBytes r1 r2 r3 r4 (f := f + 4 + 4 + 4 + 4) (by rw [wA_s, pk_us]) (by omega) ?_
    rw [M, wA_s, wA_n tr, wA_s, yup_twice]
    show zR E _ _ X 68 _ _ _ _ _ _ _
    refine r_aload_n qX3_append_68 rfl ?_
    refine r_getr qX3_append_69 fX3_36 rfl (by assumption) (by first | assumption | rfl) ?_
    refine r_geti qX3_append_72 fX3_32 rfl (by assumption) ?_
    rw [wA_s, pk_us]
    refine r_iret qX3_append_75 rfl rfl rfl rfl ?_
    exact hK1 h6 _ (by rw [wA_s]) (by rw [wA_n tr, wA_s]; rfl) (fun r a b => by rw [wA_n a, wA_n b])
  · refine r_throw qX3_append_16 qX3_append_19 qX3_append_20 qX3_append_22 qX3_append_25 tX3_80_82 rfl rfl rfl rfl rfl ?_
    exact hK0 (fun h => hc13 (nI_le h (by decide)))
set_option maxHeartbeats 4000000 in
set_option maxRecDepth 20000 in
theorem c_X3_truncate {E : Ev} {g : Sh} {i : Ni} {j : Nj} {K : Kp} {c rd tx ur sl sf sb : Nat} {A : Nat → Nat → Nat} {N : Nat → Int32} {f : Nat} {v : Int32} (hY : zY g c rd tx ur sl sf sb A) (hf : i rd 2 = nI f) (hf6 : f ≤ 600) (hK0 : ¬ (0 ≤ v.toInt ∧ v.toInt ≤ (f : Int)) → K (.inr 1) g i j) (hK1 : (0 ≤ v.toInt ∧ v.toInt ≤ (f : Int)) → K (.inl (some (.int v))) g (wA i rd (upd (i rd) 2 v)) j) : zCon E mX3_truncate [.ref c, .int v] g i j K := by
  refine zcon_of (by decide +kernel) rfl rfl (lo := [.ref c, .int v]) rfl (fun X => ?_)
  have x1 := hY.1
  obtain ⟨x2, r1, r2, -, r3, r4⟩ := hY.rdd
  have ef := nI_toInt (n := f) (by omega)
  refine r_iload_n qX3_truncate_0 rfl ?_
  refine r_if_lt (t := 15) qX3_truncate_1 (by decide) (fun hc1 => ?_) (fun hc1 => ?_)
  · refine r_throw qX3_truncate_15 qX3_truncate_18 qX3_truncate_19 qX3_truncate_21 qX3_truncate_24 tX3_90_92 rfl rfl rfl rfl rfl ?_
    (simp only [Int32.lt_iff_toInt_lt, Int32.le_iff_toInt_le, show (0 : Int32).toInt = 0 by decide, ef] at *); exact hK0 (by omega)
  · refine r_iload_n qX3_truncate_4 rfl ?_
    refine r_aload_n qX3_truncate_5 rfl ?_
    refine r_getr qX3_truncate_6 fX3_36 rfl (by assumption) (by first | assumption | rfl) ?_
    refine r_geti qX3_truncate_9 fX3_32 rfl (by assumption) ?_
    rw [hf]
    refine r_icmp_le (t := 25) qX3_truncate_12 (by decide) (fun hc12 => ?_) (fun hc12 => ?_)
    · refine r_aload_n qX3_truncate_25 rfl ?_
      refine r_getr qX3_truncate_26 fX3_36 rfl (by assumption) (by first | assumption | rfl) ?_
      refine r_iload_n qX3_truncate_29 rfl ?_
      refine r_puti qX3_truncate_30 fX3_32 (Or.inl rfl) rfl rfl rfl (by assumption) ?_
      refine r_iload_n qX3_truncate_33 rfl ?_
      refine r_iret qX3_truncate_34 rfl rfl rfl rfl ?_
      simp only [Int32.lt_iff_toInt_lt, Int32.le_iff_toInt_le, show (0 : Int32).toInt = 0 by decide, ef] at *; exact hK1 (by omega)
    · refine r_throw qX3_truncate_15 qX3_truncate_18 qX3_truncate_19 qX3_truncate_21 qX3_truncate_24 tX3_90_92 rfl rfl rfl rfl rfl ?_
      (simp only [Int32.lt_iff_toInt_lt, Int32.le_iff_toInt_le, show (0 : Int32).toInt = 0 by decide, ef] at *); exact hK0 (by omega)
set_option maxHeartbeats 4000000 in
set_option maxRecDepth 20000 in
theorem c_X3_errorCode {E : Ev} {g : Sh} {i : Ni} {j : Nj} {K : Kp} {c : Nat} (x1 : gT g c = 4) (hK : K (.inl (some (.int (i c 9)))) g i j) : zCon E mX3_errorCode [.ref c] g i j K := by
  refine zcon_of (by decide +kernel) rfl rfl (lo := [.ref c]) rfl (fun X => ?_)
  refine r_aload_n qX3_errorCode_0 rfl ?_
  refine r_geti qX3_errorCode_1 fX3_74 rfl (by assumption) ?_
  refine r_iret qX3_errorCode_4 rfl rfl rfl rfl ?_
  exact hK
set_option maxHeartbeats 4000000 in
set_option maxRecDepth 20000 in
theorem c_X3_errorOffset {E : Ev} {g : Sh} {i : Ni} {j : Nj} {K : Kp} {c : Nat} (x1 : gT g c = 4) (hK : K (.inl (some (.int (i c 10)))) g i j) : zCon E mX3_errorOffset [.ref c] g i j K := by
  refine zcon_of (by decide +kernel) rfl rfl (lo := [.ref c]) rfl (fun X => ?_)
  refine r_aload_n qX3_errorOffset_0 rfl ?_
  refine r_geti qX3_errorOffset_1 fX3_77 rfl (by assumption) ?_
  refine r_iret qX3_errorOffset_4 rfl rfl rfl rfl ?_
  exact hK


