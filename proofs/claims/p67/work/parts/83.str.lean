/-! ===== CONSTANT STRINGS ===== -/
section
variable {E : Ev} {y : Mt} {Z : Fx → State → Prop} {X : Fx} {pc : Nat} {lo st : List Value} {g : Sh} {i : Ni} {j : Nj} {cu su : Nat}
theorem r_sval {n idx : Nat} {q : String × Nat × String} (d : decode (mB y) pc = .ok (.getfield idx, 3)) (hq : zstr[n]? = some q) (hl : Cond.fieldLink (mN y).cls idx "java/lang/String" "value" "[B" ∈ lw_good) (kk : zR E y Z X (pc + 3) lo (.ref (eV E n + 1) :: st) g i j cu su) : zR E y Z X pc lo (.ref (eK E n + 1) :: st) g i j cu su := by
  obtain ⟨p, e, R, s, m, args, below, meth, cc⟩ := X
  intro C H locs ls hR hS hl2
  obtain ⟨hx, hb, -, hml, hown, hts, hE, -⟩ := id C
  obtain ⟨-, -, -, s4, -⟩ := hE.2.2.2.2.2.1 n _ hq
  obtain ⟨cf, k, fi, f, cell, h1, h2, h3, h4, h5, h6⟩ := s4.kept hS.2.1
  exact W.getf hx hb hown (hts _ hl) h1 h2 h3 h4 (v := .ref (eV E n)) h5 rfl rfl d (kk C H locs ls hR hS hl2)
theorem r_scod {n idx : Nat} {q : String × Nat × String} (d : decode (mB y) pc = .ok (.getfield idx, 3)) (hq : zstr[n]? = some q) (hl : Cond.fieldLink (mN y).cls idx "java/lang/String" "coder" "B" ∈ lw_good) (kk : zR E y Z X (pc + 3) lo (.int 0 :: st) g i j cu su) : zR E y Z X pc lo (.ref (eK E n + 1) :: st) g i j cu su := by
  obtain ⟨p, e, R, s, m, args, below, meth, cc⟩ := X
  intro C H locs ls hR hS hl2
  obtain ⟨hx, hb, -, hml, hown, hts, hE, -⟩ := id C
  obtain ⟨-, -, s3, -, -⟩ := hE.2.2.2.2.2.1 n _ hq
  obtain ⟨cf, k, fi, f, cell, h1, h2, h3, h4, h5, h6⟩ := s3.kept hS.2.1
  exact W.getf hx hb hown (hts _ hl) h1 h2 h3 h4 (v := .int 0) h5 rfl rfl d (kk C H locs ls hR hS hl2)
theorem r_gcs {idx : Nat} (d : decode (mB y) pc = .ok (.getstatic idx, 3)) (hl : Cond.fieldLink (mN y).cls idx "java/lang/String" "COMPACT_STRINGS" "Z" ∈ lw_good) (kk : zR E y Z X (pc + 3) lo (.int 1 :: st) g i j cu su) : zR E y Z X pc lo st g i j cu su := by
  obtain ⟨p, e, R, s, m, args, below, meth, cc⟩ := X
  intro C H locs ls hR hS hl2
  obtain ⟨hx, hb, -, hml, hown, hts, hE, -⟩ := id C
  exact va_gets hx hb (v := .int 1) hE.2.2.2.2.2.2.2.2.2.2.1.1 hS hown (hts _ hl) (fun _ h => h) d (kk C H locs ls hR hS hl2)
theorem r_gfo {idx : Nat} (d : decode (mB y) pc = .ok (.getstatic idx, 3)) (hl : Cond.fieldLink (mN y).cls idx "jdk/internal/util/Preconditions" "SIOOBE_FORMATTER" "Ljava/util/function/BiFunction;" ∈ lw_good) (kk : ∀ v : Nat, zR E y Z X (pc + 3) lo (.ref v :: st) g i j cu su) : zR E y Z X pc lo st g i j cu su := by
  obtain ⟨p, e, R, s, m, args, below, meth, cc⟩ := X
  intro C H locs ls hR hS hl2
  obtain ⟨hx, hb, -, hml, hown, hts, hE, -⟩ := id C
  rcases hE.2.2.2.2.2.2.2.2.2.2.1.2.1 with h | ⟨t, h⟩
  · exact va_gets hx hb (v := .null) h hS hown (hts _ hl) (fun _ h => h) d (kk 0 C H locs ls hR hS hl2)
  · exact va_gets hx hb (v := .ref t) h hS hown (hts _ hl) (fun _ h => h) d (kk (t + 1) C H locs ls hR hS hl2)
theorem r_slen {n : Nat} {q : String × Nat × String} (d : decode (mB y) pc = .ok (.arraylength, 1)) (hq : zstr[n]? = some q) (kk : zR E y Z X (pc + 1) lo (.int (nI (zbyt q.2.2).length) :: st) g i j cu su) : zR E y Z X pc lo (.ref (eV E n + 1) :: st) g i j cu su := by
  obtain ⟨p, e, R, s, m, args, below, meth, cc⟩ := X
  intro C H locs ls hR hS hl2
  obtain ⟨hx, hb, -, hml, hown, hts, hE, -⟩ := id C
  obtain ⟨-, -, -, -, s5⟩ := hE.2.2.2.2.2.1 n _ hq
  exact va_tlen hx hb s5 hS rfl d (kk C H locs ls hR hS hl2)
theorem r_sbald {n k : Nat} {q : String × Nat × String} {v : Int32} (d : decode (mB y) pc = .ok (.baload, 1)) (hq : zstr[n]? = some q) (hk : k < (zbyt q.2.2).length) (hk9 : (zbyt q.2.2).length < 2 ^ 31) (hv : (zbyt q.2.2).getD k 0 = v) (kk : zR E y Z X (pc + 1) lo (.int v :: st) g i j cu su) : zR E y Z X pc lo (.int (nI k) :: .ref (eV E n + 1) :: st) g i j cu su := by
  subst hv
  obtain ⟨p, e, R, s, m, args, below, meth, cc⟩ := X
  intro C H locs ls hR hS hl2
  obtain ⟨hx, hb, -, hml, hown, hts, hE, -⟩ := id C
  obtain ⟨-, -, -, -, s5⟩ := hE.2.2.2.2.2.1 n _ hq
  exact va_tb hx hb s5 hS (vp_in_nI hk hk9) (by rw [nI_clamp (show k < 2 ^ 31 by omega)]; rfl) d (kk C H locs ls hR hS hl2)
/-- a call of a string's method -/
theorem r_cS {y2 : Mt} {as : List Value} {n n2 idx cu2 su2 : Nat} {q : String × Nat × String} {st0 : List Value} (d : decode (mB y) pc = .ok (.invokevirtual idx, 3)) (k : zCV (mN y).cls idx y2 n) (hst : st0 = as.reverse ++ .ref (eK E n2 + 1) :: st) (hn : as.length = n) (hH : mH y2 = []) (hf : zfit y y2 = true)
    (hq : zstr[n2]? = some q) (hcn : "java/lang/String" = (mN y2).cls) (hw : Nat.ble ((st.map fun v => v.category).sum) 8 = true) (hcu : cu + (mM y2).cells = cu2) (hsu : su + (mM y2).slots = su2) (hcu2 : Nat.ble cu2 (mM y).cells = true) (hsu2 : Nat.ble su2 (mM y).slots = true)
    (hC : zCon E y2 (.ref (eK E n2 + 1) :: as) g i j (zK E y Z X pc lo st cu2 su2)) : zR E y Z X pc lo st0 g i j cu su := by
  subst hcu; subst hsu; subst hst
  obtain ⟨p, e, R, s, m, args, below, meth, cc⟩ := X
  intro C H locs ls hR hS hl
  obtain ⟨hx, hb, -, hml, hown, hts, hE, -, hRm, -⟩ := id C
  obtain ⟨-, s2, -, -, -⟩ := hE.2.2.2.2.2.1 n2 _ hq
  obtain ⟨cell, q1, q2, q3, -⟩ := s2.kept hS.2.1
  rw [hcn] at q3
  refine zgo (st := st) (a9 := (cvs (.ref (eK E n2 + 1) :: as)).toArray) (mc := (mM y2).cells) (ms := (mM y2).slots) ?_ C hS hl
  exact vx_runV (C := (mN y2).cls) (n := n) (index := idx) (nL := mL y) (As := cvs as) (b := eK E n2) ⟨hx, hb, hml, hown, hts⟩ hC ⟨zcb hH k.1 hts hRm hf, hts _ k.2.1, hts _ k.2.2⟩
    ⟨zblind, ⟨cell, q1, q2, q3⟩, fun U hU hW => zpre (as := .ref (eK E n2 + 1) :: as) hE hR hS hU hW⟩ rfl (by rw [← hn]; simp [cvs]) hl.1 (by simp [cvs, cv, zrf, va_rf]) (zroom hw) d ⟨by rw [hRm]; exact Nat.le_of_ble_eq_true hcu2, by rw [hRm]; exact Nat.le_of_ble_eq_true hsu2⟩
/-- a constant's bytes are copied into an array of the memory -/
theorem r_copyS {n2 dst idx len : Nat} {q : String × Nat × String} {dp : Int32} (d : decode (mB y) pc = .ok (.invokestatic idx, 3)) (k : zCp (mN y).cls idx) (hq : zstr[n2]? = some q) (hlen : (zbyt q.2.2).length = len) (hl9 : len < 1000) (hfit : ∀ k, k < len → fits .byte (.int ((zbyt q.2.2).getD k 0)) = true) (hd : gT g dst = 12) (h2 : ¬ dp < 0) (h5 : dp.toNatClampNeg + len ≤ gL g dst)
    (hfr : Nat.ble 1 (mM y).frames = true) (hlo : Nat.ble ((st.map fun v => v.category).sum + (nativeFrameWords "java/lang/System" "arraycopy" 5 + 11)) (mM y).locals = true)
    (kk : zR E y Z X (pc + 3) lo st g (wA i dst (va_cpy (fun k => (zbyt q.2.2).getD k 0) (i dst) 0 dp.toNatClampNeg len)) j cu su) : zR E y Z X pc lo (.int (nI len) :: .int dp :: .ref dst :: .int (nI 0) :: .ref (eV E n2 + 1) :: st) g i j cu su := by
  obtain ⟨p, e, R, s, m, args, below, meth, cc⟩ := X
  intro C H locs ls hR hS hl
  obtain ⟨hx, hb, -, hml, hown, hts, hE, -, hRm, -⟩ := id C
  obtain ⟨-, -, -, -, cell, w1, w2, w3, w4, -, w6, w7⟩ := hE.2.2.2.2.2.1 n2 _ hq
  rw [hlen] at w4 w6
  obtain ⟨a, rfl⟩ := znz (t := 11) hR hd
  have h3 : ¬ nI len < 0 := Int32.not_lt.mpr (by rw [← nI_0]; exact nI_le (Nat.zero_le _) (by omega))
  have el : (nI len).toNatClampNeg = len := nI_clamp (by omega)
  have e0 : (nI 0).toNatClampNeg = 0 := by decide
  have hc0 : H[eV E n2]? = some cell := by rw [hS.2.1 _ (Array.getElem?_eq_some_iff.mp w1).1 w7]; exact w1
  have hc1 : H[a]? = some (vp_cell (eA E 1) (gL g (a + 1), .inl (i (a + 1)))) := zarr (t := 1) hR hd
  intro T hT X
  obtain ⟨w8, k0, hk0, cm0, hkk0⟩ := w2
  obtain ⟨-, k1, hk1, cm1, hkk1⟩ := (hE.2.1.2 1 _ (zts_at E (show 1 < 6 by decide))).1 (gL g (a + 1)) (fun q => .int (i (a + 1) q))
  obtain ⟨vm', X', step⟩ := X.arraycopy hx hown (hts _ k.1) (hts _ k.2.1) (hts _ k.2.2.1) (hts _ k.2.2.2) (src := eV E n2) (dst := a) (cs := cell) (cd := vp_cell (eA E 1) (gL g (a + 1), .inl (i (a + 1)))) (srcPos := nI 0) (destPos := dp) (n := nI len) (by rw [hT]; exact hc0) (by rw [hT]; exact hc1)
    w8 (fun _ h => by cases h) w3 (fun h => by cases h) hk0 hk1 hkk0 hkk1 (by rfl) (by decide) h2 h3
    (by rw [znn h3, el]; show ¬ (0 : Int) + _ > _; omega)
    (by rw [znn h2, znn h3, el]; show ¬ _ > ((arrV (eA E 1) (gL g (a + 1)) (fun q => .int (i (a + 1) q))).slots.size : Int); rw [arrV_size]; omega)
    (fun vm₁ _ z hz => by
      rw [el] at hz
      have e : cell.slots.getD ((nI 0).toNatClampNeg + z) .null = .int ((zbyt q.2.2).getD z 0) := by
        rw [e0, Nat.zero_add, Array.getD_eq_getD_getElem?, w6 _ hz]
        rfl
      exact ⟨by rw [e]; exact hfit z hz, by rw [e]; exact trivial⟩)
    (g := F0 m pc ls (cvs (.int (nI len) :: .int dp :: .ref (a + 1) :: .int (nI 0) :: .ref (eV E n2 + 1) :: st))) rfl (hl.1.trans hml.symm) (rest := cvs st) rfl (by rw [hb]; exact d) (by rw [hRm]; exact Nat.le_of_ble_eq_true hfr) (by show 2 * 0 + _ + _ ≤ _; have := zloc hlo hRm; omega)
  have e1 : copied cell (vp_cell (eA E 1) (gL g (a + 1), .inl (i (a + 1)))) (nI 0) dp (nI len) = vp_cell (eA E 1) (gL g (a + 1), .inl (va_cpy (fun k => (zbyt q.2.2).getD k 0) (i (a + 1)) 0 dp.toNatClampNeg len)) := by
    have := va_copiedX (fun z => .int z) cell (eA E 1) (n0 := len) (n1 := gL g (a + 1)) (sp := 0) (dp := dp.toNatClampNeg) (n := len) (fun k => (zbyt q.2.2).getD k 0) (i (a + 1)) w6 (by omega)
    show (vp_cell (eA E 1) (gL g (a + 1), .inl (i (a + 1)))).storeRun dp.toNatClampNeg (cell.stretch (nI 0).toNatClampNeg (nI len).toNatClampNeg) = _
    rw [e0, el]
    exact this
  rw [e1] at X' step
  have hla : a < H.size := (Array.getElem?_eq_some_iff.mp hc1).1
  generalize hnc : vp_cell (eA E 1) (gL g (a + 1), .inl (va_cpy (fun k => (zbyt q.2.2).getD k 0) (i (a + 1)) 0 dp.toNatClampNeg len)) = nc at X' step
  have hheap : ((T.setVm vm').setCell a nc).heap = H.setIfInBounds a nc := by rw [← hT]; rfl
  have oq : ∀ q : Nat, q ≠ a → (H.setIfInBounds a nc)[q]? = H[q]? := fun q hq => by simp [Array.getElem?_setIfInBounds, Ne.symm hq]
  have hB := zarrB (t := 1) hR hd
  obtain ⟨t9, a1, b1⟩ := kk C (H.setIfInBounds a nc) _ ls (zstore (t := 1) hR hd oq (fun r hr => ⟨wA_n hr, rfl⟩) (by
      show _ = some (vp_cell _ (_, .inl (wA i (a + 1) _ (a + 1))))
      rw [wA_s, hnc]
      simp [Array.getElem?_setIfInBounds, hla])) ⟨by simp; exact hS.1, fun q g1 g2 => by
      rw [oq q (fun e => g2 (by rw [e]; exact hB))]
      exact hS.2.1 q g1 g2, fun q hq => by
      rcases List.mem_append.mp hq with h | h
      · exact hS.2.2 q h
      · obtain ⟨z, -, hz⟩ := List.mem_map.mp h
        rw [← hz]
        exact hB⟩ hl _ hheap X'
  exact ⟨t9, step t9 a1, b1⟩
end
set_option maxHeartbeats 4000000 in
set_option maxRecDepth 20000 in
theorem c_J3_checkIndex_8e157 {E : Ev} {g : Sh} {i : Ni} {j : Nj} {K : Kp} {a b v : Nat} (h : a < b) (hb : b < 2 ^ 31) (hK : K (.inl (some (.int (nI a)))) g i j) : zCon E mJ3_checkIndex_8e157 [.int (nI a), .int (nI b), .ref v] g i j K := by
  refine zcon_of (by decide +kernel) rfl rfl (lo := [.int (nI a), .int (nI b), .ref v]) rfl (fun X => ?_)
  refine r_iload_n qJ3_checkIndex_8e157_0 rfl ?_
  refine r_if_lt (t := 9) qJ3_checkIndex_8e157_1 (by decide) (fun hc1 => absurd hc1 (not_neg (by omega))) (fun hc1 => ?_)
  refine r_iload_n qJ3_checkIndex_8e157_4 rfl ?_
  refine r_iload_n qJ3_checkIndex_8e157_5 rfl ?_
  refine r_icmp_lt (t := 16) qJ3_checkIndex_8e157_6 (by decide) (fun hc6 => ?_) (fun hc6 => absurd hc6 (fun q => q (nI_lt h hb)))
  refine r_iload_n qJ3_checkIndex_8e157_16 rfl ?_
  refine r_iret qJ3_checkIndex_8e157_17 rfl rfl rfl rfl ?_
  exact hK
set_option maxHeartbeats 4000000 in
set_option maxRecDepth 20000 in
theorem c_J0_checkIndex_df160 {E : Ev} {g : Sh} {i : Ni} {j : Nj} {K : Kp} {a b : Nat} (h : a < b) (hb : b < 2 ^ 31) (hK : K (.inl none) g i j) : zCon E mJ0_checkIndex_df160 [.int (nI a), .int (nI b)] g i j K := by
  refine zcon_of (by decide +kernel) rfl rfl (lo := [.int (nI a), .int (nI b)]) rfl (fun X => ?_)
  refine r_iload_n qJ0_checkIndex_df160_0 rfl ?_
  refine r_iload_n qJ0_checkIndex_df160_1 rfl ?_
  refine r_gfo qJ0_checkIndex_df160_2 fS_1053 (fun v => ?_)
  refine r_cs3 (cu2 := 0) (su2 := 0) qJ0_checkIndex_df160_5 kJ0_1059 rfl (by decide +kernel) rfl rfl rfl rfl rfl ?_
  refine c_J3_checkIndex_8e157 (by first | assumption | omega | rfl | decide) (by first | assumption | omega | rfl | decide) ?_
  show zR E _ _ X 8 _ _ _ _ _ _ _
  refine r_pop qJ0_checkIndex_df160_8 rfl ?_
  refine r_vret qJ0_checkIndex_df160_9 rfl rfl rfl ?_
  exact hK
theorem chr_all : ∀ m : Fin 128, ((nI m.val &&& nI 255).toUInt32 % 65536).toInt32 = nI m.val := by decide +kernel
theorem chr_nar : ∀ m : Fin 128, narrow .char (.int (nI m.val)) = .int (nI m.val) := by decide +kernel
set_option maxHeartbeats 4000000 in
set_option maxRecDepth 20000 in
theorem c_J0_coder_7d493 {E : Ev} {g : Sh} {i : Ni} {j : Nj} {K : Kp} {n : Nat} {q : String × Nat × String} (hq : zstr[n]? = some q) (hK : K (.inl (some (.int 0))) g i j) : zCon E mJ0_coder_7d493 [.ref (eK E n + 1)] g i j K := by
  refine zcon_of (by decide +kernel) rfl rfl (lo := [.ref (eK E n + 1)]) rfl (fun X => ?_)
  refine r_gcs qJ0_coder_7d493_0 fS_38 ?_
  refine r_if_eq (t := 13) qJ0_coder_7d493_3 (by decide) (fun hc3 => absurd hc3 (by decide)) (fun hc3 => ?_)
  refine r_aload_n qJ0_coder_7d493_6 rfl ?_
  refine r_scod qJ0_coder_7d493_7 hq fS_15 ?_
  refine r_goto (t := 14) qJ0_coder_7d493_10 (by decide) ?_
  refine r_iret qJ0_coder_7d493_14 rfl (by decide) rfl rfl ?_
  exact hK
set_option maxHeartbeats 4000000 in
set_option maxRecDepth 20000 in
theorem c_J0_isLatin1_aae02 {E : Ev} {g : Sh} {i : Ni} {j : Nj} {K : Kp} {n : Nat} {q : String × Nat × String} (hq : zstr[n]? = some q) (hK : K (.inl (some (.int (nI 1)))) g i j) : zCon E mJ0_isLatin1_aae02 [.ref (eK E n + 1)] g i j K := by
  refine zcon_of (by decide +kernel) rfl rfl (lo := [.ref (eK E n + 1)]) rfl (fun X => ?_)
  refine r_gcs qJ0_isLatin1_aae02_0 fS_38 ?_
  refine r_if_eq (t := 17) qJ0_isLatin1_aae02_3 (by decide) (fun hc3 => absurd hc3 (by decide)) (fun hc3 => ?_)
  refine r_aload_n qJ0_isLatin1_aae02_6 rfl ?_
  refine r_scod qJ0_isLatin1_aae02_7 hq fS_15 ?_
  refine r_if_ne (t := 17) qJ0_isLatin1_aae02_10 (by decide) (fun hc10 => absurd hc10 (fun h => h rfl)) (fun hc10 => ?_)
  refine r_iconst (v := nI 1) qJ0_isLatin1_aae02_13 (by decide) ?_
  refine r_goto (t := 18) qJ0_isLatin1_aae02_14 (by decide) ?_
  refine r_iret qJ0_isLatin1_aae02_18 rfl (by first | decide | exact zb_nar _ | assumption) rfl rfl ?_
  exact hK
set_option maxHeartbeats 4000000 in
set_option maxRecDepth 20000 in
theorem c_J0_length_8abf5 {E : Ev} {g : Sh} {i : Ni} {j : Nj} {K : Kp} {n : Nat} {q : String × Nat × String} (hq : zstr[n]? = some q) (hK : K (.inl (some (.int (nI (zbyt q.2.2).length)))) g i j) : zCon E mJ0_length_8abf5 [.ref (eK E n + 1)] g i j K := by
  refine zcon_of (by decide +kernel) rfl rfl (lo := [.ref (eK E n + 1)]) rfl (fun X => ?_)
  refine r_aload_n qJ0_length_8abf5_0 rfl ?_
  refine r_sval qJ0_length_8abf5_1 hq fS_9 ?_
  refine r_slen qJ0_length_8abf5_4 hq ?_
  refine r_aload_n qJ0_length_8abf5_5 rfl ?_
  refine r_cS (as := []) qJ0_length_8abf5_6 kJ0_335 rfl rfl rfl (by decide +kernel) hq rfl rfl rfl rfl rfl rfl ?_
  refine c_J0_coder_7d493 hq ?_
  show zR E _ _ X 9 _ _ _ _ _ _ _
  refine r_ishr qJ0_length_8abf5_9 ?_
  rw [show ∀ v : Int32, v >>> ((0 : Int32) &&& 31) = v from fun v => sh_0 v]
  refine r_iret qJ0_length_8abf5_10 rfl rfl rfl rfl ?_
  exact hK
set_option maxHeartbeats 4000000 in
set_option maxRecDepth 20000 in
theorem c_J1_charAt_3b067 {E : Ev} {g : Sh} {i : Ni} {j : Nj} {K : Kp} {n k m : Nat} {q : String × Nat × String} (hq : zstr[n]? = some q) (hk : k < (zbyt q.2.2).length) (hl : (zbyt q.2.2).length < 1000) (hm : (zbyt q.2.2).getD k 0 = nI m) (hm9 : m < 128) (hK : K (.inl (some (.int (nI m)))) g i j) : zCon E mJ1_charAt_3b067 [.ref (eV E n + 1), .int (nI k)] g i j K := by
  refine zcon_of (by decide +kernel) rfl rfl (lo := [.ref (eV E n + 1), .int (nI k)]) rfl (fun X => ?_)
  refine r_iload_n qJ1_charAt_3b067_0 rfl ?_
  refine r_aload_n qJ1_charAt_3b067_1 rfl ?_
  refine r_slen qJ1_charAt_3b067_2 hq ?_
  refine r_cs2 (cu2 := 0) (su2 := 0) qJ1_charAt_3b067_3 kJ1_9 rfl (by decide +kernel) rfl rfl rfl rfl rfl ?_
  refine c_J0_checkIndex_df160 hk (by omega) ?_
  show zR E _ _ X 6 _ _ _ _ _ _ _
  refine r_aload_n qJ1_charAt_3b067_6 rfl ?_
  refine r_iload_n qJ1_charAt_3b067_7 rfl ?_
  refine r_sbald qJ1_charAt_3b067_8 hq hk (by omega) hm ?_
  refine r_sipush (v := nI 255) qJ1_charAt_3b067_9 (by decide) ?_
  refine r_iand qJ1_charAt_3b067_12 ?_
  refine r_i2c qJ1_charAt_3b067_13 ?_
  rw [chr_all ⟨m, hm9⟩]
  refine r_iret qJ1_charAt_3b067_14 rfl (chr_nar ⟨m, hm9⟩) rfl rfl ?_
  exact hK
set_option maxHeartbeats 4000000 in
set_option maxRecDepth 20000 in
theorem c_J0_charAt_5068e {E : Ev} {g : Sh} {i : Ni} {j : Nj} {K : Kp} {n k m : Nat} {q : String × Nat × String} (hq : zstr[n]? = some q) (hk : k < (zbyt q.2.2).length) (hl : (zbyt q.2.2).length < 1000) (hm : (zbyt q.2.2).getD k 0 = nI m) (hm9 : m < 128) (hK : K (.inl (some (.int (nI m)))) g i j) : zCon E mJ0_charAt_5068e [.ref (eK E n + 1), .int (nI k)] g i j K := by
  refine zcon_of (by decide +kernel) rfl rfl (lo := [.ref (eK E n + 1), .int (nI k)]) rfl (fun X => ?_)
  refine r_aload_n qJ0_charAt_5068e_0 rfl ?_
  refine r_cS (as := []) qJ0_charAt_5068e_1 kJ0_492 rfl rfl rfl (by decide +kernel) hq rfl rfl rfl rfl rfl rfl ?_
  refine c_J0_isLatin1_aae02 hq ?_
  show zR E _ _ X 4 _ _ _ _ _ _ _
  refine r_if_eq (t := 16) qJ0_charAt_5068e_4 (by decide) (fun hc4 => absurd hc4 (by decide)) (fun hc4 => ?_)
  refine r_aload_n qJ0_charAt_5068e_7 rfl ?_
  refine r_sval qJ0_charAt_5068e_8 hq fS_9 ?_
  refine r_iload_n qJ0_charAt_5068e_11 rfl ?_
  refine r_cs2 (cu2 := 0) (su2 := 0) qJ0_charAt_5068e_12 kJ0_495 rfl (by decide +kernel) rfl rfl rfl rfl rfl ?_
  refine c_J1_charAt_3b067 hq hk hl hm hm9 ?_
  show zR E _ _ X 15 _ _ _ _ _ _ _
  refine r_iret qJ0_charAt_5068e_15 rfl (chr_nar ⟨m, hm9⟩) rfl rfl ?_
  exact hK
/-! ===== A STRING: a constant, or one that was made ===== -/
def zQs (E : Ev) (g : Sh) (i : Ni) (r : Nat) (L : List Int32) : Prop := (∃ n q, zstr[n]? = some q ∧ r = eK E n + 1 ∧ L = zbyt q.2.2) ∨ (gT g r = 5 ∧ i r 1 = 0 ∧ gT g (gR g r 0) = 12 ∧ gL g (gR g r 0) = L.length ∧ ∀ k, k < L.length → i (gR g r 0) k = L.getD k 0)
section
variable {E : Ev} {y : Mt} {Z : Fx → State → Prop} {X : Fx} {pc : Nat} {lo st : List Value} {g : Sh} {i : Ni} {j : Nj} {cu su : Nat}
theorem r_cQ {y2 : Mt} {as : List Value} {r n idx cu2 su2 : Nat} {L : List Int32} {st0 : List Value} (d : decode (mB y) pc = .ok (.invokevirtual idx, 3)) (k : zCV (mN y).cls idx y2 n) (hst : st0 = as.reverse ++ .ref r :: st) (hn : as.length = n) (hH : mH y2 = []) (hf : zfit y y2 = true)
    (hS : zQs E g i r L) (hcn : (mN y2).cls = RJ0) (hw : Nat.ble ((st.map fun v => v.category).sum) 8 = true) (hcu : cu + (mM y2).cells = cu2) (hsu : su + (mM y2).slots = su2) (hcu2 : Nat.ble cu2 (mM y).cells = true) (hsu2 : Nat.ble su2 (mM y).slots = true)
    (hC : zCon E y2 (.ref r :: as) g i j (zK E y Z X pc lo st cu2 su2)) : zR E y Z X pc lo st0 g i j cu su := by
  rcases hS with ⟨n2, q, hq, rfl, -⟩ | ⟨ht, -⟩
  · exact r_cS d k hst hn hH hf hq hcn.symm hw hcu hsu hcu2 hsu2 hC
  · exact r_callv d k hst hn hH hf ht (by decide) hcn.symm hw hcu hsu hcu2 hsu2 hC
end
set_option maxHeartbeats 4000000 in
set_option maxRecDepth 20000 in
theorem c_Q_coder {E : Ev} {g : Sh} {i : Ni} {j : Nj} {K : Kp} {r : Nat} {L : List Int32} (hS : zQs E g i r L) (hK : K (.inl (some (.int 0))) g i j) : zCon E mJ0_coder_7d493 [.ref r] g i j K := by
  refine zcon_of (by decide +kernel) rfl rfl (lo := [.ref r]) rfl (fun X => ?_)
  rcases hS with ⟨n, q, hq, rfl, -⟩ | ⟨ht, h1, -⟩
  · skip
    refine r_gcs qJ0_coder_7d493_0 fS_38 ?_
    refine r_if_eq (t := 13) qJ0_coder_7d493_3 (by decide) (fun hc3 => absurd hc3 (by decide)) (fun hc3 => ?_)
    refine r_aload_n qJ0_coder_7d493_6 rfl ?_
    refine r_scod qJ0_coder_7d493_7 hq fS_15 ?_
    refine r_goto (t := 14) qJ0_coder_7d493_10 (by decide) ?_
    refine r_iret qJ0_coder_7d493_14 rfl (by decide) rfl rfl ?_
    exact hK
  · skip
    refine r_gcs qJ0_coder_7d493_0 fS_38 ?_
    refine r_if_eq (t := 13) qJ0_coder_7d493_3 (by decide) (fun hc3 => absurd hc3 (by decide)) (fun hc3 => ?_)
    refine r_aload_n qJ0_coder_7d493_6 rfl ?_
    refine r_geti qJ0_coder_7d493_7 fJ0_15 rfl (by assumption) ?_
    rw [h1]
    refine r_goto (t := 14) qJ0_coder_7d493_10 (by decide) ?_
    refine r_iret qJ0_coder_7d493_14 rfl (by decide) rfl rfl ?_
    exact hK
set_option maxHeartbeats 4000000 in
set_option maxRecDepth 20000 in
theorem c_Q_isLatin1 {E : Ev} {g : Sh} {i : Ni} {j : Nj} {K : Kp} {r : Nat} {L : List Int32} (hS : zQs E g i r L) (hK : K (.inl (some (.int (nI 1)))) g i j) : zCon E mJ0_isLatin1_aae02 [.ref r] g i j K := by
  refine zcon_of (by decide +kernel) rfl rfl (lo := [.ref r]) rfl (fun X => ?_)
  rcases hS with ⟨n, q, hq, rfl, -⟩ | ⟨ht, h1, -⟩
  · skip
    refine r_gcs qJ0_isLatin1_aae02_0 fS_38 ?_
    refine r_if_eq (t := 17) qJ0_isLatin1_aae02_3 (by decide) (fun hc3 => absurd hc3 (by decide)) (fun hc3 => ?_)
    refine r_aload_n qJ0_isLatin1_aae02_6 rfl ?_
    refine r_scod qJ0_isLatin1_aae02_7 hq fS_15 ?_
    refine r_if_ne (t := 17) qJ0_isLatin1_aae02_10 (by decide) (fun hc10 => absurd hc10 (fun h => h rfl)) (fun hc10 => ?_)
    refine r_iconst (v := nI 1) qJ0_isLatin1_aae02_13 (by decide) ?_
    refine r_goto (t := 18) qJ0_isLatin1_aae02_14 (by decide) ?_
    refine r_iret qJ0_isLatin1_aae02_18 rfl (by first | decide | exact zb_nar _ | assumption) rfl rfl ?_
    exact hK
  · skip
    refine r_gcs qJ0_isLatin1_aae02_0 fS_38 ?_
    refine r_if_eq (t := 17) qJ0_isLatin1_aae02_3 (by decide) (fun hc3 => absurd hc3 (by decide)) (fun hc3 => ?_)
    refine r_aload_n qJ0_isLatin1_aae02_6 rfl ?_
    refine r_geti qJ0_isLatin1_aae02_7 fJ0_15 rfl (by assumption) ?_
    rw [h1]
    refine r_if_ne (t := 17) qJ0_isLatin1_aae02_10 (by decide) (fun hc10 => absurd hc10 (fun h => h rfl)) (fun hc10 => ?_)
    refine r_iconst (v := nI 1) qJ0_isLatin1_aae02_13 (by decide) ?_
    refine r_goto (t := 18) qJ0_isLatin1_aae02_14 (by decide) ?_
    refine r_iret qJ0_isLatin1_aae02_18 rfl (by first | decide | exact zb_nar _ | assumption) rfl rfl ?_
    exact hK
set_option maxHeartbeats 4000000 in
set_option maxRecDepth 20000 in
theorem c_Q_length {E : Ev} {g : Sh} {i : Ni} {j : Nj} {K : Kp} {r : Nat} {L : List Int32} (hS : zQs E g i r L) (hK : K (.inl (some (.int (nI L.length)))) g i j) : zCon E mJ0_length_8abf5 [.ref r] g i j K := by
  refine zcon_of (by decide +kernel) rfl rfl (lo := [.ref r]) rfl (fun X => ?_)
  have hS' := hS
  rcases hS with ⟨n, q, hq, rfl, rfl⟩ | ⟨ht, h1, h2, h3, h4⟩
  · skip
    refine r_aload_n qJ0_length_8abf5_0 rfl ?_
    refine r_sval qJ0_length_8abf5_1 hq fS_9 ?_
    refine r_slen qJ0_length_8abf5_4 hq ?_
    refine r_aload_n qJ0_length_8abf5_5 rfl ?_
    refine r_cQ (as := []) qJ0_length_8abf5_6 kJ0_335 rfl rfl rfl (by decide +kernel) hS' rfl rfl rfl rfl rfl rfl ?_
    refine c_Q_coder hS' ?_
    show zR E _ _ X 9 _ _ _ _ _ _ _
    refine r_ishr qJ0_length_8abf5_9 ?_
    rw [show ∀ v : Int32, v >>> ((0 : Int32) &&& 31) = v from fun v => sh_0 v]
    refine r_iret qJ0_length_8abf5_10 rfl rfl rfl rfl ?_
    exact hK
  · skip
    refine r_aload_n qJ0_length_8abf5_0 rfl ?_
    refine r_getr qJ0_length_8abf5_1 fJ0_9 rfl (by assumption) (by first | assumption | rfl) ?_
    refine r_alen qJ0_length_8abf5_4 ⟨1, by decide, h2⟩ ?_
    rw [h3]
    refine r_aload_n qJ0_length_8abf5_5 rfl ?_
    refine r_cQ (as := []) qJ0_length_8abf5_6 kJ0_335 rfl rfl rfl (by decide +kernel) hS' rfl rfl rfl rfl rfl rfl ?_
    refine c_Q_coder hS' ?_
    show zR E _ _ X 9 _ _ _ _ _ _ _
    refine r_ishr qJ0_length_8abf5_9 ?_
    rw [show ∀ v : Int32, v >>> ((0 : Int32) &&& 31) = v from fun v => sh_0 v]
    refine r_iret qJ0_length_8abf5_10 rfl rfl rfl rfl ?_
    exact hK
set_option maxHeartbeats 4000000 in
set_option maxRecDepth 20000 in
theorem c_M_charAt {E : Ev} {g : Sh} {i : Ni} {j : Nj} {K : Kp} {r k m : Nat} {L : List Int32} (h2 : gT g r = 12) (h3 : gL g r = L.length) (h4 : ∀ k, k < L.length → i r k = L.getD k 0) (hk : k < L.length) (hl : L.length < 1000) (hm : L.getD k 0 = nI m) (hm9 : m < 128) (hK : K (.inl (some (.int (nI m)))) g i j) : zCon E mJ1_charAt_3b067 [.ref r, .int (nI k)] g i j K := by
  refine zcon_of (by decide +kernel) rfl rfl (lo := [.ref r, .int (nI k)]) rfl (fun X => ?_)
  refine r_iload_n qJ1_charAt_3b067_0 rfl ?_
  refine r_aload_n qJ1_charAt_3b067_1 rfl ?_
  refine r_alen qJ1_charAt_3b067_2 ⟨1, by decide, h2⟩ ?_
  rw [h3]
  refine r_cs2 (cu2 := 0) (su2 := 0) qJ1_charAt_3b067_3 kJ1_9 rfl (by decide +kernel) rfl rfl rfl rfl rfl ?_
  refine c_J0_checkIndex_df160 hk (by omega) ?_
  show zR E _ _ X 6 _ _ _ _ _ _ _
  refine r_aload_n qJ1_charAt_3b067_6 rfl ?_
  refine r_iload_n qJ1_charAt_3b067_7 rfl ?_
  refine r_baldN qJ1_charAt_3b067_8 h2 h3 hk (Nat.ble_eq.mpr (by omega)) ?_
  rw [h4 k hk, hm]
  refine r_sipush (v := nI 255) qJ1_charAt_3b067_9 (by decide) ?_
  refine r_iand qJ1_charAt_3b067_12 ?_
  refine r_i2c qJ1_charAt_3b067_13 ?_
  rw [chr_all ⟨m, hm9⟩]
  refine r_iret qJ1_charAt_3b067_14 rfl (chr_nar ⟨m, hm9⟩) rfl rfl ?_
  exact hK
set_option maxHeartbeats 4000000 in
set_option maxRecDepth 20000 in
theorem c_Q_charAt {E : Ev} {g : Sh} {i : Ni} {j : Nj} {K : Kp} {r k m : Nat} {L : List Int32} (hS : zQs E g i r L) (hk : k < L.length) (hl : L.length < 1000) (hm : L.getD k 0 = nI m) (hm9 : m < 128) (hK : K (.inl (some (.int (nI m)))) g i j) : zCon E mJ0_charAt_5068e [.ref r, .int (nI k)] g i j K := by
  refine zcon_of (by decide +kernel) rfl rfl (lo := [.ref r, .int (nI k)]) rfl (fun X => ?_)
  have hS' := hS
  rcases hS with ⟨n, q, hq, rfl, rfl⟩ | ⟨ht, h1, h2, h3, h4⟩
  · skip
    refine r_aload_n qJ0_charAt_5068e_0 rfl ?_
    refine r_cQ (as := []) qJ0_charAt_5068e_1 kJ0_492 rfl rfl rfl (by decide +kernel) hS' rfl rfl rfl rfl rfl rfl ?_
    refine c_Q_isLatin1 hS' ?_
    show zR E _ _ X 4 _ _ _ _ _ _ _
    refine r_if_eq (t := 16) qJ0_charAt_5068e_4 (by decide) (fun hc4 => absurd hc4 (by decide)) (fun hc4 => ?_)
    refine r_aload_n qJ0_charAt_5068e_7 rfl ?_
    refine r_sval qJ0_charAt_5068e_8 hq fS_9 ?_
    refine r_iload_n qJ0_charAt_5068e_11 rfl ?_
    refine r_cs2 (cu2 := 0) (su2 := 0) qJ0_charAt_5068e_12 kJ0_495 rfl (by decide +kernel) rfl rfl rfl rfl rfl ?_
    refine c_J1_charAt_3b067 hq hk hl hm hm9 ?_
    show zR E _ _ X 15 _ _ _ _ _ _ _
    refine r_iret qJ0_charAt_5068e_15 rfl (chr_nar ⟨m, hm9⟩) rfl rfl ?_
    exact hK
  · skip
    refine r_aload_n qJ0_charAt_5068e_0 rfl ?_
    refine r_cQ (as := []) qJ0_charAt_5068e_1 kJ0_492 rfl rfl rfl (by decide +kernel) hS' rfl rfl rfl rfl rfl rfl ?_
    refine c_Q_isLatin1 hS' ?_
    show zR E _ _ X 4 _ _ _ _ _ _ _
    refine r_if_eq (t := 16) qJ0_charAt_5068e_4 (by decide) (fun hc4 => absurd hc4 (by decide)) (fun hc4 => ?_)
    refine r_aload_n qJ0_charAt_5068e_7 rfl ?_
    refine r_getr qJ0_charAt_5068e_8 fJ0_9 rfl (by assumption) (by first | assumption | rfl) ?_
    refine r_iload_n qJ0_charAt_5068e_11 rfl ?_
    refine r_cs2 (cu2 := 0) (su2 := 0) qJ0_charAt_5068e_12 kJ0_495 rfl (by decide +kernel) rfl rfl rfl rfl rfl ?_
    refine c_M_charAt h2 h3 h4 hk hl hm hm9 ?_
    show zR E _ _ X 15 _ _ _ _ _ _ _
    refine r_iret qJ0_charAt_5068e_15 rfl (chr_nar ⟨m, hm9⟩) rfl rfl ?_
    exact hK

