/-! ===== STRINGS INTO THE BUILDER, AND OUT OF IT ===== -/
/-- the string s, that the builder r does not hold itself -/
def zQr (E : Ev) (g : Sh) (i : Ni) (r s : Nat) (L : List Int32) : Prop := (∃ n q, zstr[n]? = some q ∧ s = eK E n + 1 ∧ L = zbyt q.2.2) ∨ (gT g s = 5 ∧ i s 1 = 0 ∧ gT g (gR g s 0) = 12 ∧ gL g (gR g s 0) = L.length ∧ (∀ k, k < L.length → i (gR g s 0) k = L.getD k 0) ∧ gR g s 0 ≠ gR g r 0)
theorem zQr.q {E : Ev} {g : Sh} {i : Ni} {r s : Nat} {L : List Int32} (h : zQr E g i r s L) : zQs E g i s L := by
  rcases h with h | ⟨h1, h2, h3, h4, h5, -⟩
  · exact Or.inl h
  · exact Or.inr ⟨h1, h2, h3, h4, h5⟩
theorem zQr.bf {E : Ev} {g g' : Sh} {i i' : Ni} {j j' : Nj} {r s : Nat} {L M : List Int32} (h : zQr E g i r s L) (hB : zBu g i r M) (hF : zBf r g i j g' i' j') : zQr E g' i' r s L := by
  rcases h with h | ⟨h1, h2, h3, h4, h5, h6⟩
  · exact Or.inl h
  · obtain ⟨b1, -, -, b4, -⟩ := hB
    have nsr : s ≠ r := fun e => by rw [e, b1] at h1; exact absurd h1 (by decide)
    have nsv : s ≠ gR g r 0 := fun e => by rw [e, b4] at h1; exact absurd h1 (by decide)
    have nvr : gR g s 0 ≠ r := fun e => by rw [e, b1] at h3; exact absurd h3 (by decide)
    obtain ⟨s1, s2, s3, s4⟩ := hF.2 s (by rw [h1]; decide)
    obtain ⟨v1, v2, v3, v4⟩ := hF.2 (gR g s 0) (by rw [h3]; decide)
    have e0 : gR g' s 0 = gR g s 0 := (s4 nsr).1 0
    refine Or.inr ⟨s1.trans h1, by rw [(s4 nsr).2 nsv]; exact h2, by rw [e0, v1]; exact h3, by rw [e0, v2]; exact h4, fun k hk => by rw [e0, (v4 nvr).2 h6]; exact h5 k hk, ?_⟩
    rw [e0]
    intro e
    rcases hF.1 with e1 | e1
    · exact h6 (e.trans e1)
    · rw [← e, h3] at e1; exact absurd e1 (by decide)
theorem getD_ch {M : List Int32} (h : ∀ c ∈ M, zCh c) {k : Nat} (hk : k < M.length) : fits .byte (.int (M.getD k 0)) = true := by
  rw [List.getD_eq_getElem?_getD, List.getElem?_eq_getElem hk]
  exact fit_ch (h _ (List.getElem_mem _))
theorem va_cpy_c {f f' h : Nat → Int32} {a b n : Nat} (e : ∀ k, a ≤ k → k < a + n → f k = f' k) : va_cpy f h a b n = va_cpy f' h a b n := by
  funext k
  simp only [va_cpy]
  split
  · exact e _ (by omega) (by omega)
  · rfl
set_option maxHeartbeats 4000000 in
set_option maxRecDepth 20000 in
theorem c_J0_getBytes_840e7 {E : Ev} {g : Sh} {i : Ni} {j : Nj} {K : Kp} {r dst m : Nat} {L : List Int32} (hS : zQs E g i r L) (hl : L.length < 1000) (hch : ∀ c ∈ L, zCh c) (hd : gT g dst = 12) (h5 : m + L.length ≤ gL g dst) (hm : m < 1000) (hK : K (.inl none) g (wA i dst (va_cpy (fun k => L.getD k 0) (i dst) 0 m L.length)) j) : zCon E mJ0_getBytes_840e7 [.ref r, .ref dst, .int (nI m), .int (nI 0)] g i j K := by
  refine zcon_of (by decide +kernel) rfl rfl (lo := [.ref r, .ref dst, .int (nI m), .int (nI 0)]) rfl (fun X => ?_)
  have hS' := hS
  have em : (nI m).toNatClampNeg = m := nI_clamp (by omega)
  rcases hS with ⟨n, q, hq, rfl, rfl⟩ | ⟨ht, h1, h2, h3, h4⟩
  · skip
    refine r_aload_n qJ0_getBytes_840e7_0 rfl ?_
    refine r_cQ (as := []) qJ0_getBytes_840e7_1 kJ0_335 rfl rfl rfl (by decide +kernel) hS' rfl rfl rfl rfl rfl rfl ?_
    refine c_Q_coder hS' ?_
    show zR E _ _ X 4 _ _ _ _ _ _ _
    refine r_iload_n qJ0_getBytes_840e7_4 rfl ?_
    refine r_icmp_ne (t := 28) qJ0_getBytes_840e7_5 (by decide) (fun hc5 => absurd hc5 (fun h => h rfl)) (fun hc5 => ?_)
    refine r_aload_n qJ0_getBytes_840e7_8 rfl ?_
    refine r_sval qJ0_getBytes_840e7_9 hq fS_9 ?_
    refine r_iconst (v := nI 0) qJ0_getBytes_840e7_12 (by decide) ?_
    refine r_aload_n qJ0_getBytes_840e7_13 rfl ?_
    refine r_iload_n qJ0_getBytes_840e7_14 rfl ?_
    refine r_iload_n qJ0_getBytes_840e7_15 rfl ?_
    refine r_ishl qJ0_getBytes_840e7_16 ?_
    rw [shl_0]
    refine r_aload_n qJ0_getBytes_840e7_17 rfl ?_
    refine r_sval qJ0_getBytes_840e7_18 hq fS_9 ?_
    refine r_slen qJ0_getBytes_840e7_21 hq ?_
    refine r_copyS qJ0_getBytes_840e7_22 kJ0_212 hq rfl hl (fun k hk => getD_ch hch hk) hd (not_neg (by omega)) (by rw [em]; exact h5) rfl rfl ?_
    rw [em]
    refine r_goto (t := 43) qJ0_getBytes_840e7_25 (by decide) ?_
    refine r_vret qJ0_getBytes_840e7_43 rfl rfl rfl ?_
    exact hK
  · skip
    have hK' : K (.inl none) g (wA i dst (va_cpy (i (gR g r 0)) (i dst) 0 m L.length)) j := by
      rw [va_cpy_c (f' := fun k => L.getD k 0) (fun k _ hk => h4 k (by omega))]
      exact hK
    have el : (nI L.length).toNatClampNeg = L.length := nI_clamp (by omega)
    refine r_aload_n qJ0_getBytes_840e7_0 rfl ?_
    refine r_cQ (as := []) qJ0_getBytes_840e7_1 kJ0_335 rfl rfl rfl (by decide +kernel) hS' rfl rfl rfl rfl rfl rfl ?_
    refine c_Q_coder hS' ?_
    show zR E _ _ X 4 _ _ _ _ _ _ _
    refine r_iload_n qJ0_getBytes_840e7_4 rfl ?_
    refine r_icmp_ne (t := 28) qJ0_getBytes_840e7_5 (by decide) (fun hc5 => absurd hc5 (fun h => h rfl)) (fun hc5 => ?_)
    refine r_aload_n qJ0_getBytes_840e7_8 rfl ?_
    refine r_getr qJ0_getBytes_840e7_9 fJ0_9 rfl (by assumption) (by first | assumption | rfl) ?_
    refine r_iconst (v := nI 0) qJ0_getBytes_840e7_12 (by decide) ?_
    refine r_aload_n qJ0_getBytes_840e7_13 rfl ?_
    refine r_iload_n qJ0_getBytes_840e7_14 rfl ?_
    refine r_iload_n qJ0_getBytes_840e7_15 rfl ?_
    refine r_ishl qJ0_getBytes_840e7_16 ?_
    rw [shl_0]
    refine r_aload_n qJ0_getBytes_840e7_17 rfl ?_
    refine r_getr qJ0_getBytes_840e7_18 fJ0_9 rfl (by assumption) (by first | assumption | rfl) ?_
    refine r_alen qJ0_getBytes_840e7_21 ⟨1, by decide, h2⟩ ?_
    rw [h3]
    refine r_copyi (t := 1) qJ0_getBytes_840e7_22 kJ0_212 (Or.inr rfl) h2 hd (by decide) (not_neg (by omega)) (not_neg (by omega)) (by rw [el, h3]; show 0 + _ ≤ _; omega) (by rw [el, em]; exact h5) (Or.inr (fun k hk => by rw [el] at hk; show fits .byte (.int (i (gR g r 0) (0 + k))) = true; rw [Nat.zero_add, h4 k hk]; exact getD_ch hch hk)) rfl rfl ?_
    rw [el, em, show (nI 0).toNatClampNeg = 0 by decide]
    refine r_goto (t := 43) qJ0_getBytes_840e7_25 (by decide) ?_
    refine r_vret qJ0_getBytes_840e7_43 rfl rfl rfl ?_
    exact hK'
set_option maxHeartbeats 4000000 in
set_option maxRecDepth 20000 in
theorem c_J5_inflateIfNeededFor_a7421 {E : Ev} {g : Sh} {i : Ni} {j : Nj} {K : Kp} {r s : Nat} {L M : List Int32} (hB : zBu g i r L) (hS : zQs E g i s M) (hK : K (.inl none) g i j) : zCon E mJ5_inflateIfNeededFor_a7421 [.ref r, .ref s] g i j K := by
  refine zcon_of (by decide +kernel) rfl rfl (lo := [.ref r, .ref s]) rfl (fun X => ?_)
  have hT := hB.1
  refine r_gcs qJ5_inflateIfNeededFor_a7421_0 fA_18 ?_
  refine r_if_eq (t := 21) qJ5_inflateIfNeededFor_a7421_3 (by decide) (fun hc3 => absurd hc3 (by decide)) (fun hc3 => ?_)
  refine r_aload_n qJ5_inflateIfNeededFor_a7421_6 rfl ?_
  refine r_geti qJ5_inflateIfNeededFor_a7421_7 fJ5_22 rfl (by assumption) ?_
  rw [hB.2.1]
  refine r_aload_n qJ5_inflateIfNeededFor_a7421_10 rfl ?_
  refine r_cQ (as := []) qJ5_inflateIfNeededFor_a7421_11 kJ5_40 rfl rfl rfl (by decide +kernel) hS rfl rfl rfl rfl rfl rfl ?_
  refine c_Q_coder hS ?_
  show zR E _ _ X 14 _ _ _ _ _ _ _
  refine r_icmp_eq (t := 21) qJ5_inflateIfNeededFor_a7421_14 (by decide) (fun hc14 => ?_) (fun hc14 => absurd hc14 (fun h => h rfl))
  refine r_vret qJ5_inflateIfNeededFor_a7421_21 rfl rfl rfl ?_
  exact hK
set_option maxHeartbeats 4000000 in
set_option maxRecDepth 20000 in
theorem c_J5_putStringAt_47b60 {E : Ev} {g : Sh} {i : Ni} {j : Nj} {K : Kp} {r s : Nat} {L M : List Int32} (hB : zBu g i r L) (hS : zQs E g i s M) (hl : M.length < 1000) (hch : ∀ c ∈ M, zCh c) (hfit : L.length + M.length ≤ gL g (gR g r 0)) (hK : K (.inl none) g (wA i (gR g r 0) (va_cpy (fun k => M.getD k 0) (i (gR g r 0)) 0 L.length M.length)) j) : zCon E mJ5_putStringAt_47b60 [.ref r, .int (nI L.length), .ref s] g i j K := by
  refine zcon_of (by decide +kernel) rfl rfl (lo := [.ref r, .int (nI L.length), .ref s]) rfl (fun X => ?_)
  have hT := hB.1
  have hc7 := hB.2.2.2.2.1.2
  refine r_aload_n qJ5_putStringAt_47b60_0 rfl ?_
  refine r_aload_n qJ5_putStringAt_47b60_1 rfl ?_
  refine r_cvB (as := [.ref s]) qJ5_putStringAt_47b60_2 bJ5_397 iJ5_inflateIfNeededFor_a7421 sJ5_inflateIfNeededFor_a7421 rfl rfl rfl (by decide +kernel) hT (by decide) rfl rfl rfl rfl rfl ?_
  refine c_J5_inflateIfNeededFor_a7421 hB hS ?_
  show zR E _ _ X 5 _ _ _ _ _ _ _
  refine r_aload_n qJ5_putStringAt_47b60_5 rfl ?_
  refine r_aload_n qJ5_putStringAt_47b60_6 rfl ?_
  refine r_getr qJ5_putStringAt_47b60_7 fJ5_15 rfl (by assumption) (by first | assumption | rfl) ?_
  refine r_iload_n qJ5_putStringAt_47b60_10 rfl ?_
  refine r_aload_n qJ5_putStringAt_47b60_11 rfl ?_
  refine r_geti qJ5_putStringAt_47b60_12 fJ5_22 rfl (by assumption) ?_
  rw [hB.2.1]
  refine r_cQ (as := [.ref (gR g r 0), .int (nI L.length), .int (nI 0)]) qJ5_putStringAt_47b60_15 kJ5_399 rfl rfl rfl (by decide +kernel) hS rfl rfl rfl rfl rfl rfl ?_
  refine c_J0_getBytes_840e7 hS hl hch hB.2.2.2.1 hfit (by omega) ?_
  show zR E _ _ X 18 _ _ _ _ _ _ _
  refine r_vret qJ5_putStringAt_47b60_18 rfl rfl rfl ?_
  exact hK
set_option maxHeartbeats 4000000 in
set_option maxRecDepth 20000 in
theorem c_J5_append_cf1ce {E : Ev} {g : Sh} {i : Ni} {j : Nj} {K : Kp} {r s : Nat} {L M : List Int32} (hB : zBu g i r L) (hS : zQr E g i r s M) (hs0 : s ≠ 0) (hch : ∀ c ∈ M, zCh c) (hM : M.length ≤ 12 ∨ L.length + M.length ≤ gL g (gR g r 0)) (hl : L.length + M.length ≤ 349) (hK : ∀ (g' : Sh) (i' : Ni) (j' : Nj), zBu g' i' r (L ++ M) → zBf r g i j g' i' j' → K (.inl (some (.ref r))) g' i' j') : zConI E mJ5_append_cf1ce [.ref r, .ref s] g i j K := by
  refine zconI_of (by decide +kernel) rfl rfl (lo := [.ref r, .ref s, zJ]) rfl (fun X => ?_)
  have hT := hB.1
  have h6 := hB.2.2.2.2.2.1
  have K24 : ∀ (g' : Sh) (i' : Ni) (j' : Nj), zBu g' i' r L → L.length + M.length ≤ gL g' (gR g' r 0) → zBf r g i j g' i' j' → zR E mJ5_append_cf1ce (zZI E mJ5_append_cf1ce K) X 24 [.ref r, .ref s, .int (nI M.length)] [] g' i' j' 1 720 := by
    intro g' i' j' hB' hl' hF
    have hS' := (hS.bf hB hF).q
    obtain ⟨h1, h2, h3, h4, h5, h6, h7, h8⟩ := id hB'
    have hne := hB'.ne
    refine r_aload_n qJ5_append_cf1ce_24 rfl ?_
    refine r_aload_n qJ5_append_cf1ce_25 rfl ?_
    refine r_geti qJ5_append_cf1ce_26 fJ5_79 rfl (by assumption) ?_
    rw [h3]
    refine r_aload_n qJ5_append_cf1ce_29 rfl ?_
    refine r_cvB (as := [.int (nI L.length), .ref s]) qJ5_append_cf1ce_30 bJ5_208 iJ5_putStringAt_47b60 sJ5_putStringAt_47b60 rfl rfl rfl (by decide +kernel) h1 (by decide) rfl rfl rfl rfl rfl ?_
    refine c_J5_putStringAt_47b60 hB' hS' (by omega) hch hl' ?_
    show zR E _ _ X 33 _ _ _ _ _ _ _
    refine r_aload_n qJ5_append_cf1ce_33 rfl ?_
    refine r_dup qJ5_append_cf1ce_34 rfl ?_
    refine r_geti qJ5_append_cf1ce_35 fJ5_79 rfl (by assumption) ?_
    rw [wA_n (Ne.symm hne), h3]
    refine r_iload_n qJ5_append_cf1ce_38 rfl ?_
    first | with_reducible refine r_iaddN qJ5_append_cf1ce_39 ?_ | refine r_iadd qJ5_append_cf1ce_39 ?_
    refine r_puti qJ5_append_cf1ce_40 fJ5_79 (Or.inl rfl) rfl rfl rfl (by assumption) ?_
    refine r_aload_n qJ5_append_cf1ce_43 rfl ?_
    refine r_aretI qJ5_append_cf1ce_44 rfl rfl rfl rfl ?_
    obtain ⟨P1, P2⟩ := zBu.put (i2 := wA (wA i' (gR g' r 0) (va_cpy (fun k => M.getD k 0) (i' (gR g' r 0)) 0 L.length M.length)) r (upd (i' r) 3 (nI (L.length + M.length)))) (j := j') (M := M) hB' hl' hch (by rw [wA_s, pk_un (by decide)]; exact h2) (by rw [wA_s, pk_us]) (fun k hk => by rw [wA_n hne, wA_s, va_cpy, if_neg (by omega)]) (fun k hk => by rw [wA_n hne, wA_s, va_cpy, if_pos (by omega)]; congr 1; omega) (fun k hk => by rw [wA_n hne, wA_s, va_cpy, if_neg (by omega)]) (fun q q1 q2 => by rw [wA_n q1, wA_n q2])
    rw [wA_n (Ne.symm hne)]
    exact hK _ _ _ P1 (hF.trans P2)
  refine r_aload_n qJ5_append_cf1ce_0 rfl ?_
  refine r_ifnonnull (t := 9) qJ5_append_cf1ce_1 (by decide) (fun hc1 => ?_) (fun hc1 => absurd hc1 (hs0))
  refine r_aload_n qJ5_append_cf1ce_9 rfl ?_
  refine r_cQ (as := []) qJ5_append_cf1ce_10 kJ5_32 rfl rfl rfl (by decide +kernel) hS.q rfl rfl rfl rfl rfl rfl ?_
  refine c_Q_length hS.q ?_
  show zR E _ _ X 13 _ _ _ _ _ _ _
  refine r_is_3_2 qJ5_append_cf1ce_13 rfl rfl ?_
  refine r_aload_n qJ5_append_cf1ce_14 rfl ?_
  refine r_aload_n qJ5_append_cf1ce_15 rfl ?_
  refine r_geti qJ5_append_cf1ce_16 fJ5_79 rfl (by assumption) ?_
  rw [hB.2.2.1]
  refine r_iload_n qJ5_append_cf1ce_19 rfl ?_
  first | with_reducible refine r_iaddN qJ5_append_cf1ce_20 ?_ | refine r_iadd qJ5_append_cf1ce_20 ?_
  refine r_cvB (as := [.int (nI (L.length + M.length))]) qJ5_append_cf1ce_21 bJ5_100 iJ5_ensureCapacityInternal_d00df sJ5_ensureCapacityInternal_d00df rfl rfl rfl (by decide +kernel) hT (by decide) rfl rfl rfl rfl rfl ?_
  exact c_J5_ensureCapacityInternal_d00df hB (by omega) hl K24
set_option maxHeartbeats 4000000 in
set_option maxRecDepth 20000 in
theorem c_J4_append_15ec4 {E : Ev} {g : Sh} {i : Ni} {j : Nj} {K : Kp} {r s : Nat} {L M : List Int32} (hB : zBu g i r L) (hS : zQr E g i r s M) (hs0 : s ≠ 0) (hch : ∀ c ∈ M, zCh c) (hM : M.length ≤ 12 ∨ L.length + M.length ≤ gL g (gR g r 0)) (hl : L.length + M.length ≤ 349) (hK : ∀ (g' : Sh) (i' : Ni) (j' : Nj), zBu g' i' r (L ++ M) → zBf r g i j g' i' j' → K (.inl (some (.ref r))) g' i' j') : zCon E mJ4_append_15ec4 [.ref r, .ref s] g i j K := by
  refine zcon_of (by decide +kernel) rfl rfl (lo := [.ref r, .ref s]) rfl (fun X => ?_)
  have hT := hB.1
  refine r_aload_n qJ4_append_15ec4_0 rfl ?_
  refine r_aload_n qJ4_append_15ec4_1 rfl ?_
  refine r_sup (as := [.ref s]) qJ4_append_15ec4_2 uJ4_29 rfl rfl rfl (by decide +kernel) hT (by decide) rfl rfl rfl rfl rfl ?_
  refine c_J5_append_cf1ce hB hS hs0 hch hM hl (fun g' i' j' q1 q2 => ?_)
  show zR E _ _ X 5 _ _ _ _ _ _ _
  refine r_pop qJ4_append_15ec4_5 rfl ?_
  refine r_aload_n qJ4_append_15ec4_6 rfl ?_
  refine r_aret qJ4_append_15ec4_7 rfl rfl rfl rfl ?_
  exact hK _ _ _ q1 q2
set_option maxHeartbeats 4000000 in
set_option maxRecDepth 20000 in
theorem c_J4_append_cf1ce {E : Ev} {g : Sh} {i : Ni} {j : Nj} {K : Kp} {r s : Nat} {L M : List Int32} (hB : zBu g i r L) (hS : zQr E g i r s M) (hs0 : s ≠ 0) (hch : ∀ c ∈ M, zCh c) (hM : M.length ≤ 12 ∨ L.length + M.length ≤ gL g (gR g r 0)) (hl : L.length + M.length ≤ 349) (hK : ∀ (g' : Sh) (i' : Ni) (j' : Nj), zBu g' i' r (L ++ M) → zBf r g i j g' i' j' → K (.inl (some (.ref r))) g' i' j') : zConI E mJ4_append_cf1ce [.ref r, .ref s] g i j K := by
  refine zconI_of (by decide +kernel) rfl rfl (lo := [.ref r, .ref s]) rfl (fun X => ?_)
  have hT := hB.1
  refine r_aload_n qJ4_append_cf1ce_0 rfl ?_
  refine r_aload_n qJ4_append_cf1ce_1 rfl ?_
  refine r_cv1 (cu2 := 1) (su2 := 720) qJ4_append_cf1ce_2 kJ4_23 rfl (by decide +kernel) (c := 5) (by assumption) (by decide) rfl rfl rfl rfl rfl rfl ?_
  refine c_J4_append_15ec4 hB hS hs0 hch hM hl (fun g' i' j' q1 q2 => ?_)
  show zR E _ _ X 5 _ _ _ _ _ _ _
  refine r_aretI qJ4_append_cf1ce_5 rfl rfl rfl rfl ?_
  exact hK _ _ _ q1 q2
/-- all that stood but the object r is as before; r's row of bytes is new -/
def zBn (r : Nat) (g : Sh) (i : Ni) (j : Nj) (g' : Sh) (i' : Ni) (j' : Nj) : Prop := gT g (gR g' r 0) = 0 ∧ zNf r g i j g' i' j'
theorem wN_ne {g : Sh} {i : Ni} {r q N v : Nat} {f : Nat → Int32} (qf : gT g q = 0) {p : Nat} (hp : gT g p ≠ 0) (hpr : p ≠ r) : gT (wR (wN g q 12 N) r 0 v) p = gT g p ∧ gL (wR (wN g q 12 N) r 0 v) p = gL g p ∧ (∀ k, gR (wR (wN g q 12 N) r 0 v) p k = gR g p k) ∧ wA (wA i r f) q (fun _ => 0) p = i p := by
  have hpq : p ≠ q := fun e => hp (by rw [e]; exact qf)
  exact ⟨by rw [gT_wR, gT_wN, if_neg hpq], by rw [gL_wR, gL_wN, if_neg hpq], fun k => by rw [gR_wR, if_neg hpr, gR_wN, if_neg hpq], by rw [wA_n hpq, wA_n hpr]⟩
theorem zBu.ini {g : Sh} {i : Ni} {r q N : Nat} {f : Nat → Int32} (hT : gT g r = 6) (qf : gT g q = 0) (hN : 16 ≤ N ∧ N ≤ 700) (f1 : f 1 = nI 0) (f3 : f 3 = nI 0) : zBu (wR (wN g q 12 N) r 0 q) (wA (wA i r f) q (fun _ => 0)) r [] := by
  have hq : r ≠ q := fun e => by rw [e, qf] at hT; exact absurd hT (by decide)
  have e0 : gR (wR (wN g q 12 N) r 0 q) r 0 = q := by rw [wAR, if_pos rfl]
  refine ⟨by rw [gT_wR, gT_wN, if_neg hq]; exact hT, by rw [wA_n hq, wA_s]; exact f1, by rw [wA_n hq, wA_s]; exact f3, by rw [e0, gT_wR, gT_wN, if_pos rfl], by rw [e0, gL_wR, gL_wN, if_pos rfl]; exact hN, Nat.zero_le _, fun k hk => absurd hk (Nat.not_lt_zero k), fun k hk => ⟨0, by decide, by rw [e0, wA_s]; rfl⟩⟩
theorem zQs.ini {E : Ev} {g : Sh} {i : Ni} {r s q N : Nat} {f : Nat → Int32} {M : List Int32} (hT : gT g r = 6) (qf : gT g q = 0) (hS : zQs E g i s M) : zQr E (wR (wN g q 12 N) r 0 q) (wA (wA i r f) q (fun _ => 0)) r s M := by
  rcases hS with h | ⟨h1, h2, h3, h4, h5⟩
  · exact Or.inl h
  · have e0 : gR (wR (wN g q 12 N) r 0 q) r 0 = q := by rw [wAR, if_pos rfl]
    have nsr : s ≠ r := fun e => by rw [e, hT] at h1; exact absurd h1 (by decide)
    have nvr : gR g s 0 ≠ r := fun e => by rw [e, hT] at h3; exact absurd h3 (by decide)
    obtain ⟨s1, -, s3, s4⟩ := wN_ne (i := i) (r := r) (N := N) (v := q) (f := f) qf (show gT g s ≠ 0 by rw [h1]; decide) nsr
    obtain ⟨v1, v2, -, v4⟩ := wN_ne (i := i) (r := r) (N := N) (v := q) (f := f) qf (show gT g (gR g s 0) ≠ 0 by rw [h3]; decide) nvr
    refine Or.inr ⟨s1.trans h1, by rw [s4]; exact h2, by rw [s3, v1]; exact h3, by rw [s3, v2]; exact h4, fun k hk => by rw [s3, v4]; exact h5 k hk, ?_⟩
    rw [e0, s3]
    intro e
    rw [e, qf] at h3
    exact absurd h3 (by decide)
theorem zBn.ini {g g' : Sh} {i i' : Ni} {j j' : Nj} {r q N : Nat} {f : Nat → Int32} {f2 : Nat → Int64} (hT : gT g r = 6) (qf : gT g q = 0) (hF : zBf r (wR (wN g q 12 N) r 0 q) (wA (wA i r f) q (fun _ => 0)) (wB j q f2) g' i' j') : zBn r g i j g' i' j' := by
  have hq : r ≠ q := fun e => by rw [e, qf] at hT; exact absurd hT (by decide)
  have e0 : gR (wR (wN g q 12 N) r 0 q) r 0 = q := by rw [wAR, if_pos rfl]
  refine ⟨?_, fun p hp => ?_⟩
  · rcases hF.1 with e | e
    · rw [e, e0]; exact qf
    · by_cases h : gR g' r 0 = q
      · rw [h]; exact qf
      · rw [gT_wR, gT_wN, if_neg h] at e; exact e
  · have hpq : p ≠ q := fun e => hp (by rw [e]; exact qf)
    obtain ⟨a1, a2, a3, a4⟩ := hF.2 p (by rw [gT_wR, gT_wN, if_neg hpq]; exact hp)
    refine ⟨by rw [a1, gT_wR, gT_wN, if_neg hpq], by rw [a2, gL_wR, gL_wN, if_neg hpq], by rw [a3, wB_n hpq], fun hpr => ⟨fun k => ?_, ?_⟩⟩
    · rw [(a4 hpr).1 k, gR_wR, if_neg hpr, gR_wN, if_neg hpq]
    · rw [(a4 hpr).2 (by rw [e0]; exact hpq), wA_n hpq, wA_n hpr]
set_option maxHeartbeats 4000000 in
set_option maxRecDepth 20000 in
theorem c_J5_init_a7421 {E : Ev} {g : Sh} {i : Ni} {j : Nj} {K : Kp} {r s : Nat} {M : List Int32} (hr0 : r ≠ 0) (hT : gT g r = 6) (h0 : ∀ k, i r k = 0) (hS : zQs E g i s M) (hs0 : s ≠ 0) (hch : ∀ c ∈ M, zCh c) (hM : M.length ≤ 60) (hK : ∀ (g' : Sh) (i' : Ni) (j' : Nj), zBu g' i' r M → zBn r g i j g' i' j' → K (.inl none) g' i' j') : zConI E mJ5_init_a7421 [.ref r, .ref s] g i j K := by
  refine zconI_of (by decide +kernel) rfl rfl (lo := [.ref r, .ref s, zJ, zJ, zJ]) rfl (fun X => ?_)
  refine r_aload_n qJ5_init_a7421_0 rfl ?_
  refine r_objinit qJ5_init_a7421_1 kJ5_3 (by assumption) rfl rfl ?_
  refine r_aload_n qJ5_init_a7421_4 rfl ?_
  refine r_cQ (as := []) (cu2 := 0) (su2 := 0) qJ5_init_a7421_5 kJ5_32 rfl rfl rfl (by decide +kernel) hS rfl rfl rfl rfl rfl rfl ?_
  refine c_Q_length hS ?_
  show zR E _ _ X 8 _ _ _ _ _ _ _
  refine r_is_5_2 qJ5_init_a7421_8 rfl rfl ?_
  refine r_iload_n qJ5_init_a7421_9 rfl ?_
  refine r_ldci qJ5_init_a7421_10 lJ5_38 ?_
  refine r_icmp_ge (t := 22) qJ5_init_a7421_12 (by decide) (fun hc12 => absurd hc12 (fun h => absurd h (by rw [show (2147483631 : Int32) = nI 2147483631 by decide]; exact Int32.not_le.mpr (nI_lt (by omega) (by decide))))) (fun hc12 => ?_)
  refine r_iload_n qJ5_init_a7421_15 rfl ?_
  refine r_bipush (v := nI 16) qJ5_init_a7421_16 (by decide) ?_
  first | with_reducible refine r_iaddN qJ5_init_a7421_18 ?_ | refine r_iadd qJ5_init_a7421_18 ?_
  refine r_goto (t := 24) qJ5_init_a7421_19 (by decide) ?_
  refine r_is_5_3 qJ5_init_a7421_24 rfl rfl ?_
  refine r_aload_n qJ5_init_a7421_25 rfl ?_
  refine r_cQ (as := []) (cu2 := 0) (su2 := 0) qJ5_init_a7421_26 kJ5_40 rfl rfl rfl (by decide +kernel) hS rfl rfl rfl rfl rfl rfl ?_
  refine c_Q_coder hS ?_
  show zR E _ _ X 29 _ _ _ _ _ _ _
  refine r_is_5_4 qJ5_init_a7421_29 rfl rfl ?_
  refine r_aload_n qJ5_init_a7421_31 rfl ?_
  refine r_iload qJ5_init_a7421_32 rfl ?_
  refine r_puti qJ5_init_a7421_34 fJ5_22 (Or.inl rfl) rfl (by first | rfl | decide | assumption) (by first | rfl | decide | assumption) (by assumption) ?_
  refine r_aload_n qJ5_init_a7421_37 rfl ?_
  refine r_iload qJ5_init_a7421_38 rfl ?_
  refine r_if_ne (t := 49) qJ5_init_a7421_40 (by decide) (fun hc40 => absurd hc40 (fun h => h rfl)) (fun hc40 => ?_)
  refine r_iload_n qJ5_init_a7421_43 rfl ?_
  refine r_newa (N := M.length + 16) qJ5_init_a7421_44 rfl (by decide) na_1 (not_neg (by omega)) (nI_clamp (by omega)) (Nat.ble_eq.mpr (by omega)) rfl (lbx (m := 800) rfl (by omega)) (fun q q0 qf => r_widen (cu2 := 1) (su2 := 80) (by omega) (by omega) ?_)
  have hq : r ≠ q := fun e => by rw [e, qf] at hT; exact absurd hT (by decide)
  have hT2 : gT (wN g q 12 (M.length + 16)) r = 6 := by rw [gT_wN, if_neg hq]; exact hT
  have hB2 := zBu.ini (i := i) (N := M.length + 16) (f := upd (i r) 1 0) hT qf (by omega) pk_us (by rw [pk_un (by decide), h0]; rfl)
  have hQ2 := zQs.ini (N := M.length + 16) (f := upd (i r) 1 0) hT qf hS
  have hfit : ([] : List Int32).length + M.length ≤ gL (wR (wN g q 12 (M.length + 16)) r 0 q) (gR (wR (wN g q 12 (M.length + 16)) r 0 q) r 0) := by rw [show gR (wR (wN g q 12 (M.length + 16)) r 0 q) r 0 = q by rw [wAR, if_pos rfl], gL_wR, gL_wN, if_pos rfl]; simp
  refine r_goto (t := 53) qJ5_init_a7421_46 (by decide) ?_
  refine r_putr qJ5_init_a7421_53 fJ5_15 (Or.inl rfl) rfl (by assumption) ?_
  refine r_aload_n qJ5_init_a7421_56 rfl ?_
  refine r_aload_n qJ5_init_a7421_57 rfl ?_
  refine r_cvO (as := [.ref s]) (cu2 := 2) (su2 := 800) qJ5_init_a7421_58 oJ5_43 rfl rfl rfl rfl (by decide +kernel) hT2 rfl rfl rfl rfl rfl ?_
  refine c_J4_append_cf1ce hB2 hQ2 hs0 hch (Or.inr hfit) (by simp; omega) (fun g' i' j' q1 q2 => ?_)
  show zR E _ _ X 61 _ _ _ _ _ _ _
  refine r_pop qJ5_init_a7421_61 rfl ?_
  refine r_vretI qJ5_init_a7421_62 rfl rfl rfl ?_
  exact hK _ _ _ q1 (zBn.ini hT qf q2)
set_option maxHeartbeats 4000000 in
set_option maxRecDepth 20000 in
theorem c_J4_init_a7421 {E : Ev} {g : Sh} {i : Ni} {j : Nj} {K : Kp} {r s : Nat} {M : List Int32} (hr0 : r ≠ 0) (hT : gT g r = 6) (h0 : ∀ k, i r k = 0) (hS : zQs E g i s M) (hs0 : s ≠ 0) (hch : ∀ c ∈ M, zCh c) (hM : M.length ≤ 60) (hK : ∀ (g' : Sh) (i' : Ni) (j' : Nj), zBu g' i' r M → zBn r g i j g' i' j' → K (.inl none) g' i' j') : zConI E mJ4_init_a7421 [.ref r, .ref s] g i j K := by
  refine zconI_of (by decide +kernel) rfl rfl (lo := [.ref r, .ref s]) rfl (fun X => ?_)
  refine r_aload_n qJ4_init_a7421_0 rfl ?_
  refine r_aload_n qJ4_init_a7421_1 rfl ?_
  refine r_ci1 (cu2 := 2) (su2 := 800) qJ4_init_a7421_2 kJ4_7 rfl (by decide +kernel) (by assumption) rfl rfl rfl rfl rfl ?_
  refine c_J5_init_a7421 hr0 hT h0 hS hs0 hch hM (fun g' i' j' q1 q2 => ?_)
  show zR E _ _ X 5 _ _ _ _ _ _ _
  refine r_vretI qJ4_init_a7421_5 rfl rfl rfl ?_
  exact hK _ _ _ q1 q2
/-! out of it -/
set_option maxHeartbeats 4000000 in
set_option maxRecDepth 20000 in
theorem c_J7_checkLength_df160 {E : Ev} {g : Sh} {i : Ni} {j : Nj} {K : Kp} {n : Nat} (hn : n < 1000) (hK : K (.inl none) g i j) : zCon E mJ7_checkLength_df160 [.int (nI 0), .int (nI n)] g i j K := by
  refine zcon_of (by decide +kernel) rfl rfl (lo := [.int (nI 0), .int (nI n)]) rfl (fun X => ?_)
  refine r_iload_n qJ7_checkLength_df160_0 rfl ?_
  refine r_iload_n qJ7_checkLength_df160_1 rfl ?_
  refine r_icmp_ge (t := 37) qJ7_checkLength_df160_2 (by decide) (fun hc2 => ?_) (fun hc2 => absurd hc2 (fun h => h (nI_le (Nat.zero_le n) (by omega))))
  refine r_vret qJ7_checkLength_df160_37 rfl rfl rfl ?_
  exact hK
theorem jmin_r {a b : Nat} (h : b ≤ a) (ha : a < 2 ^ 31) : jmin (nI a) (nI b) = nI b := by
  unfold jmin
  by_cases e : b = a
  · subst e; split <;> rfl
  · exact if_pos (nI_lt (by omega) ha)
set_option maxHeartbeats 4000000 in
set_option maxRecDepth 20000 in
theorem c_J7_copyOfRangeByte_39247 {E : Ev} {g : Sh} {i : Ni} {j : Nj} {K : Kp} {r n c : Nat} (h1 : gT g r = 12) (h2 : gL g r = c) (hc : n ≤ c) (hM : c ≤ 700) (hch : ∀ k, k < c → zCh (i r k)) (hK : ∀ q : Nat, q ≠ 0 → gT g q = 0 → K (.inl (some (.ref q))) (wN g q 12 n) (wA (wA i q (fun _ => 0)) q (va_cpy (i r) (fun _ => 0) 0 0 n)) (wB j q (fun _ => 0))) : zCon E mJ7_copyOfRangeByte_39247 [.ref r, .int (nI 0), .int (nI n)] g i j K := by
  refine zcon_of (by decide +kernel) rfl rfl (lo := [.ref r, .int (nI 0), .int (nI n), zJ, zJ]) rfl (fun X => ?_)
  refine r_iload_n qJ7_copyOfRangeByte_39247_0 rfl ?_
  refine r_iload_n qJ7_copyOfRangeByte_39247_1 rfl ?_
  refine r_cs2 (cu2 := 0) (su2 := 0) qJ7_copyOfRangeByte_39247_2 kJ7_343 rfl (by decide +kernel) rfl rfl rfl rfl rfl ?_
  refine c_J7_checkLength_df160 (by omega) ?_
  show zR E _ _ X 5 _ _ _ _ _ _ _
  refine r_iload_n qJ7_copyOfRangeByte_39247_5 rfl ?_
  refine r_iload_n qJ7_copyOfRangeByte_39247_6 rfl ?_
  refine r_isub qJ7_copyOfRangeByte_39247_7 ?_
  rw [nI_sub (Nat.zero_le n), Nat.sub_zero]
  refine r_is_5_3 qJ7_copyOfRangeByte_39247_8 rfl rfl ?_
  refine r_iload_n qJ7_copyOfRangeByte_39247_9 rfl ?_
  refine r_newa (N := n) qJ7_copyOfRangeByte_39247_10 rfl (by decide) na_1 (not_neg (by omega)) (nI_clamp (by omega)) (Nat.ble_eq.mpr (by omega)) rfl (lbx (m := 720) rfl (by omega)) (fun q q0 qf => r_widen (cu2 := 1) (su2 := 720) (by omega) (by omega) ?_)
  have hq : r ≠ q := fun e => by rw [e, qf] at h1; exact absurd h1 (by decide)
  have h9 : gT (wN g q 12 n) r = 12 := by rw [gT_wN, if_neg hq]; exact h1
  refine r_as_5_4 qJ7_copyOfRangeByte_39247_12 rfl rfl ?_
  refine r_aload_n qJ7_copyOfRangeByte_39247_14 rfl ?_
  refine r_iload_n qJ7_copyOfRangeByte_39247_15 rfl ?_
  refine r_aload qJ7_copyOfRangeByte_39247_16 rfl ?_
  refine r_iconst (v := nI 0) qJ7_copyOfRangeByte_39247_18 (by decide) ?_
  refine r_aload_n qJ7_copyOfRangeByte_39247_19 rfl ?_
  refine r_alen qJ7_copyOfRangeByte_39247_20 ⟨1, by decide, h9⟩ ?_
  rw [gL_wN, if_neg hq, h2]
  refine r_iload_n qJ7_copyOfRangeByte_39247_21 rfl ?_
  refine r_isub qJ7_copyOfRangeByte_39247_22 ?_
  rw [nI_sub (Nat.zero_le c), Nat.sub_zero]
  refine r_iload_n qJ7_copyOfRangeByte_39247_23 rfl ?_
  refine r_mmin qJ7_copyOfRangeByte_39247_24 kJ7_304 rfl rfl rfl rfl ?_
  rw [jmin_r hc (by omega)]
  refine r_copyi (t := 1) qJ7_copyOfRangeByte_39247_27 kJ7_150 (Or.inr rfl) h9 (by rw [gT_wN, if_pos rfl]) (by decide) (by decide) (not_neg (by omega)) (by rw [gL_wN, if_neg hq, h2, nI_clamp (by omega), nI_clamp (by omega)]; omega) (by rw [gL_wN, if_pos rfl, nI_clamp (by omega), nI_clamp (by omega)]; omega) (Or.inr (fun k hk => ?_)) rfl rfl ?_
  · rw [nI_clamp (by omega)] at hk
    rw [show (nI 0).toNatClampNeg = 0 by decide, Nat.zero_add, wA_n hq]
    exact fit_ch (hch k (by omega))
  rw [nI_clamp (by omega), nI_clamp (by omega), wA_n hq, wA_s]
  refine r_aload qJ7_copyOfRangeByte_39247_30 rfl ?_
  refine r_aret qJ7_copyOfRangeByte_39247_32 rfl rfl rfl rfl ?_
  exact hK _ q0 qf
set_option maxHeartbeats 4000000 in
set_option maxRecDepth 20000 in
theorem c_J7_copyOfRange_39247 {E : Ev} {g : Sh} {i : Ni} {j : Nj} {K : Kp} {r n c : Nat} (h1 : gT g r = 12) (h2 : gL g r = c) (hc : n ≤ c) (hM : c ≤ 700) (hch : ∀ k, k < c → zCh (i r k)) (hK : ∀ (q : Nat) (f : Nat → Int32), q ≠ 0 → gT g q = 0 → (∀ k, k < n → f k = i r k) → ∀ (i' : Ni), i' q = f → (∀ x, x ≠ q → i' x = i x) → K (.inl (some (.ref q))) (wN g q 12 n) i' (wB j q (fun _ => 0))) : zCon E mJ7_copyOfRange_39247 [.ref r, .int (nI 0), .int (nI n)] g i j K := by
  refine zcon_of (by decide +kernel) rfl rfl (lo := [.ref r, .int (nI 0), .int (nI n)]) rfl (fun X => ?_)
  by_cases e : n = c
  · subst e
    refine r_iload_n qJ7_copyOfRange_39247_0 rfl ?_
    refine r_if_ne (t := 10) qJ7_copyOfRange_39247_1 (by decide) (fun hc1 => absurd hc1 (fun h => h (by decide))) (fun hc1 => ?_)
    refine r_iload_n qJ7_copyOfRange_39247_4 rfl ?_
    refine r_aload_n qJ7_copyOfRange_39247_5 rfl ?_
    refine r_alen qJ7_copyOfRange_39247_6 ⟨1, by decide, h1⟩ ?_
    rw [h2]
    refine r_icmp_eq (t := 17) qJ7_copyOfRange_39247_7 (by decide) (fun hc7 => ?_) (fun hc7 => absurd hc7 (fun h => h rfl))
    refine r_aload_n qJ7_copyOfRange_39247_17 rfl ?_
    refine r_clone (cu2 := 0) (su2 := 0) qJ7_copyOfRange_39247_18 rfl h1 h2 (fun k hk => fit_ch (hch k hk)) rfl rfl rfl (lbx (m := 720) rfl (by omega)) (fun q q0 qf => r_widen (cu2 := 1) (su2 := 720) (by omega) (by omega) ?_)
    refine r_castB qJ7_copyOfRange_39247_21 rfl (by rw [gT_wN, if_pos rfl]) ?_
    refine r_aret qJ7_copyOfRange_39247_24 rfl rfl rfl rfl ?_
    exact hK _ (i r) q0 qf (fun k hk => rfl) _ wA_s (fun x hx => wA_n hx)
  · skip
    refine r_iload_n qJ7_copyOfRange_39247_0 rfl ?_
    refine r_if_ne (t := 10) qJ7_copyOfRange_39247_1 (by decide) (fun hc1 => absurd hc1 (fun h => h (by decide))) (fun hc1 => ?_)
    refine r_iload_n qJ7_copyOfRange_39247_4 rfl ?_
    refine r_aload_n qJ7_copyOfRange_39247_5 rfl ?_
    refine r_alen qJ7_copyOfRange_39247_6 ⟨1, by decide, h1⟩ ?_
    rw [h2]
    refine r_icmp_eq (t := 17) qJ7_copyOfRange_39247_7 (by decide) (fun hc7 => absurd hc7 (fun h => e (nI_eq2 (by omega) (by omega) h))) (fun hc7 => ?_)
    refine r_aload_n qJ7_copyOfRange_39247_10 rfl ?_
    refine r_iload_n qJ7_copyOfRange_39247_11 rfl ?_
    refine r_iload_n qJ7_copyOfRange_39247_12 rfl ?_
    refine r_cs3 (cu2 := 1) (su2 := 720) qJ7_copyOfRange_39247_13 kJ7_339 rfl (by decide +kernel) rfl rfl rfl rfl rfl ?_
    refine c_J7_copyOfRangeByte_39247 h1 h2 hc hM hch (fun q q0 qf => ?_)
    show zR E _ _ X 16 _ _ _ _ _ _ _
    refine r_aret qJ7_copyOfRange_39247_16 rfl rfl rfl rfl ?_
    exact hK _ _ q0 qf (fun k hk => by rw [va_cpy, if_pos ⟨Nat.zero_le _, by omega⟩, Nat.zero_add, Nat.sub_zero]) _ wA_s (fun x hx => by rw [wA_n hx, wA_n hx])
set_option maxHeartbeats 4000000 in
set_option maxRecDepth 20000 in
theorem c_J5_getValue_6d5f1 {E : Ev} {g : Sh} {i : Ni} {j : Nj} {K : Kp} {r : Nat} {L : List Int32} (hB : zBu g i r L) (hK : K (.inl (some (.ref (gR g r 0)))) g i j) : zCon E mJ5_getValue_6d5f1 [.ref r] g i j K := by
  refine zcon_of (by decide +kernel) rfl rfl (lo := [.ref r]) rfl (fun X => ?_)
  have hT := hB.1
  refine r_aload_n qJ5_getValue_6d5f1_0 rfl ?_
  refine r_getr qJ5_getValue_6d5f1_1 fJ5_15 rfl (by assumption) (by first | assumption | rfl) ?_
  refine r_aret qJ5_getValue_6d5f1_4 rfl rfl rfl rfl ?_
  exact hK
/-- a string that was made -/
def zMd (g : Sh) (i : Ni) (u : Nat) (L : List Int32) : Prop := gT g u = 5 ∧ i u 1 = 0 ∧ gT g (gR g u 0) = 12 ∧ gL g (gR g u 0) = L.length ∧ ∀ k, k < L.length → i (gR g u 0) k = L.getD k 0
theorem zMd.q {E : Ev} {g : Sh} {i : Ni} {u : Nat} {L : List Int32} (h : zMd g i u L) : zQs E g i u L := Or.inr h
set_option maxHeartbeats 4000000 in
set_option maxRecDepth 20000 in
theorem c_J0_init_db425 {E : Ev} {g : Sh} {i : Ni} {j : Nj} {K : Kp} {u r : Nat} {L : List Int32} (hu0 : u ≠ 0) (hT : gT g u = 5) (hB : zBu g i r L) (hK : ∀ (g' : Sh) (i' : Ni) (j' : Nj), zMd g' i' u L → gT g (gR g' u 0) = 0 → zNf u g i j g' i' j' → K (.inl none) g' i' j') : zConI E mJ0_init_db425 [.ref u, .ref r, .ref 0] g i j K := by
  refine zconI_of (by decide +kernel) rfl rfl (lo := [.ref u, .ref r, .ref 0, zJ, zJ]) rfl (fun X => ?_)
  obtain ⟨h1, h2, h3, h4, h5, h6, h7, h8⟩ := id hB
  have hru : r ≠ u := fun e => by rw [e, hT] at h1; exact absurd h1 (by decide)
  have hvu : gR g r 0 ≠ u := fun e => by rw [e, hT] at h4; exact absurd h4 (by decide)
  refine r_aload_n qJ0_init_db425_0 rfl ?_
  refine r_objinit qJ0_init_db425_1 kJ0_1 (by assumption) rfl rfl ?_
  refine r_aload_n qJ0_init_db425_4 rfl ?_
  refine r_cvB (as := []) qJ0_init_db425_5 bJ0_552 iJ5_getValue_6d5f1 sJ5_getValue_6d5f1 rfl rfl rfl (by decide +kernel) h1 (by decide) rfl rfl rfl rfl rfl ?_
  refine c_J5_getValue_6d5f1 hB ?_
  show zR E _ _ X 8 _ _ _ _ _ _ _
  refine r_as_5_3 qJ0_init_db425_8 rfl rfl ?_
  refine r_aload_n qJ0_init_db425_9 rfl ?_
  refine r_cvO (as := []) (cu2 := 0) (su2 := 0) qJ0_init_db425_10 oJ0_549 rfl rfl rfl rfl (by decide +kernel) h1 rfl rfl rfl rfl rfl ?_
  refine c_J4_length_8abf5 hB ?_
  show zR E _ _ X 13 _ _ _ _ _ _ _
  refine r_is_5_4 qJ0_init_db425_13 rfl rfl ?_
  refine r_aload_n qJ0_init_db425_15 rfl ?_
  refine r_cvB (as := []) qJ0_init_db425_16 bJ0_1047 iJ5_isLatin1_aae02 sJ5_isLatin1_aae02 rfl rfl rfl (by decide +kernel) h1 (by decide) rfl rfl rfl rfl rfl ?_
  refine c_J5_isLatin1_aae02 hB ?_
  show zR E _ _ X 19 _ _ _ _ _ _ _
  refine r_if_eq (t := 41) qJ0_init_db425_19 (by decide) (fun hc19 => absurd hc19 (by decide)) (fun hc19 => ?_)
  refine r_aload_n qJ0_init_db425_22 rfl ?_
  refine r_iconst (v := nI 0) qJ0_init_db425_23 (by decide) ?_
  refine r_puti qJ0_init_db425_24 fJ0_15 (Or.inr ⟨rfl, rfl, rfl⟩) rfl (by first | rfl | decide | assumption) (by first | rfl | decide | assumption) (by assumption) ?_
  refine r_aload_n qJ0_init_db425_27 rfl ?_
  refine r_aload_n qJ0_init_db425_28 rfl ?_
  refine r_iconst (v := nI 0) qJ0_init_db425_29 (by decide) ?_
  refine r_iload qJ0_init_db425_30 rfl ?_
  refine r_cs3 (cu2 := 1) (su2 := 720) qJ0_init_db425_32 kJ0_54 rfl (by decide +kernel) rfl rfl rfl rfl rfl ?_
  refine c_J7_copyOfRange_39247 h4 rfl h6 h5.2 (fun k hk => by rw [wA_n hvu]; exact h8 k hk) (fun q f q0 qf hf i2 e1 e2 => ?_)
  show zR E _ _ X 35 _ _ _ _ _ _ _
  have huq : u ≠ q := fun e => by rw [e, qf] at hT; exact absurd hT (by decide)
  have hT2 : gT (wN g q 12 L.length) u = 5 := by rw [gT_wN, if_neg huq]; exact hT
  refine r_putr qJ0_init_db425_35 fJ0_9 (Or.inr ⟨rfl, rfl, rfl⟩) rfl (by assumption) ?_
  refine r_goto (t := 97) qJ0_init_db425_38 (by decide) ?_
  refine r_vretI qJ0_init_db425_97 rfl rfl rfl ?_
  have e0 : gR (wR (wN g q 12 L.length) u 0 q) u 0 = q := by rw [wAR, if_pos rfl]
  refine hK _ _ _ ⟨by rw [gT_wR]; exact hT2, by rw [e2 u huq, wA_s, pk_us]; rfl, by rw [e0, gT_wR, gT_wN, if_pos rfl], by rw [e0, gL_wR, gL_wN, if_pos rfl], fun k hk => by rw [e0, e1, hf k hk, wA_n hvu]; exact h7 k hk⟩ (by rw [e0]; exact qf) (fun p hp => ?_)
  have hpq : p ≠ q := fun e => hp (by rw [e]; exact qf)
  exact ⟨by rw [gT_wR, gT_wN, if_neg hpq], by rw [gL_wR, gL_wN, if_neg hpq], wB_n hpq, fun hpu => ⟨fun k => by rw [gR_wR, if_neg hpu, gR_wN, if_neg hpq], by rw [e2 p hpq, wA_n hpu]⟩⟩
set_option maxHeartbeats 4000000 in
set_option maxRecDepth 20000 in
theorem c_J0_init_81219 {E : Ev} {g : Sh} {i : Ni} {j : Nj} {K : Kp} {u r : Nat} {L : List Int32} (hu0 : u ≠ 0) (hT : gT g u = 5) (hB : zBu g i r L) (hK : ∀ (g' : Sh) (i' : Ni) (j' : Nj), zMd g' i' u L → gT g (gR g' u 0) = 0 → zNf u g i j g' i' j' → K (.inl none) g' i' j') : zConI E mJ0_init_81219 [.ref u, .ref r] g i j K := by
  refine zconI_of (by decide +kernel) rfl rfl (lo := [.ref u, .ref r]) rfl (fun X => ?_)
  refine r_aload_n qJ0_init_81219_0 rfl ?_
  refine r_aload_n qJ0_init_81219_1 rfl ?_
  refine r_null qJ0_init_81219_2 ?_
  refine r_ci2 (cu2 := 1) (su2 := 720) qJ0_init_81219_3 kJ0_489 rfl (by decide +kernel) (by assumption) rfl rfl rfl rfl rfl ?_
  refine c_J0_init_db425 hu0 hT hB (fun g' i' j' q1 q2 q3 => ?_)
  show zR E _ _ X 6 _ _ _ _ _ _ _
  refine r_vretI qJ0_init_81219_6 rfl rfl rfl ?_
  exact hK _ _ _ q1 q2 q3
theorem zBu.new {g : Sh} {i : Ni} {j : Nj} {r u t n : Nat} {L : List Int32} (hB : zBu g i r L) (hu : gT g u = 0) : zBu (wN g u t n) (wA i u (fun _ => 0)) r L := by
  obtain ⟨h1, h2, h3, h4, h5, h6, h7, h8⟩ := hB
  have nr : r ≠ u := fun e => by rw [e, hu] at h1; exact absurd h1 (by decide)
  have nv : gR g r 0 ≠ u := fun e => by rw [e, hu] at h4; exact absurd h4 (by decide)
  have e0 : gR (wN g u t n) r 0 = gR g r 0 := by rw [gR_wN, if_neg nr]
  exact ⟨by rw [gT_wN, if_neg nr]; exact h1, by rw [wA_n nr]; exact h2, by rw [wA_n nr]; exact h3, by rw [e0, gT_wN, if_neg nv]; exact h4, by rw [e0, gL_wN, if_neg nv]; exact h5, by rw [e0, gL_wN, if_neg nv]; exact h6, fun k hk => by rw [e0, wA_n nv]; exact h7 k hk, fun k hk => by rw [e0, gL_wN, if_neg nv] at hk; rw [e0, wA_n nv]; exact h8 k hk⟩
set_option maxHeartbeats 4000000 in
set_option maxRecDepth 20000 in
theorem c_J4_toString_0e30d {E : Ev} {g : Sh} {i : Ni} {j : Nj} {K : Kp} {r : Nat} {L : List Int32} (hB : zBu g i r L) (hK : ∀ (u : Nat) (g' : Sh) (i' : Ni) (j' : Nj), u ≠ 0 → zMd g' i' u L → gT g u = 0 → gT g (gR g' u 0) = 0 → zNa2 g i j g' i' j' → K (.inl (some (.ref u))) g' i' j') : zCon E mJ4_toString_0e30d [.ref r] g i j K := by
  refine zcon_of (by decide +kernel) rfl rfl (lo := [.ref r]) rfl (fun X => ?_)
  refine r_new qJ4_toString_0e30d_0 nJ4_18 rfl rfl (fun u u0 uf => ?_)
  refine r_dup qJ4_toString_0e30d_3 rfl ?_
  refine r_aload_n qJ4_toString_0e30d_4 rfl ?_
  refine r_ci1 (cu2 := 2) (su2 := 724) qJ4_toString_0e30d_5 kJ4_137 rfl (by decide +kernel) (by assumption) rfl rfl rfl rfl rfl ?_
  refine c_J0_init_81219 u0 (by rw [gT_wN, if_pos rfl]) (hB.new (j := j) uf) (fun g' i' j' q1 q2 q3 => ?_)
  show zR E _ _ X 8 _ _ _ _ _ _ _
  refine r_aret qJ4_toString_0e30d_8 rfl rfl rfl rfl ?_
  have q2' : gT g (gR g' u 0) = 0 := by
    by_cases e : gR g' u 0 = u
    · rw [e]; exact uf
    · rw [gT_wN, if_neg e] at q2; exact q2
  exact hK u _ _ _ u0 q1 uf q2' (zNa2.of uf ((zNf.new uf).trans q3))

