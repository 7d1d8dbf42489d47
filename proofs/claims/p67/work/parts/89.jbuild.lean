/-! ===== THE BUILDER ===== -/
def zCh (c : Int32) : Prop := ∃ m : Nat, m < 128 ∧ c = nI m
/-- r is a builder that holds L -/
def zBu (g : Sh) (i : Ni) (r : Nat) (L : List Int32) : Prop :=
  gT g r = 6 ∧ i r 1 = nI 0 ∧ i r 3 = nI L.length ∧ gT g (gR g r 0) = 12 ∧ (16 ≤ gL g (gR g r 0) ∧ gL g (gR g r 0) ≤ 700) ∧ L.length ≤ gL g (gR g r 0) ∧ (∀ k, k < L.length → i (gR g r 0) k = L.getD k 0) ∧ ∀ k, k < gL g (gR g r 0) → zCh (i (gR g r 0) k)
/-- all but the builder r is as before -/
def zBf (r : Nat) (g : Sh) (i : Ni) (j : Nj) (g' : Sh) (i' : Ni) (j' : Nj) : Prop :=
  (gR g' r 0 = gR g r 0 ∨ gT g (gR g' r 0) = 0) ∧ ∀ q, gT g q ≠ 0 → gT g' q = gT g q ∧ gL g' q = gL g q ∧ j' q = j q ∧ (q ≠ r → (∀ k, gR g' q k = gR g q k) ∧ (q ≠ gR g r 0 → i' q = i q))
theorem zBf.refl {r : Nat} {g : Sh} {i : Ni} {j : Nj} : zBf r g i j g i j := ⟨Or.inl rfl, fun _ _ => ⟨rfl, rfl, rfl, fun _ => ⟨fun _ => rfl, fun _ => rfl⟩⟩⟩
theorem zBf.trans {r : Nat} {g g1 g2 : Sh} {i i1 i2 : Ni} {j j1 j2 : Nj} (h : zBf r g i j g1 i1 j1) (h2 : zBf r g1 i1 j1 g2 i2 j2) : zBf r g i j g2 i2 j2 := by
  refine ⟨?_, fun q hq => ?_⟩
  · rcases h2.1 with e | e
    · rw [e]; exact h.1
    · refine Or.inr ?_
      by_cases hz : gT g (gR g2 r 0) = 0
      · exact hz
      · exact absurd e (by rw [(h.2 _ hz).1]; exact hz)
  · obtain ⟨a1, a2, a3, a4⟩ := h.2 q hq
    obtain ⟨b1, b2, b3, b4⟩ := h2.2 q (by rw [a1]; exact hq)
    refine ⟨b1.trans a1, b2.trans a2, b3.trans a3, fun hr => ⟨fun k => ((b4 hr).1 k).trans ((a4 hr).1 k), fun hv => ?_⟩⟩
    refine Eq.trans ((b4 hr).2 fun e => ?_) ((a4 hr).2 hv)
    rcases h.1 with e1 | e1
    · exact hv (e.trans e1)
    · exact hq (by rw [e]; exact e1)
theorem zBu.ne {g : Sh} {i : Ni} {r : Nat} {L : List Int32} (h : zBu g i r L) : gR g r 0 ≠ r := fun e => by
  have h1 := h.2.2.2.1
  rw [e, h.1] at h1
  exact absurd h1 (by decide)
theorem shl_0 (v : Int32) : v <<< (nI 0 &&& 31) = v := by
  have h : (nI 0 &&& 31 : Int32) = 0 := by decide
  rw [h]
  exact Int32.shiftLeft_zero
theorem nI_eq2 {a b : Nat} (ha : a < 2 ^ 31) (hb : b < 2 ^ 31) (h : nI a = nI b) : a = b := by
  have := congrArg Int32.toInt h
  rw [nI_toInt ha, nI_toInt hb] at this
  omega
theorem jmax_nI {a b : Nat} (h : a ≤ b) (hb : b < 2 ^ 31) : jmax (nI a) (nI b) = nI b := by
  unfold jmax
  by_cases e : a = b
  · subst e; split <;> rfl
  · exact if_pos (nI_lt (by omega) hb)
theorem jmin_nI {a b : Nat} (h : a ≤ b) (hb : b < 2 ^ 31) : jmin (nI a) (nI b) = nI a := by
  unfold jmin
  exact if_neg (Int32.not_lt.mpr (nI_le h hb))
theorem fit_ch {c : Int32} (h : zCh c) : fits .byte (.int c) = true := by
  obtain ⟨m, hm, rfl⟩ := h
  exact (show ∀ m : Fin 128, fits .byte (.int (nI m.val)) = true by decide +kernel) ⟨m, hm⟩
theorem sub_pos {a b : Nat} (h : b < a) (ha : a < 2 ^ 31) : ¬ nI a - nI b ≤ 0 := by
  rw [nI_sub (by omega)]
  exact Int32.not_le.mpr (by rw [← nI_0]; exact nI_lt (by omega) (by omega))
theorem sub_nonpos {a b : Nat} (h : a ≤ b) (hb : b < 2 ^ 31) : nI a - nI b ≤ 0 := by
  rw [Int32.le_iff_toInt_le, Int32.toInt_sub, nI_toInt (show a < 2 ^ 31 by omega), nI_toInt hb]
  rw [Int.bmod_eq_of_le (by omega) (by omega)]
  show _ ≤ (0 : Int)
  omega
set_option maxHeartbeats 4000000 in
set_option maxRecDepth 20000 in
theorem c_J5_isLatin1_aae02 {E : Ev} {g : Sh} {i : Ni} {j : Nj} {K : Kp} {r : Nat} {L : List Int32} (hB : zBu g i r L) (hK : K (.inl (some (.int (nI 1)))) g i j) : zCon E mJ5_isLatin1_aae02 [.ref r] g i j K := by
  refine zcon_of (by decide +kernel) rfl rfl (lo := [.ref r]) rfl (fun X => ?_)
  have hT := hB.1
  refine r_gcs qJ5_isLatin1_aae02_0 fA_18 ?_
  refine r_if_eq (t := 17) qJ5_isLatin1_aae02_3 (by decide) (fun hc3 => absurd hc3 (by decide)) (fun hc3 => ?_)
  refine r_aload_n qJ5_isLatin1_aae02_6 rfl ?_
  refine r_geti qJ5_isLatin1_aae02_7 fJ5_22 rfl (by assumption) ?_
  rw [hB.2.1]
  refine r_if_ne (t := 17) qJ5_isLatin1_aae02_10 (by decide) (fun hc10 => absurd hc10 (fun h => h rfl)) (fun hc10 => ?_)
  refine r_iconst (v := nI 1) qJ5_isLatin1_aae02_13 (by decide) ?_
  refine r_goto (t := 18) qJ5_isLatin1_aae02_14 (by decide) ?_
  refine r_iret qJ5_isLatin1_aae02_18 rfl (by first | decide | exact zb_nar _ | assumption) rfl rfl ?_
  exact hK
set_option maxHeartbeats 4000000 in
set_option maxRecDepth 20000 in
theorem c_J8_newLength_cabcc {E : Ev} {g : Sh} {i : Ni} {j : Nj} {K : Kp} {a b c : Nat} (h : b ≤ c) (hc : a + c < 2000) (h0 : 0 < c) (hK : K (.inl (some (.int (nI (a + c))))) g i j) : zCon E mJ8_newLength_cabcc [.int (nI a), .int (nI b), .int (nI c)] g i j K := by
  refine zcon_of (by decide +kernel) rfl rfl (lo := [.int (nI a), .int (nI b), .int (nI c), zJ]) rfl (fun X => ?_)
  refine r_iload_n qJ8_newLength_cabcc_0 rfl ?_
  refine r_iload_n qJ8_newLength_cabcc_1 rfl ?_
  refine r_iload_n qJ8_newLength_cabcc_2 rfl ?_
  refine r_mmax qJ8_newLength_cabcc_3 kJ8_194 rfl rfl rfl rfl ?_
  rw [jmax_nI h (by omega)]
  first | with_reducible refine r_iaddN qJ8_newLength_cabcc_6 ?_ | refine r_iadd qJ8_newLength_cabcc_6 ?_
  refine r_is_4_3 qJ8_newLength_cabcc_7 rfl rfl ?_
  refine r_iconst (v := nI 0) qJ8_newLength_cabcc_8 (by decide) ?_
  refine r_iload_n qJ8_newLength_cabcc_9 rfl ?_
  refine r_icmp_ge (t := 21) qJ8_newLength_cabcc_10 (by decide) (fun hc10 => absurd hc10 (nI_ge (by omega) (by omega))) (fun hc10 => ?_)
  refine r_iload_n qJ8_newLength_cabcc_13 rfl ?_
  refine r_ldci qJ8_newLength_cabcc_14 lJ8_200 ?_
  refine r_icmp_gt (t := 21) qJ8_newLength_cabcc_16 (by decide) (fun hc16 => absurd hc16 (fun h => absurd h (by rw [show (2147483639 : Int32) = nI 2147483639 by decide]; exact Int32.not_lt.mpr (nI_le (by omega) (by decide))))) (fun hc16 => ?_)
  refine r_iload_n qJ8_newLength_cabcc_19 rfl ?_
  refine r_iret qJ8_newLength_cabcc_20 rfl rfl rfl rfl ?_
  exact hK
set_option maxHeartbeats 4000000 in
set_option maxRecDepth 20000 in
theorem c_J5_newCapacity_0f7a4 {E : Ev} {g : Sh} {i : Ni} {j : Nj} {K : Kp} {r m c : Nat} {L : List Int32} (hB : zBu g i r L) (hc : gL g (gR g r 0) = c) (hm : c < m) (hm2 : m ≤ c + 12) (hK : K (.inl (some (.int (nI (c + (c + 2)))))) g i j) : zCon E mJ5_newCapacity_0f7a4 [.ref r, .int (nI m)] g i j K := by
  refine zcon_of (by decide +kernel) rfl rfl (lo := [.ref r, .int (nI m), zJ, zJ, zJ, zJ]) rfl (fun X => ?_)
  have hT := hB.1
  have hv := hB.2.2.2.1
  have hc9 : 16 ≤ c ∧ c ≤ 700 := by have := hB.2.2.2.2.1; omega
  refine r_aload_n qJ5_newCapacity_0f7a4_0 rfl ?_
  refine r_getr qJ5_newCapacity_0f7a4_1 fJ5_15 rfl (by assumption) (by first | assumption | rfl) ?_
  refine r_alen qJ5_newCapacity_0f7a4_4 ⟨1, by decide, hv⟩ ?_
  rw [hc]
  refine r_is_6_2 qJ5_newCapacity_0f7a4_5 rfl rfl ?_
  refine r_iload_n qJ5_newCapacity_0f7a4_6 rfl ?_
  refine r_aload_n qJ5_newCapacity_0f7a4_7 rfl ?_
  refine r_geti qJ5_newCapacity_0f7a4_8 fJ5_22 rfl (by assumption) ?_
  rw [hB.2.1]
  refine r_ishl qJ5_newCapacity_0f7a4_11 ?_
  rw [shl_0]
  refine r_is_6_3 qJ5_newCapacity_0f7a4_12 rfl rfl ?_
  refine r_iload_n qJ5_newCapacity_0f7a4_13 rfl ?_
  refine r_iload_n qJ5_newCapacity_0f7a4_14 rfl ?_
  refine r_isub qJ5_newCapacity_0f7a4_15 ?_
  rw [nI_sub (by omega)]
  refine r_is_6_4 qJ5_newCapacity_0f7a4_16 rfl rfl ?_
  refine r_iload_n qJ5_newCapacity_0f7a4_18 rfl ?_
  refine r_iload qJ5_newCapacity_0f7a4_19 rfl ?_
  refine r_iload_n qJ5_newCapacity_0f7a4_21 rfl ?_
  refine r_iconst (v := nI 2) qJ5_newCapacity_0f7a4_22 (by decide) ?_
  refine r_aload_n qJ5_newCapacity_0f7a4_23 rfl ?_
  refine r_geti qJ5_newCapacity_0f7a4_24 fJ5_22 rfl (by assumption) ?_
  rw [hB.2.1]
  refine r_ishl qJ5_newCapacity_0f7a4_27 ?_
  rw [shl_0]
  first | with_reducible refine r_iaddN qJ5_newCapacity_0f7a4_28 ?_ | refine r_iadd qJ5_newCapacity_0f7a4_28 ?_
  refine r_cs3 (cu2 := 0) (su2 := 0) qJ5_newCapacity_0f7a4_29 kJ5_114 rfl (by decide +kernel) rfl rfl rfl rfl rfl ?_
  refine c_J8_newLength_cabcc (by omega) (by omega) (by omega) ?_
  show zR E _ _ X 32 _ _ _ _ _ _ _
  refine r_is_6_5 qJ5_newCapacity_0f7a4_32 rfl rfl ?_
  refine r_iload qJ5_newCapacity_0f7a4_34 rfl ?_
  refine r_ldci qJ5_newCapacity_0f7a4_36 lJ5_39 ?_
  refine r_icmp_ne (t := 51) qJ5_newCapacity_0f7a4_38 (by decide) (fun hc38 => ?_) (fun hc38 => absurd hc38 (fun h => absurd (nI_eq2 (by omega) (by decide) (h.trans (show (2147483647 : Int32) = nI 2147483647 by decide))) (by omega)))
  refine r_iload qJ5_newCapacity_0f7a4_51 rfl ?_
  refine r_aload_n qJ5_newCapacity_0f7a4_53 rfl ?_
  refine r_geti qJ5_newCapacity_0f7a4_54 fJ5_22 rfl (by assumption) ?_
  rw [hB.2.1]
  refine r_ishr qJ5_newCapacity_0f7a4_57 ?_
  rw [sh_0]
  refine r_iret qJ5_newCapacity_0f7a4_58 rfl rfl rfl rfl ?_
  exact hK
theorem wAR {g : Sh} {r k v q : Nat} : gR (wR g r k v) q k = if q = r then v else gR g q k := by
  rw [gR_wR]; by_cases h : q = r <;> simp [h]
set_option maxHeartbeats 4000000 in
set_option maxRecDepth 20000 in
theorem c_copyOf {E : Ev} {g : Sh} {i : Ni} {j : Nj} {K : Kp} {r c M : Nat} (h1 : gT g r = 12) (h2 : gL g r = c) (hc : c < M) (hM : M ≤ 700) (hch : ∀ k, k < c → zCh (i r k)) (hK : ∀ q : Nat, q ≠ 0 → gT g q = 0 → K (.inl (some (.ref q))) (wN g q 12 M) (wA (wA i q (fun _ => 0)) q (va_cpy (i r) (fun _ => 0) 0 0 c)) (wB j q (fun _ => 0))) : zCon E mJ7_copyOf_9075b [.ref r, .int (nI M)] g i j K := by
  refine zcon_of (by decide +kernel) rfl rfl (lo := [.ref r, .int (nI M), zJ]) rfl (fun X => ?_)
  refine r_iload_n qJ7_copyOf_9075b_0 rfl ?_
  refine r_aload_n qJ7_copyOf_9075b_1 rfl ?_
  refine r_alen qJ7_copyOf_9075b_2 ⟨1, by decide, h1⟩ ?_
  rw [h2]
  refine r_icmp_ne (t := 14) qJ7_copyOf_9075b_3 (by decide) (fun hc3 => ?_) (fun hc3 => absurd hc3 (fun h => absurd (nI_eq2 (by omega) (by omega) h) (by omega)))
  refine r_iload_n qJ7_copyOf_9075b_14 rfl ?_
  refine r_newa (N := M) qJ7_copyOf_9075b_15 rfl (by decide) na_1 (not_neg (by omega)) (nI_clamp (by omega)) (Nat.ble_eq.mpr (by omega)) rfl (lbx (m := 720) rfl (by omega)) (fun q q0 qf => r_widen (cu2 := 1) (su2 := 720) (by omega) (by omega) ?_)
  have hq : r ≠ q := fun e => by rw [e, qf] at h1; exact absurd h1 (by decide)
  have h9 : gT (wN g q 12 M) r = 12 := by rw [gT_wN, if_neg hq]; exact h1
  refine r_as_3_2 qJ7_copyOf_9075b_17 rfl rfl ?_
  refine r_aload_n qJ7_copyOf_9075b_18 rfl ?_
  refine r_iconst (v := nI 0) qJ7_copyOf_9075b_19 (by decide) ?_
  refine r_aload_n qJ7_copyOf_9075b_20 rfl ?_
  refine r_iconst (v := nI 0) qJ7_copyOf_9075b_21 (by decide) ?_
  refine r_aload_n qJ7_copyOf_9075b_22 rfl ?_
  refine r_alen qJ7_copyOf_9075b_23 ⟨1, by decide, h9⟩ ?_
  rw [gL_wN, if_neg hq, h2]
  refine r_iload_n qJ7_copyOf_9075b_24 rfl ?_
  refine r_mmin qJ7_copyOf_9075b_25 kJ7_304 rfl rfl rfl rfl ?_
  rw [jmin_nI (by omega) (by omega)]
  refine r_copyi (t := 1) qJ7_copyOf_9075b_28 kJ7_150 (Or.inr rfl) h9 (by rw [gT_wN, if_pos rfl]) (by decide) (by decide) (not_neg (by omega)) (by rw [gL_wN, if_neg hq, h2, nI_clamp (by omega), nI_clamp (by omega)]; omega) (by rw [gL_wN, if_pos rfl, nI_clamp (by omega), nI_clamp (by omega)]; omega) (Or.inr (fun k hk => ?_)) rfl rfl ?_
  · rw [nI_clamp (by omega)] at hk
    rw [show (nI 0).toNatClampNeg = 0 by decide, Nat.zero_add, wA_n hq]
    exact fit_ch (hch k hk)
  rw [nI_clamp (by omega), nI_clamp (by omega), wA_n hq, wA_s]
  refine r_aload_n qJ7_copyOf_9075b_31 rfl ?_
  refine r_aret qJ7_copyOf_9075b_32 rfl rfl rfl rfl ?_
  exact hK q q0 qf
theorem zBu.grow {g : Sh} {i : Ni} {j : Nj} {r q N c : Nat} {L : List Int32} (hB : zBu g i r L) (hN : 16 ≤ N ∧ N ≤ 700) (hc : gL g (gR g r 0) = c) (hcN : c < N) (qf : gT g q = 0) :
    zBu (wR (wN g q 12 N) r 0 q) (wA (wA i q (fun _ => 0)) q (va_cpy (i (gR g r 0)) (fun _ => 0) 0 0 c)) r L ∧ gL (wR (wN g q 12 N) r 0 q) (gR (wR (wN g q 12 N) r 0 q) r 0) = N ∧ zBf r g i j (wR (wN g q 12 N) r 0 q) (wA (wA i q (fun _ => 0)) q (va_cpy (i (gR g r 0)) (fun _ => 0) 0 0 c)) (wB j q (fun _ => 0)) := by
  obtain ⟨h1, h2, h3, h4, h5, h6, h7, h8⟩ := hB
  have hq : r ≠ q := fun e => by rw [e, qf] at h1; exact absurd h1 (by decide)
  have e0 : gR (wR (wN g q 12 N) r 0 q) r 0 = q := by rw [wAR, if_pos rfl]
  refine ⟨⟨by rw [gT_wR, gT_wN, if_neg hq]; exact h1, by rw [wA_n hq, wA_n hq]; exact h2, by rw [wA_n hq, wA_n hq]; exact h3, by rw [e0, gT_wR, gT_wN, if_pos rfl], by rw [e0, gL_wR, gL_wN, if_pos rfl]; omega, by rw [e0, gL_wR, gL_wN, if_pos rfl]; omega, fun k hk => ?_, fun k hk => ?_⟩, by rw [e0, gL_wR, gL_wN, if_pos rfl], Or.inr (by rw [e0]; exact qf), fun p hp => ?_⟩
  · rw [e0, wA_s, va_cpy, if_pos ⟨Nat.zero_le _, by omega⟩, ← h7 k hk]
    simp
  · rw [e0, wA_s, va_cpy]
    split
    · rw [Nat.zero_add, Nat.sub_zero]; exact h8 k (by omega)
    · exact ⟨0, by decide, rfl⟩
  · have hpq : p ≠ q := fun e => hp (by rw [e]; exact qf)
    refine ⟨by rw [gT_wR, gT_wN, if_neg hpq], by rw [gL_wR, gL_wN, if_neg hpq], wB_n hpq, fun hpr => ⟨fun k => by rw [gR_wR, if_neg hpr, gR_wN, if_neg hpq], fun _ => by rw [wA_n hpq, wA_n hpq]⟩⟩
set_option maxHeartbeats 4000000 in
set_option maxRecDepth 20000 in
theorem c_J5_ensureCapacityInternal_d00df {E : Ev} {g : Sh} {i : Ni} {j : Nj} {K : Kp} {r m : Nat} {L : List Int32} (hB : zBu g i r L) (hm : m ≤ gL g (gR g r 0) + 12) (hm2 : m ≤ 349) (hK : ∀ (g' : Sh) (i' : Ni) (j' : Nj), zBu g' i' r L → m ≤ gL g' (gR g' r 0) → zBf r g i j g' i' j' → K (.inl none) g' i' j') : zCon E mJ5_ensureCapacityInternal_d00df [.ref r, .int (nI m)] g i j K := by
  refine zcon_of (by decide +kernel) rfl rfl (lo := [.ref r, .int (nI m), zJ]) rfl (fun X => ?_)
  obtain ⟨h1, h2, h3, h4, h5, h6, h7, h8⟩ := id hB
  have hT := h1
  have hv := h4
  generalize hc : gL g (gR g r 0) = c at h5 h6 h8 hm
  by_cases hd : m ≤ c
  · skip
    refine r_aload_n qJ5_ensureCapacityInternal_d00df_0 rfl ?_
    refine r_getr qJ5_ensureCapacityInternal_d00df_1 fJ5_15 rfl (by assumption) (by first | assumption | rfl) ?_
    refine r_alen qJ5_ensureCapacityInternal_d00df_4 ⟨1, by decide, hv⟩ ?_
    rw [hc]
    refine r_aload_n qJ5_ensureCapacityInternal_d00df_5 rfl ?_
    refine r_geti qJ5_ensureCapacityInternal_d00df_6 fJ5_22 rfl (by assumption) ?_
    rw [h2]
    refine r_ishr qJ5_ensureCapacityInternal_d00df_9 ?_
    rw [sh_0]
    refine r_is_3_2 qJ5_ensureCapacityInternal_d00df_10 rfl rfl ?_
    refine r_iload_n qJ5_ensureCapacityInternal_d00df_11 rfl ?_
    refine r_iload_n qJ5_ensureCapacityInternal_d00df_12 rfl ?_
    refine r_isub qJ5_ensureCapacityInternal_d00df_13 ?_
    refine r_if_le (t := 38) qJ5_ensureCapacityInternal_d00df_14 (by decide) (fun hc14 => ?_) (fun hc14 => absurd hc14 (fun h => h (sub_nonpos hd (by omega))))
    refine r_vret qJ5_ensureCapacityInternal_d00df_38 rfl rfl rfl ?_
    exact hK g i j hB (by rw [hc]; exact hd) zBf.refl
  · skip
    refine r_aload_n qJ5_ensureCapacityInternal_d00df_0 rfl ?_
    refine r_getr qJ5_ensureCapacityInternal_d00df_1 fJ5_15 rfl (by assumption) (by first | assumption | rfl) ?_
    refine r_alen qJ5_ensureCapacityInternal_d00df_4 ⟨1, by decide, hv⟩ ?_
    rw [hc]
    refine r_aload_n qJ5_ensureCapacityInternal_d00df_5 rfl ?_
    refine r_geti qJ5_ensureCapacityInternal_d00df_6 fJ5_22 rfl (by assumption) ?_
    rw [h2]
    refine r_ishr qJ5_ensureCapacityInternal_d00df_9 ?_
    rw [sh_0]
    refine r_is_3_2 qJ5_ensureCapacityInternal_d00df_10 rfl rfl ?_
    refine r_iload_n qJ5_ensureCapacityInternal_d00df_11 rfl ?_
    refine r_iload_n qJ5_ensureCapacityInternal_d00df_12 rfl ?_
    refine r_isub qJ5_ensureCapacityInternal_d00df_13 ?_
    refine r_if_le (t := 38) qJ5_ensureCapacityInternal_d00df_14 (by decide) (fun hc14 => absurd hc14 (sub_pos (by omega) (by omega))) (fun hc14 => ?_)
    refine r_aload_n qJ5_ensureCapacityInternal_d00df_17 rfl ?_
    refine r_aload_n qJ5_ensureCapacityInternal_d00df_18 rfl ?_
    refine r_getr qJ5_ensureCapacityInternal_d00df_19 fJ5_15 rfl (by assumption) (by first | assumption | rfl) ?_
    refine r_aload_n qJ5_ensureCapacityInternal_d00df_22 rfl ?_
    refine r_iload_n qJ5_ensureCapacityInternal_d00df_23 rfl ?_
    refine r_cvB (as := [.int (nI m)]) qJ5_ensureCapacityInternal_d00df_24 bJ5_104 iJ5_newCapacity_0f7a4 sJ5_newCapacity_0f7a4 rfl rfl rfl (by decide +kernel) hT (by decide) rfl rfl rfl rfl rfl ?_
    refine c_J5_newCapacity_0f7a4 hB hc (by omega) hm ?_
    show zR E _ _ X 27 _ _ _ _ _ _ _
    refine r_aload_n qJ5_ensureCapacityInternal_d00df_27 rfl ?_
    refine r_geti qJ5_ensureCapacityInternal_d00df_28 fJ5_22 rfl (by assumption) ?_
    rw [h2]
    refine r_ishl qJ5_ensureCapacityInternal_d00df_31 ?_
    rw [shl_0]
    refine r_cs2 (cu2 := 1) (su2 := 720) qJ5_ensureCapacityInternal_d00df_32 kJ5_108 rfl (by decide +kernel) rfl rfl rfl rfl rfl ?_
    refine c_copyOf hv hc (by omega) (by omega) h8 (fun q q0 qf => ?_)
    show zR E _ _ X 35 _ _ _ _ _ _ _
    obtain ⟨G1, G2, G3⟩ := zBu.grow (q := q) (j := j) (N := c + (c + 2)) hB ⟨by omega, by omega⟩ hc (by omega) qf
    have hT2 : gT (wN g q 12 (c + (c + 2))) r = 6 := by rw [← gT_wR (k := 0) (v := q) (r := r)]; exact G1.1
    refine r_putr qJ5_ensureCapacityInternal_d00df_35 fJ5_15 (Or.inl rfl) rfl (by assumption) ?_
    refine r_vret qJ5_ensureCapacityInternal_d00df_38 rfl rfl rfl ?_
    exact hK _ _ _ G1 (by rw [G2]; omega) G3
theorem zBu.put {g : Sh} {i i2 : Ni} {j : Nj} {r : Nat} {L M : List Int32} (hB : zBu g i r L) (hl : L.length + M.length ≤ gL g (gR g r 0)) (hM : ∀ c ∈ M, zCh c) (e1 : i2 r 1 = nI 0) (e3 : i2 r 3 = nI (L.length + M.length)) (f0 : ∀ k, k < L.length → i2 (gR g r 0) k = i (gR g r 0) k) (f1 : ∀ k, k < M.length → i2 (gR g r 0) (L.length + k) = M.getD k 0) (f2 : ∀ k, L.length + M.length ≤ k → i2 (gR g r 0) k = i (gR g r 0) k) (ho : ∀ q, q ≠ r → q ≠ gR g r 0 → i2 q = i q) :
    zBu g i2 r (L ++ M) ∧ zBf r g i j g i2 j := by
  obtain ⟨h1, h2, h3, h4, h5, h6, h7, h8⟩ := hB
  refine ⟨⟨h1, e1, by rw [List.length_append]; exact e3, h4, h5, by rw [List.length_append]; exact hl, fun k hk => ?_, fun k hk => ?_⟩, Or.inl rfl, fun q hq => ⟨rfl, rfl, rfl, fun hr => ⟨fun _ => rfl, fun hv => ho q hr hv⟩⟩⟩
  · rw [List.length_append] at hk
    rw [List.getD_eq_getElem?_getD, List.getElem?_append]
    by_cases hk2 : k < L.length
    · rw [if_pos hk2, ← List.getD_eq_getElem?_getD, f0 k hk2, h7 k hk2]
    · rw [if_neg hk2, ← List.getD_eq_getElem?_getD, ← f1 (k - L.length) (by omega)]
      congr 1
      omega
  · by_cases hk2 : k < L.length
    · rw [f0 k hk2]; exact h8 k hk
    · by_cases hk3 : k < L.length + M.length
      · have := f1 (k - L.length) (by omega)
        rw [show L.length + (k - L.length) = k by omega] at this
        rw [this, List.getD_eq_getElem?_getD, List.getElem?_eq_getElem (by omega)]
        exact hM _ (List.getElem_mem _)
      · rw [f2 k (by omega)]; exact h8 k hk
/-- a number as it is printed -/
def sNum (v : Int32) : List Int32 := (if v < 0 then [nI 45] else []) ++ dig v.toInt.natAbs
theorem dig_ch (w : Nat) : ∀ c ∈ dig w, zCh c := by
  intro c hc
  obtain ⟨k, hk, rfl⟩ := List.mem_iff_getElem.mp hc
  have h2 : k < ndg w := by rw [dig, dgs_len] at hk; exact hk
  have := dgs_at w (ndg w) k h2
  rw [List.getD_eq_getElem?_getD, ← dig, List.getElem?_eq_getElem hk] at this
  exact ⟨_, by omega, this⟩
theorem sNum_nn {w : Nat} (h : w < 2 ^ 31) : sNum (nI w) = dig w := by
  rw [sNum, if_neg (not_neg h), nI_toInt h]; rfl
theorem int_or {v : Int32} (h : zIn v (-2000000) 2000000) : ∃ (m : Bool) (w : Nat), w ≤ 2000000 ∧ v = (if m then -nI w else nI w) ∧ (m = true → 0 < w) ∧ sNum v = (if m then [nI 45] else []) ++ dig w := by
  by_cases h0 : v < 0
  · have h1 : v.toInt < 0 := Int32.lt_iff_toInt_lt.mp h0
    refine ⟨true, v.toInt.natAbs, by have := h.1; omega, ?_, fun _ => by omega, by rw [sNum, if_pos h0]; rfl⟩
    refine Int32.toInt_inj.mp ?_
    show _ = (-nI _).toInt
    have := h.1
    rw [nn_toInt (by omega)]
    omega
  · have h1 : 0 ≤ v.toInt := by
      have := mt Int32.lt_iff_toInt_lt.mpr h0
      have e : (0 : Int32).toInt = 0 := rfl
      omega
    refine ⟨false, v.toInt.natAbs, by have := h.2; omega, ?_, fun h => Bool.noConfusion h, by rw [sNum, if_neg h0]; rfl⟩
    refine Int32.toInt_inj.mp ?_
    show _ = (nI _).toInt
    have := h.2
    rw [nI_toInt (by omega)]
    omega
set_option maxHeartbeats 4000000 in
set_option maxRecDepth 20000 in
theorem c_J5_append_c97b9 {E : Ev} {g : Sh} {i : Ni} {j : Nj} {K : Kp} {r : Nat} {v : Int32} {L : List Int32} (hB : zBu g i r L) (hv : zIn v (-2000000) 2000000) (hl : L.length + 11 ≤ 349) (hK : ∀ (g' : Sh) (i' : Ni) (j' : Nj), zBu g' i' r (L ++ sNum v) → zBf r g i j g' i' j' → K (.inl (some (.ref r))) g' i' j') : zConI E mJ5_append_c97b9 [.ref r, .int v] g i j K := by
  refine zconI_of (by decide +kernel) rfl rfl (lo := [.ref r, .int v, zJ, zJ]) rfl (fun X => ?_)
  have hT := hB.1
  have h6 := hB.2.2.2.2.2.1
  obtain ⟨m, w, hw, hvw, hm0, hsn⟩ := int_or hv
  have hnd : ndg w ≤ 10 := ndg_le w
  generalize hc : (if m then 1 else 0 : Nat) = c at *
  have hc1 : c ≤ 1 := by cases m <;> simp at hc <;> omega
  have hlen : ndg w + c = (sNum v).length := by rw [hsn, List.length_append, dig, dgs_len, ← hc]; cases m <;> simp <;> omega
  have K17 : ∀ (g' : Sh) (i' : Ni) (j' : Nj), zBu g' i' r L → L.length + (ndg w + c) ≤ gL g' (gR g' r 0) → zBf r g i j g' i' j' → zR E mJ5_append_c97b9 (zZI E mJ5_append_c97b9 K) X 17 [.ref r, .int v, .int (nI L.length), .int (nI (L.length + (ndg w + c)))] [] g' i' j' 1 720 := by
    intro g' i' j' hB' hl' hF
    obtain ⟨h1, h2, h3, h4, h5, h6, h7, h8⟩ := id hB'
    have hne := hB'.ne
    have hcc : gL g' (gR g' r 0) ≤ 700 := by omega
    refine r_aload_n qJ5_append_c97b9_17 rfl ?_
    refine r_cvB (as := []) qJ5_append_c97b9_18 bJ5_83 iJ5_isLatin1_aae02 sJ5_isLatin1_aae02 rfl rfl rfl (by decide +kernel) h1 (by decide) rfl rfl rfl rfl rfl ?_
    refine c_J5_isLatin1_aae02 hB' ?_
    show zR E _ _ X 21 _ _ _ _ _ _ _
    refine r_if_eq (t := 37) qJ5_append_c97b9_21 (by decide) (fun hc21 => absurd hc21 (by decide)) (fun hc21 => ?_)
    refine r_iload_n qJ5_append_c97b9_24 rfl ?_
    refine r_iload_n qJ5_append_c97b9_25 rfl ?_
    refine r_aload_n qJ5_append_c97b9_26 rfl ?_
    refine r_getr qJ5_append_c97b9_27 fJ5_15 rfl (by assumption) (by first | assumption | rfl) ?_
    rw [show L.length + (ndg w + c) = L.length + c + ndg w by omega, ← hc]
    refine r_cs3 (cu2 := 1) (su2 := 720) qJ5_append_c97b9_30 kJ5_248 rfl (by decide +kernel) rfl rfl rfl rfl rfl ?_
    refine c_J6_getChars_ba4f3 (by omega) hvw hm0 h4 rfl (by rw [hc]; omega) (Nat.ble_eq.mpr (by omega)) (fun f q1 q2 q3 q4 => ?_)
    rw [hc] at q2 q4 ⊢
    show zR E _ _ X 33 _ _ _ _ _ _ _
    refine r_pop qJ5_append_c97b9_33 rfl ?_
    refine r_goto (t := 48) qJ5_append_c97b9_34 (by decide) ?_
    refine r_aload_n qJ5_append_c97b9_48 rfl ?_
    refine r_iload_n qJ5_append_c97b9_49 rfl ?_
    refine r_puti qJ5_append_c97b9_50 fJ5_79 (Or.inl rfl) rfl rfl rfl (by assumption) ?_
    refine r_aload_n qJ5_append_c97b9_53 rfl ?_
    refine r_aretI qJ5_append_c97b9_54 rfl rfl rfl rfl ?_
    rw [wA_n (Ne.symm hne)]
    have F1 : ∀ k, k < (sNum v).length → f (L.length + k) = (sNum v).getD k 0 := by
      intro k hk
      rw [← hlen] at hk
      rw [hsn]
      cases m with
      | true =>
        have hc3 : c = 1 := hc.symm
        subst hc3
        cases k with
        | zero => exact q3 rfl
        | succ k => rw [show L.length + (k + 1) = L.length + 1 + k by omega]; exact q2 k (by omega)
      | false =>
        have hc3 : c = 0 := hc.symm
        subst hc3
        exact q2 k (by omega)
    have F2 : ∀ c ∈ sNum v, zCh c := by
      intro c9 h9
      rw [hsn] at h9
      rcases List.mem_append.mp h9 with h9 | h9
      · cases m with
        | true => exact ⟨45, by decide, List.mem_singleton.mp h9⟩
        | false => exact absurd h9 List.not_mem_nil
      · exact dig_ch w c9 h9
    obtain ⟨P1, P2⟩ := zBu.put (i2 := wA (wA i' (gR g' r 0) f) r (upd (i' r) 3 (nI (L.length + c + ndg w)))) (j := j') (M := sNum v) hB' (by rw [← hlen]; exact hl') F2 (by rw [wA_s, pk_un (by decide)]; exact h2) (by rw [wA_s, pk_us, ← hlen]; congr 1; omega) (fun k hk => by rw [wA_n hne, wA_s]; exact q1 k hk) (fun k hk => by rw [wA_n hne, wA_s]; exact F1 k hk) (fun k hk => by rw [wA_n hne, wA_s]; exact q4 k (by rw [← hlen] at hk; omega)) (fun q h1 h2 => by rw [wA_n h1, wA_n h2])
    exact hK _ _ _ P1 (hF.trans P2)
  refine r_aload_n qJ5_append_c97b9_0 rfl ?_
  refine r_geti qJ5_append_c97b9_1 fJ5_79 rfl (by assumption) ?_
  rw [hB.2.2.1]
  refine r_is_4_2 qJ5_append_c97b9_4 rfl rfl ?_
  refine r_iload_n qJ5_append_c97b9_5 rfl ?_
  refine r_iload_n qJ5_append_c97b9_6 rfl ?_
  refine r_cs1 (cu2 := 0) (su2 := 0) qJ5_append_c97b9_7 kJ5_245 rfl (by decide +kernel) rfl rfl rfl rfl rfl ?_
  refine c_J6_stringSize_0f7a4 (by omega) hvw hm0 ?_
  show zR E _ _ X 10 _ _ _ _ _ _ _
  rw [hc]
  first | with_reducible refine r_iaddN qJ5_append_c97b9_10 ?_ | refine r_iadd qJ5_append_c97b9_10 ?_
  refine r_is_4_3 qJ5_append_c97b9_11 rfl rfl ?_
  refine r_aload_n qJ5_append_c97b9_12 rfl ?_
  refine r_iload_n qJ5_append_c97b9_13 rfl ?_
  refine r_cvB (as := [.int (nI (L.length + (ndg w + c)))]) qJ5_append_c97b9_14 bJ5_100 iJ5_ensureCapacityInternal_d00df sJ5_ensureCapacityInternal_d00df rfl rfl rfl (by decide +kernel) hT (by decide) rfl rfl rfl rfl rfl ?_
  exact c_J5_ensureCapacityInternal_d00df hB (by omega) (by omega) K17
set_option maxHeartbeats 4000000 in
set_option maxRecDepth 20000 in
theorem c_J5_length_8abf5 {E : Ev} {g : Sh} {i : Ni} {j : Nj} {K : Kp} {r : Nat} {L : List Int32} (hB : zBu g i r L) (hK : K (.inl (some (.int (nI L.length)))) g i j) : zConI E mJ5_length_8abf5 [.ref r] g i j K := by
  refine zconI_of (by decide +kernel) rfl rfl (lo := [.ref r]) rfl (fun X => ?_)
  have hT := hB.1
  refine r_aload_n qJ5_length_8abf5_0 rfl ?_
  refine r_geti qJ5_length_8abf5_1 fJ5_79 rfl (by assumption) ?_
  rw [hB.2.2.1]
  refine r_iretI qJ5_length_8abf5_4 rfl rfl rfl rfl ?_
  exact hK
set_option maxHeartbeats 4000000 in
set_option maxRecDepth 20000 in
theorem c_J5_init_d00df {E : Ev} {g : Sh} {i : Ni} {j : Nj} {K : Kp} {r : Nat} (hr0 : r ≠ 0) (hT : gT g r = 6) (h0 : ∀ k, i r k = 0) (hK : ∀ q : Nat, zBu (wR (wN g q 12 16) r 0 q) (wA (wA i q (fun _ => 0)) r (upd (i r) 1 (nI 0))) r [] → zBf r g i j (wR (wN g q 12 16) r 0 q) (wA (wA i q (fun _ => 0)) r (upd (i r) 1 (nI 0))) (wB j q (fun _ => 0)) → K (.inl none) (wR (wN g q 12 16) r 0 q) (wA (wA i q (fun _ => 0)) r (upd (i r) 1 (nI 0))) (wB j q (fun _ => 0))) : zConI E mJ5_init_d00df [.ref r, .int (nI 16)] g i j K := by
  refine zconI_of (by decide +kernel) rfl rfl (lo := [.ref r, .int (nI 16)]) rfl (fun X => ?_)
  refine r_aload_n qJ5_init_d00df_0 rfl ?_
  refine r_objinit qJ5_init_d00df_1 kJ5_3 (by assumption) rfl rfl ?_
  refine r_gcs qJ5_init_d00df_4 fA_18 ?_
  refine r_if_eq (t := 25) qJ5_init_d00df_7 (by decide) (fun hc7 => absurd hc7 (by decide)) (fun hc7 => ?_)
  refine r_aload_n qJ5_init_d00df_10 rfl ?_
  refine r_iload_n qJ5_init_d00df_11 rfl ?_
  refine r_newa (N := 16) qJ5_init_d00df_12 rfl (by decide) na_1 (by decide) (by decide) rfl rfl rfl (fun q q0 qf => ?_)
  have hq : r ≠ q := fun e => by rw [e, qf] at hT; exact absurd hT (by decide)
  have hT2 : gT (wN g q 12 16) r = 6 := by rw [gT_wN, if_neg hq]; exact hT
  have hT3 : gT (wR (wN g q 12 16) r 0 q) r = 6 := hT2
  refine r_putr qJ5_init_d00df_14 fJ5_15 (Or.inl rfl) rfl (by assumption) ?_
  refine r_aload_n qJ5_init_d00df_17 rfl ?_
  refine r_iconst (v := nI 0) qJ5_init_d00df_18 (by decide) ?_
  refine r_puti qJ5_init_d00df_19 fJ5_22 (Or.inl rfl) rfl (by first | rfl | decide | assumption) (by first | rfl | decide | assumption) (by assumption) ?_
  rw [wA_n hq]
  refine r_goto (t := 38) qJ5_init_d00df_22 (by decide) ?_
  refine r_vretI qJ5_init_d00df_38 rfl rfl rfl ?_
  have e0 : gR (wR (wN g q 12 16) r 0 q) r 0 = q := by rw [wAR, if_pos rfl]
  exact hK q ⟨hT3, by rw [wA_s, pk_us], by rw [wA_s, pk_un (by decide), h0]; rfl, by rw [e0, gT_wR, gT_wN, if_pos rfl], by rw [e0, gL_wR, gL_wN, if_pos rfl]; decide, Nat.zero_le _, fun k hk => absurd hk (Nat.not_lt_zero k), fun k hk => ⟨0, by decide, by rw [e0, wA_n (Ne.symm hq), wA_s]; rfl⟩⟩ ⟨Or.inr (by rw [e0]; exact qf), fun p hp => by
    have hpq : p ≠ q := fun e => hp (by rw [e]; exact qf)
    exact ⟨by rw [gT_wR, gT_wN, if_neg hpq], by rw [gL_wR, gL_wN, if_neg hpq], wB_n hpq, fun hpr => ⟨fun k => by rw [gR_wR, if_neg hpr, gR_wN, if_neg hpq], fun _ => by rw [wA_n hpr, wA_n hpq]⟩⟩⟩
set_option maxHeartbeats 4000000 in
set_option maxRecDepth 20000 in
theorem c_J4_init_da8c8 {E : Ev} {g : Sh} {i : Ni} {j : Nj} {K : Kp} {r : Nat} (hr0 : r ≠ 0) (hT : gT g r = 6) (h0 : ∀ k, i r k = 0) (hK : ∀ q : Nat, zBu (wR (wN g q 12 16) r 0 q) (wA (wA i q (fun _ => 0)) r (upd (i r) 1 (nI 0))) r [] → zBf r g i j (wR (wN g q 12 16) r 0 q) (wA (wA i q (fun _ => 0)) r (upd (i r) 1 (nI 0))) (wB j q (fun _ => 0)) → K (.inl none) (wR (wN g q 12 16) r 0 q) (wA (wA i q (fun _ => 0)) r (upd (i r) 1 (nI 0))) (wB j q (fun _ => 0))) : zConI E mJ4_init_da8c8 [.ref r] g i j K := by
  refine zconI_of (by decide +kernel) rfl rfl (lo := [.ref r]) rfl (fun X => ?_)
  refine r_aload_n qJ4_init_da8c8_0 rfl ?_
  refine r_bipush (v := nI 16) qJ4_init_da8c8_1 (by decide) ?_
  refine r_ci1 (cu2 := 1) (su2 := 16) qJ4_init_da8c8_3 kJ4_1 rfl (by decide +kernel) (by assumption) rfl rfl rfl rfl rfl ?_
  refine c_J5_init_d00df hr0 hT h0 (fun q q1 q2 => ?_)
  have hKq := hK q q1 q2
  show zR E _ _ X 6 _ _ _ _ _ _ _
  refine r_vretI qJ4_init_da8c8_6 rfl rfl rfl ?_
  exact hKq
set_option maxHeartbeats 4000000 in
set_option maxRecDepth 20000 in
theorem c_J4_append_bf812 {E : Ev} {g : Sh} {i : Ni} {j : Nj} {K : Kp} {r : Nat} {v : Int32} {L : List Int32} (hB : zBu g i r L) (hv : zIn v (-2000000) 2000000) (hl : L.length + 11 ≤ 349) (hK : ∀ (g' : Sh) (i' : Ni) (j' : Nj), zBu g' i' r (L ++ sNum v) → zBf r g i j g' i' j' → K (.inl (some (.ref r))) g' i' j') : zCon E mJ4_append_bf812 [.ref r, .int v] g i j K := by
  refine zcon_of (by decide +kernel) rfl rfl (lo := [.ref r, .int v]) rfl (fun X => ?_)
  have hT := hB.1
  refine r_aload_n qJ4_append_bf812_0 rfl ?_
  refine r_iload_n qJ4_append_bf812_1 rfl ?_
  refine r_sup (as := [.int v]) qJ4_append_bf812_2 uJ4_53 rfl rfl rfl (by decide +kernel) hT (by decide) rfl rfl rfl rfl rfl ?_
  refine c_J5_append_c97b9 hB hv hl (fun g' i' j' q1 q2 => ?_)
  show zR E _ _ X 5 _ _ _ _ _ _ _
  refine r_pop qJ4_append_bf812_5 rfl ?_
  refine r_aload_n qJ4_append_bf812_6 rfl ?_
  refine r_aret qJ4_append_bf812_7 rfl rfl rfl rfl ?_
  exact hK _ _ _ q1 q2
set_option maxHeartbeats 4000000 in
set_option maxRecDepth 20000 in
theorem c_J4_length_8abf5 {E : Ev} {g : Sh} {i : Ni} {j : Nj} {K : Kp} {r : Nat} {L : List Int32} (hB : zBu g i r L) (hK : K (.inl (some (.int (nI L.length)))) g i j) : zConI E mJ4_length_8abf5 [.ref r] g i j K := by
  refine zconI_of (by decide +kernel) rfl rfl (lo := [.ref r]) rfl (fun X => ?_)
  have hT := hB.1
  refine r_aload_n qJ4_length_8abf5_0 rfl ?_
  refine r_sup (as := []) qJ4_length_8abf5_1 uJ4_343 rfl rfl rfl (by decide +kernel) hT (by decide) rfl rfl rfl rfl rfl ?_
  refine c_J5_length_8abf5 hB ?_
  show zR E _ _ X 4 _ _ _ _ _ _ _
  refine r_iretI qJ4_length_8abf5_4 rfl rfl rfl rfl ?_
  exact hK

