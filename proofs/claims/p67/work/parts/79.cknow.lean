/-! ===== THE CLASS'S PARSER: NAMES ===== -/
def tName (B : Nat → Int32) (L t : Nat) : Int32 := if cKind B L t = 1 ∧ sEnd B L t - t ≤ 4 then cNam B t (sEnd B L t - t) else nI 0
set_option maxHeartbeats 4000000 in
set_option maxRecDepth 20000 in
theorem c_X1_tokenName {E : Ev} {g : Sh} {i : Ni} {j : Nj} {K : Kp} {rd tx L t : Nat} {B : Nat → Int32} (hR : zR2 g rd tx) (h : cSt i rd tx L B t) (hK : K (.inl (some (.int (tName B L t)))) g i j) : zCon E mX1_tokenName [.ref rd] g i j K := by
  refine zcon_of (by decide +kernel) rfl rfl (lo := [.ref rd, zJ, zJ]) rfl (fun X => ?_)
  obtain ⟨r1, r2, r3, r4⟩ := hR
  obtain ⟨p1, p2, p3, p4, p5, p6, p7, p8⟩ := id h
  have hk5 := cKind_lt B L t
  have hge := sEnd_ge B L t
  have hle := sEnd_le B L t p5
  have K30 : ∀ q e : Nat, e + q = sEnd B L t → t ≤ e → (K (.inl (some (.int (cNam B t (sEnd B L t - t))))) g i j) → zR E mX1_tokenName (zZ E mX1_tokenName K) X 30 [.ref rd, .int (cNam B t (e - t)), .int (nI e)] [] g i j 0 0 := by
    intro q
    induction q with
    | zero =>
      intro e he hte hK
      obtain rfl : e = sEnd B L t := by omega
      refine r_iload_n qX1_tokenName_30 rfl ?_
      refine r_aload_n qX1_tokenName_31 rfl ?_
      refine r_geti qX1_tokenName_32 fX1_48 rfl (by assumption) ?_
      rw [p7]
      refine r_icmp_ge (t := 56) qX1_tokenName_35 (by decide) (fun hc35 => ?_) (fun hc35 => absurd hc35 (fun h => h (nI_le (Nat.le_refl _) (by omega))))
      refine r_iload_n qX1_tokenName_56 rfl ?_
      refine r_iret qX1_tokenName_57 rfl rfl rfl rfl ?_
      exact hK
    | succ q ih =>
      intro e he hte hK
      refine r_iload_n qX1_tokenName_30 rfl ?_
      refine r_aload_n qX1_tokenName_31 rfl ?_
      refine r_geti qX1_tokenName_32 fX1_48 rfl (by assumption) ?_
      rw [p7]
      refine r_icmp_ge (t := 56) qX1_tokenName_35 (by decide) (fun hc35 => absurd hc35 (nI_ge (by omega) (by omega))) (fun hc35 => ?_)
      refine r_iload_n qX1_tokenName_38 rfl ?_
      refine r_bipush (v := nI 8) qX1_tokenName_39 (by decide) ?_
      refine r_ishl qX1_tokenName_41 ?_
      refine r_aload_n qX1_tokenName_42 rfl ?_
      refine r_getr qX1_tokenName_43 fX1_11 rfl (by assumption) (by first | assumption | rfl) ?_
      refine r_iload_n qX1_tokenName_46 rfl ?_
      refine r_baldN qX1_tokenName_47 (by assumption) (by assumption) (by omega) rfl ?_
      rw [p4]
      refine r_ior qX1_tokenName_48 ?_
      refine r_is_3_1 qX1_tokenName_49 rfl rfl ?_
      refine r_ii_3_2 qX1_tokenName_50 rfl rfl (nI_inc e) ?_
      refine r_goto (t := 30) qX1_tokenName_53 (by decide) ?_
      have z := ih (e + 1) (by omega) (by omega) hK
      rw [show e + 1 - t = e - t + 1 by omega, cNam, show t + (e - t) = e by omega] at z
      exact z
  refine r_aload_n qX1_tokenName_0 rfl ?_
  refine r_geti qX1_tokenName_1 fX1_57 rfl (by assumption) ?_
  rw [p8]
  refine r_iconst (v := nI 1) qX1_tokenName_4 (by decide) ?_
  refine r_icmp_ne (t := 21) qX1_tokenName_5 (by decide) (fun hc5 => ?_) (fun hc5 => ?_)
  · refine r_iconst (v := nI 0) qX1_tokenName_21 (by decide) ?_
    refine r_iret qX1_tokenName_22 rfl rfl rfl rfl ?_
    first | (rw [tName, if_neg (fun h => hc5 (congrArg nI h.1))] at hK; exact hK) | (rw [tName, if_neg (fun h => hc18 (nI_le h.2 (by decide)))] at hK; exact hK)
  · refine r_aload_n qX1_tokenName_8 rfl ?_
    refine r_geti qX1_tokenName_9 fX1_48 rfl (by assumption) ?_
    rw [p7]
    refine r_aload_n qX1_tokenName_12 rfl ?_
    refine r_geti qX1_tokenName_13 fX1_242 rfl (by assumption) ?_
    rw [p6]
    refine r_isub qX1_tokenName_16 ?_
    rw [nI_sub hge]
    refine r_iconst (v := nI 4) qX1_tokenName_17 (by decide) ?_
    refine r_icmp_le (t := 23) qX1_tokenName_18 (by decide) (fun hc18 => ?_) (fun hc18 => ?_)
    · refine r_iconst (v := nI 0) qX1_tokenName_23 (by decide) ?_
      refine r_is_3_1 qX1_tokenName_24 rfl rfl ?_
      refine r_aload_n qX1_tokenName_25 rfl ?_
      refine r_geti qX1_tokenName_26 fX1_242 rfl (by assumption) ?_
      rw [p6]
      refine r_is_3_2 qX1_tokenName_29 rfl rfl ?_
      have z := K30 (sEnd B L t - t) t (by omega) (Nat.le_refl _) (by rw [tName, if_pos ⟨(nI_eq (by omega) (by omega)).mp hc5, Nat.le_of_not_lt fun h => nI_ge h (by omega) hc18⟩] at hK; exact hK)
      rw [Nat.sub_self] at z
      exact z
    · refine r_iconst (v := nI 0) qX1_tokenName_21 (by decide) ?_
      refine r_iret qX1_tokenName_22 rfl rfl rfl rfl ?_
      first | (rw [tName, if_neg (fun h => hc5 (congrArg nI h.1))] at hK; exact hK) | (rw [tName, if_neg (fun h => hc18 (nI_le h.2 (by decide)))] at hK; exact hK)
set_option maxHeartbeats 4000000 in
set_option maxRecDepth 20000 in
theorem c_X1_indexOfName {E : Ev} {g : Sh} {i : Ni} {j : Nj} {K : Kp} {r S L : Nat} {v : Int32} (hr : gT g r = 11) (hL : gL g r = L) (hS : S ≤ L) (hL9 : L < 1000) (hK : K (.inl (some (.int (sUntil (fun q => decide (i r q = v)) 0 S)))) g i j) : zCon E mX1_indexOfName [.ref r, .int (nI S), .int v] g i j K := by
  refine zcon_of (by decide +kernel) rfl rfl (lo := [.ref r, .int (nI S), .int v, zJ]) rfl (fun X => ?_)
  have K2 : ∀ q p : Nat, p + q = S → (∀ z, z = sUntil (fun q => decide (i r q = v)) p q → z = sUntil (fun q => decide (i r q = v)) 0 S) → zR E mX1_indexOfName (zZ E mX1_indexOfName K) X 2 [.ref r, .int (nI S), .int v, .int (nI p)] [] g i j 0 0 := by
    intro q
    induction q with
    | zero =>
      intro p hp hu
      obtain rfl : p = S := by omega
      have e := hu _ rfl
      rw [sUntil] at e
      refine r_iload_n qX1_indexOfName_2 rfl ?_
      refine r_iload_n qX1_indexOfName_3 rfl ?_
      refine r_icmp_ge (t := 28) qX1_indexOfName_4 (by decide) (fun hc4 => ?_) (fun hc4 => absurd hc4 (fun h => h (nI_le (by omega) (by omega))))
      refine r_iconst (v := (-1)) qX1_indexOfName_28 (by decide) ?_
      refine r_iret qX1_indexOfName_29 rfl rfl rfl rfl ?_
      rw [e]; exact hK
    | succ q ih =>
      intro p hp hu
      refine r_iload_n qX1_indexOfName_2 rfl ?_
      refine r_iload_n qX1_indexOfName_3 rfl ?_
      refine r_icmp_ge (t := 28) qX1_indexOfName_4 (by decide) (fun hc4 => absurd hc4 (nI_ge (by omega) (by omega))) (fun hc4 => ?_)
      refine r_iload_n qX1_indexOfName_7 rfl ?_
      refine r_aload_n qX1_indexOfName_8 rfl ?_
      refine r_alen qX1_indexOfName_9 ⟨0, by decide, by assumption⟩ ?_
      rw [hL]
      refine r_icmp_ge (t := 28) qX1_indexOfName_10 (by decide) (fun hc10 => absurd hc10 (nI_ge (by omega) (by omega))) (fun hc10 => ?_)
      refine r_aload_n qX1_indexOfName_13 rfl ?_
      refine r_iload_n qX1_indexOfName_14 rfl ?_
      refine r_ialdN qX1_indexOfName_15 hr hL (by omega) (Nat.ble_eq_true_of_le (by omega)) ?_
      refine r_iload_n qX1_indexOfName_16 rfl ?_
      refine r_icmp_ne (t := 22) qX1_indexOfName_17 (by decide) (fun hc17 => ?_) (fun hc17 => ?_)
      · refine r_ii_4_3 qX1_indexOfName_22 rfl rfl (nI_inc p) ?_
        refine r_goto (t := 2) qX1_indexOfName_25 (by decide) ?_
        exact ih (p + 1) (by omega) (fun z hz => hu z (hz.trans (sUntil_n (fun h => hc17 (of_decide_eq_true h))).symm))
      · refine r_iload_n qX1_indexOfName_20 rfl ?_
        refine r_iret qX1_indexOfName_21 rfl rfl rfl rfl ?_
        have e := hu (nI p) (sUntil_y (decide_eq_true hc17)).symm
        rw [e]
        exact hK
  refine r_iconst (v := nI 0) qX1_indexOfName_0 (by decide) ?_
  refine r_is_4_3 qX1_indexOfName_1 rfl rfl ?_
  exact K2 S 0 (by omega) (fun z hz => hz)
theorem sUntil_c {f f' : Nat → Bool} : ∀ n p, (∀ q, p ≤ q → q < p + n → f q = f' q) → sUntil f p n = sUntil f' p n
  | 0, _, _ => rfl
  | n + 1, p, h => by
    rw [sUntil, sUntil, h p (Nat.le_refl _) (by omega), sUntil_c n (p + 1) (fun q a b => h q (by omega) (by omega))]
theorem word_let {B : Nat → Int32} {L t : Nat} (hk : sKind B L t = 1) : t < sEnd B L t ∧ (∀ q, q < sEnd B L t - t → kLet (B (t + q)) = true) ∧ sLtr B L t = sEnd B L t - t ∧ sSpl B L t = sSp B t (sEnd B L t - t) := by
  have h3 : ¬ L ≤ t := fun h => by rw [sKind_0 h] at hk; omega
  have hkl : kLet (B t) = true := Classical.byContradiction fun h2 => by
    rw [sKind, if_neg h3, if_neg h2] at hk
    split at hk <;> omega
  refine ⟨sEnd_gt (by omega), fun q hq => ?_, by rw [sLtr, if_pos hk], by rw [sSpl, if_pos hk]⟩
  rw [sEnd, if_neg h3, if_pos hkl] at hq
  exact sRun_all (L := L) (L - t) t (t + q) (by omega) (by omega)
theorem pk27_31 {xs : List Nat} (hl : xs.length ≤ 4) (h : ∀ x ∈ xs, 1 ≤ x ∧ x ≤ 26) : pk27 xs 0 < 2 ^ 31 := by
  have h1 := pk27_lt xs 0 h
  have c : 27 ^ xs.length ≤ 27 ^ 4 := Nat.pow_le_pow_right (by decide) hl
  omega
theorem i64_inj {a b : Nat} (ha : a < 2 ^ 63) (hb : b < 2 ^ 63) (h : Int64.ofNat a = Int64.ofNat b) : a = b := by
  have := congrArg Int64.toInt h
  rw [Int64.toInt_ofNat_of_lt ha, Int64.toInt_ofNat_of_lt hb] at this
  omega
/-- a name that is kept is the word at t for both, or for none -/
theorem nm_eq {B : Nat → Int32} {L t : Nat} {p w l : Int32} (hL : L ≤ 600) (htL : t ≤ L) (h : zNx p w l) : (p = tName B L t) ↔ (sKind B L t = 1 ∧ l = nI (sLtr B L t) ∧ w.toInt64 = sSpl B L t) := by
  obtain ⟨xs, x1, x4, xi, ew, el, ep⟩ := h
  have hp8 := pk8_lt x4 xi
  have hpos := pk8_pos x1 xi
  have hp1 : 1 ≤ pk8 xs 0 := Nat.le_trans (Nat.pow_pos (by decide)) hpos
  have n0 : ¬ p = nI 0 := fun h => by
    rw [ep] at h
    have := (nI_eq (by omega) (by decide)).mp h
    omega
  by_cases hk : sKind B L t = 1
  · obtain ⟨w1, w2, w3, w4⟩ := word_let hk
    by_cases h4 : sEnd B L t - t ≤ 4
    · have hin := lts_in _ w2
      have hlen := lts_len B t (sEnd B L t - t)
      have hl4 : (lts B t (sEnd B L t - t)).length ≤ 4 := by rw [hlen]; exact h4
      have hl1 : 1 ≤ (lts B t (sEnd B L t - t)).length := by rw [hlen]; omega
      rw [tName, if_pos ⟨cKind_1.mp hk, h4⟩, cNam_e _ h4 w2, ep, w3, w4, sSp_e _ (by omega) w2, el, ew, i64_nI (pk27_31 x4 xi)]
      constructor
      · intro h
        have h2 := pk8_eq x1 hl1 xi hin ((nI_eq hp8 (pk8_lt hl4 hin)).mp h)
        rw [h2]
        exact ⟨hk, by rw [hlen], rfl⟩
      · rintro ⟨-, h2, h3⟩
        have h5 := (nI_eq (by omega) (by omega)).mp h2
        have ha := pk27_31 x4 xi
        have hb := pk27_31 hl4 hin
        have h6 := i64_inj (by omega) (by omega) h3
        rw [(pk27_inj xs _ 0 0 (by rw [hlen]; exact h5) xi hin h6).2]
    · rw [tName, if_neg (fun h => h4 h.2)]
      constructor
      · intro h; exact absurd h n0
      · rintro ⟨-, h2, -⟩
        rw [w3, el] at h2
        have hle := sEnd_le B L t htL
        have := (nI_eq (by omega) (by omega)).mp h2
        omega
  · rw [tName, if_neg (fun h => hk (cKind_1.mpr h.1))]
    constructor
    · intro h; exact absurd h n0
    · rintro ⟨h2, -⟩; exact absurd h2 hk
theorem nm_sp {i : Ni} {a : Nat → Nat} {N B : Nat → Int32} {L t : Nat} (hL : L ≤ 600) (htL : t ≤ L) (hH : zH i a N) : sUntil (fun q => decide (i (a 1) q = tName B L t)) 0 (zn (N 3)) = sUntil (fSp N B L t) 0 (zn (N 3)) :=
  sUntil_c _ 0 (fun q _ hq => decide_eq_decide.mpr (nm_eq hL htL (hH.sp (show q < zn (N 3) by omega)).2))
theorem nm_ba {i : Ni} {a : Nat → Nat} {N B : Nat → Int32} {L t : Nat} (hL : L ≤ 600) (htL : t ≤ L) (hH : zH i a N) : sUntil (fun q => decide (i (a 3) q = tName B L t)) 0 (zn (N 4)) = sUntil (fBa N B L t) 0 (zn (N 4)) :=
  sUntil_c _ 0 (fun q _ hq => decide_eq_decide.mpr (nm_eq hL htL (hH.ba (show q < zn (N 4) by omega)).2))
theorem nm_0 {B : Nat → Int32} {L t : Nat} (hk : sKind B L t = 1) : tName B L t = 0 ↔ 4 < sLtr B L t := by
  obtain ⟨w1, w2, w3, w4⟩ := word_let hk
  rw [w3, tName]
  by_cases h4 : sEnd B L t - t ≤ 4
  · have hin := lts_in _ w2
    have hlen := lts_len B t (sEnd B L t - t)
    have hl4 : (lts B t (sEnd B L t - t)).length ≤ 4 := by rw [hlen]; exact h4
    have hl1 : 1 ≤ (lts B t (sEnd B L t - t)).length := by rw [hlen]; omega
    have hp1 : 1 ≤ pk8 (lts B t (sEnd B L t - t)) 0 := Nat.le_trans (Nat.pow_pos (by decide)) (pk8_pos hl1 hin)
    have hp2 := pk8_lt hl4 hin
    rw [if_pos ⟨cKind_1.mp hk, h4⟩, cNam_e _ h4 w2]
    constructor
    · intro h
      have := (nI_eq (by omega) (by decide)).mp (h.trans nI_0.symm)
      omega
    · omega
  · rw [if_neg (fun h => h4 h.2)]
    exact ⟨fun _ => by omega, fun _ => nI_0⟩
/-- the name that is new: what both keep of it -/
theorem nm_new {B : Nat → Int32} {L t : Nat} (hk : sKind B L t = 1) (h4 : sLtr B L t ≤ 4) : zNx (tName B L t) (sSpl B L t).toInt32 (nI (sLtr B L t)) := by
  obtain ⟨w1, w2, w3, w4⟩ := word_let hk
  rw [w3] at h4 ⊢
  have hin := lts_in _ w2
  have hlen := lts_len B t (sEnd B L t - t)
  refine ⟨lts B t (sEnd B L t - t), by rw [hlen]; omega, by rw [hlen]; exact h4, hin, ?_, by rw [hlen], ?_⟩
  · rw [w4, sSp_e _ (by omega) w2, Int64.toInt32_ofNat']; rfl
  · rw [tName, if_pos ⟨cKind_1.mp hk, h4⟩, cNam_e _ h4 w2]
set_option maxHeartbeats 4000000 in
set_option maxRecDepth 20000 in
theorem y_spirit {E : Ev} {g : Sh} {i : Ni} {j : Nj} {K : Kp} {rd tx L t : Nat} {B : Nat → Int32} {a : Nat → Nat} {N : Nat → Int32} {i0 : Ni} (hS : yS g rd tx a) (hG : yG rd tx L B a N i0 t i) (hKy : ∀ t' v, tSp N B L t = .ok (t', v) → ∀ i', yG rd tx L B a N i0 t' i' → K (.inl (some (.int v))) g i' j) (hKn : ∀ c w, tSp N B L t = .error (c, w) → ∀ (u : Int32) i', yE rd tx L B a N i0 c w i' → K (.inl (some (.int u))) g i' j) : zCon E mX1_takeKnownName [.ref rd, .ref (a 1), .int (N 3)] g i j K := by
  refine zcon_of (by decide +kernel) rfl rfl (lo := [.ref rd, .ref (a 1), .int (N 3), zJ]) rfl (fun X => ?_)
  obtain ⟨hR, r5, hC, g0⟩ := id hS
  have r1 := hR.1
  obtain ⟨hc, ⟨h0, h04⟩, hH, hF⟩ := id hG
  obtain ⟨p1, p2, p3, p4, p5, p6, p7, p8⟩ := id hc
  obtain ⟨hS3, hS5⟩ := hH.1.S5
  obtain ⟨a1, a2, a3, a4, a5, a6, a7, a8, a9, a10, a11, a12, a13, a14, a15, a16, -⟩ := id hC
  have hk5 := cKind_lt B L t
  have hnm := nm_sp (B := B) p2 p5 hH
  have e3 : (Value.int (N 3)) = .int (nI (zn (N 3))) := congrArg Value.int hS3
  rw [e3]
  have Kb : ∀ (v c : Int32) (w : Nat) (y : Value) (i1 : Ni), tSp N B L t = .error (c, w) → yE rd tx L B a N i0 c w i1 → zR E mX1_takeKnownName (zZ E mX1_takeKnownName K) X 36 [.ref rd, .ref (a 1), y, .int v] [] g i1 j 0 0 := by
    intro v c w y i1 he e
    refine r_aload_n qX1_takeKnownName_36 rfl ?_
    refine r_cv0 (cu2 := 0) (su2 := 0) qX1_takeKnownName_37 kX1_51 rfl (by decide +kernel) (c := 1) (by assumption) (by decide) rfl rfl rfl rfl rfl rfl ?_
    refine y_nextE hS e (fun i2 e2 => ?_)
    show zR E _ _ X 40 _ _ _ _ _ _ _
    refine r_iload_n qX1_takeKnownName_40 rfl ?_
    refine r_iret qX1_takeKnownName_41 rfl rfl rfl rfl ?_
    exact hKn c w he _ i2 e2
  by_cases hk : sKind B L t = 1
  · skip
    have hk1 := cKind_1.mp hk
    by_cases hu : sUntil (fSp N B L t) 0 (zn (N 3)) = -1
    · skip
      refine r_aload_n qX1_takeKnownName_0 rfl ?_
      refine r_iload_n qX1_takeKnownName_1 rfl ?_
      refine r_aload_n qX1_takeKnownName_2 rfl ?_
      refine r_cv0 (cu2 := 0) (su2 := 0) qX1_takeKnownName_3 kX1_252 rfl (by decide +kernel) (c := 1) (by assumption) (by decide) rfl rfl rfl rfl rfl rfl ?_
      refine c_X1_tokenName hR hc ?_
      show zR E _ _ X 6 _ _ _ _ _ _ _
      refine r_cs3 (cu2 := 0) (su2 := 0) qX1_takeKnownName_6 kX1_255 rfl (by decide +kernel) rfl rfl rfl rfl rfl ?_
      refine c_X1_indexOfName a7 a8 hS5 (by decide) ?_
      show zR E _ _ X 9 _ _ _ _ _ _ _
      rw [hnm]
      refine r_is_4_3 qX1_takeKnownName_9 rfl rfl ?_
      refine r_aload_n qX1_takeKnownName_10 rfl ?_
      refine r_geti qX1_takeKnownName_11 fX1_57 rfl (by assumption) ?_
      rw [p8, hk1]
      refine r_iconst (v := nI 1) qX1_takeKnownName_14 (by decide) ?_
      refine r_icmp_eq (t := 26) qX1_takeKnownName_15 (by decide) (fun hc15 => ?_) (fun hc15 => absurd hc15 (fun h => h rfl))
      refine r_iload_n qX1_takeKnownName_26 rfl ?_
      refine r_iconst (v := (-1)) qX1_takeKnownName_27 (by decide) ?_
      refine r_icmp_ne (t := 36) qX1_takeKnownName_28 (by decide) (fun hc28 => absurd hc28 (fun h => h hu)) (fun hc28 => ?_)
      refine r_aload_n qX1_takeKnownName_31 rfl ?_
      refine r_iconst (v := nI 4) qX1_takeKnownName_32 (by decide) ?_
      refine r_cv1 (cu2 := 0) (su2 := 0) qX1_takeKnownName_33 kX1_67 rfl (by decide +kernel) (c := 1) (by assumption) (by decide) rfl rfl rfl rfl rfl rfl ?_
      refine c_X1_fail r1 h0 ?_
      rw [p6]
      show zR E _ _ X 36 _ _ _ _ _ _ _
      exact Kb _ (nI 4) t _ _ (by rw [tSp, if_neg (fun h => h.2 hu), if_pos hk]) (hG.bad hS (by decide))
    · skip
      refine r_aload_n qX1_takeKnownName_0 rfl ?_
      refine r_iload_n qX1_takeKnownName_1 rfl ?_
      refine r_aload_n qX1_takeKnownName_2 rfl ?_
      refine r_cv0 (cu2 := 0) (su2 := 0) qX1_takeKnownName_3 kX1_252 rfl (by decide +kernel) (c := 1) (by assumption) (by decide) rfl rfl rfl rfl rfl rfl ?_
      refine c_X1_tokenName hR hc ?_
      show zR E _ _ X 6 _ _ _ _ _ _ _
      refine r_cs3 (cu2 := 0) (su2 := 0) qX1_takeKnownName_6 kX1_255 rfl (by decide +kernel) rfl rfl rfl rfl rfl ?_
      refine c_X1_indexOfName a7 a8 hS5 (by decide) ?_
      show zR E _ _ X 9 _ _ _ _ _ _ _
      rw [hnm]
      refine r_is_4_3 qX1_takeKnownName_9 rfl rfl ?_
      refine r_aload_n qX1_takeKnownName_10 rfl ?_
      refine r_geti qX1_takeKnownName_11 fX1_57 rfl (by assumption) ?_
      rw [p8, hk1]
      refine r_iconst (v := nI 1) qX1_takeKnownName_14 (by decide) ?_
      refine r_icmp_eq (t := 26) qX1_takeKnownName_15 (by decide) (fun hc15 => ?_) (fun hc15 => absurd hc15 (fun h => h rfl))
      refine r_iload_n qX1_takeKnownName_26 rfl ?_
      refine r_iconst (v := (-1)) qX1_takeKnownName_27 (by decide) ?_
      refine r_icmp_ne (t := 36) qX1_takeKnownName_28 (by decide) (fun hc28 => ?_) (fun hc28 => absurd hc28 (hu))
      refine r_aload_n qX1_takeKnownName_36 rfl ?_
      refine r_cv0 (cu2 := 0) (su2 := 0) qX1_takeKnownName_37 kX1_51 rfl (by decide +kernel) (c := 1) (by assumption) (by decide) rfl rfl rfl rfl rfl rfl ?_
      refine y_nextG hS hG (fun i2 G2 => ?_)
      show zR E _ _ X 40 _ _ _ _ _ _ _
      refine r_iload_n qX1_takeKnownName_40 rfl ?_
      refine r_iret qX1_takeKnownName_41 rfl rfl rfl rfl ?_
      exact hKy _ _ (by rw [tSp, if_pos ⟨hk, hu⟩]) i2 G2
  · skip
    have hk1 : ¬ cKind B L t = 1 := fun h => hk (cKind_1.mpr h)
    refine r_aload_n qX1_takeKnownName_0 rfl ?_
    refine r_iload_n qX1_takeKnownName_1 rfl ?_
    refine r_aload_n qX1_takeKnownName_2 rfl ?_
    refine r_cv0 (cu2 := 0) (su2 := 0) qX1_takeKnownName_3 kX1_252 rfl (by decide +kernel) (c := 1) (by assumption) (by decide) rfl rfl rfl rfl rfl rfl ?_
    refine c_X1_tokenName hR hc ?_
    show zR E _ _ X 6 _ _ _ _ _ _ _
    refine r_cs3 (cu2 := 0) (su2 := 0) qX1_takeKnownName_6 kX1_255 rfl (by decide +kernel) rfl rfl rfl rfl rfl ?_
    refine c_X1_indexOfName a7 a8 hS5 (by decide) ?_
    show zR E _ _ X 9 _ _ _ _ _ _ _
    rw [hnm]
    refine r_is_4_3 qX1_takeKnownName_9 rfl rfl ?_
    refine r_aload_n qX1_takeKnownName_10 rfl ?_
    refine r_geti qX1_takeKnownName_11 fX1_57 rfl (by assumption) ?_
    rw [p8]
    refine r_iconst (v := nI 1) qX1_takeKnownName_14 (by decide) ?_
    refine r_icmp_eq (t := 26) qX1_takeKnownName_15 (by decide) (fun hc15 => absurd hc15 (fun h => hk1 ((nI_eq (by omega) (by omega)).mp h))) (fun hc15 => ?_)
    refine r_aload_n qX1_takeKnownName_18 rfl ?_
    refine r_iconst (v := nI 1) qX1_takeKnownName_19 (by decide) ?_
    refine r_cv1 (cu2 := 0) (su2 := 0) qX1_takeKnownName_20 kX1_67 rfl (by decide +kernel) (c := 1) (by assumption) (by decide) rfl rfl rfl rfl rfl rfl ?_
    refine c_X1_fail r1 h0 ?_
    rw [p6]
    show zR E _ _ X 23 _ _ _ _ _ _ _
    refine r_goto (t := 36) qX1_takeKnownName_23 (by decide) ?_
    exact Kb _ (nI 1) t _ _ (by rw [tSp, if_neg (fun h => hk h.1), if_neg hk]) (hG.bad hS (by decide))
set_option maxHeartbeats 4000000 in
set_option maxRecDepth 20000 in
theorem y_bath {E : Ev} {g : Sh} {i : Ni} {j : Nj} {K : Kp} {rd tx L t : Nat} {B : Nat → Int32} {a : Nat → Nat} {N : Nat → Int32} {i0 : Ni} (hS : yS g rd tx a) (hG : yG rd tx L B a N i0 t i) (hKy : ∀ t' v, tBa N B L t = .ok (t', v) → ∀ i', yG rd tx L B a N i0 t' i' → K (.inl (some (.int v))) g i' j) (hKn : ∀ c w, tBa N B L t = .error (c, w) → ∀ (u : Int32) i', yE rd tx L B a N i0 c w i' → K (.inl (some (.int u))) g i' j) : zCon E mX1_takeKnownName [.ref rd, .ref (a 3), .int (N 4)] g i j K := by
  refine zcon_of (by decide +kernel) rfl rfl (lo := [.ref rd, .ref (a 3), .int (N 4), zJ]) rfl (fun X => ?_)
  obtain ⟨hR, r5, hC, g0⟩ := id hS
  have r1 := hR.1
  obtain ⟨hc, ⟨h0, h04⟩, hH, hF⟩ := id hG
  obtain ⟨p1, p2, p3, p4, p5, p6, p7, p8⟩ := id hc
  obtain ⟨hS3, hS5⟩ := hH.1.B4
  obtain ⟨a1, a2, a3, a4, a5, a6, a7, a8, a9, a10, a11, a12, a13, a14, a15, a16, -⟩ := id hC
  have hk5 := cKind_lt B L t
  have hnm := nm_ba (B := B) p2 p5 hH
  have e3 : (Value.int (N 4)) = .int (nI (zn (N 4))) := congrArg Value.int hS3
  rw [e3]
  have Kb : ∀ (v c : Int32) (w : Nat) (y : Value) (i1 : Ni), tBa N B L t = .error (c, w) → yE rd tx L B a N i0 c w i1 → zR E mX1_takeKnownName (zZ E mX1_takeKnownName K) X 36 [.ref rd, .ref (a 3), y, .int v] [] g i1 j 0 0 := by
    intro v c w y i1 he e
    refine r_aload_n qX1_takeKnownName_36 rfl ?_
    refine r_cv0 (cu2 := 0) (su2 := 0) qX1_takeKnownName_37 kX1_51 rfl (by decide +kernel) (c := 1) (by assumption) (by decide) rfl rfl rfl rfl rfl rfl ?_
    refine y_nextE hS e (fun i2 e2 => ?_)
    show zR E _ _ X 40 _ _ _ _ _ _ _
    refine r_iload_n qX1_takeKnownName_40 rfl ?_
    refine r_iret qX1_takeKnownName_41 rfl rfl rfl rfl ?_
    exact hKn c w he _ i2 e2
  by_cases hk : sKind B L t = 1
  · skip
    have hk1 := cKind_1.mp hk
    by_cases hu : sUntil (fBa N B L t) 0 (zn (N 4)) = -1
    · skip
      refine r_aload_n qX1_takeKnownName_0 rfl ?_
      refine r_iload_n qX1_takeKnownName_1 rfl ?_
      refine r_aload_n qX1_takeKnownName_2 rfl ?_
      refine r_cv0 (cu2 := 0) (su2 := 0) qX1_takeKnownName_3 kX1_252 rfl (by decide +kernel) (c := 1) (by assumption) (by decide) rfl rfl rfl rfl rfl rfl ?_
      refine c_X1_tokenName hR hc ?_
      show zR E _ _ X 6 _ _ _ _ _ _ _
      refine r_cs3 (cu2 := 0) (su2 := 0) qX1_takeKnownName_6 kX1_255 rfl (by decide +kernel) rfl rfl rfl rfl rfl ?_
      refine c_X1_indexOfName a11 a12 hS5 (by decide) ?_
      show zR E _ _ X 9 _ _ _ _ _ _ _
      rw [hnm]
      refine r_is_4_3 qX1_takeKnownName_9 rfl rfl ?_
      refine r_aload_n qX1_takeKnownName_10 rfl ?_
      refine r_geti qX1_takeKnownName_11 fX1_57 rfl (by assumption) ?_
      rw [p8, hk1]
      refine r_iconst (v := nI 1) qX1_takeKnownName_14 (by decide) ?_
      refine r_icmp_eq (t := 26) qX1_takeKnownName_15 (by decide) (fun hc15 => ?_) (fun hc15 => absurd hc15 (fun h => h rfl))
      refine r_iload_n qX1_takeKnownName_26 rfl ?_
      refine r_iconst (v := (-1)) qX1_takeKnownName_27 (by decide) ?_
      refine r_icmp_ne (t := 36) qX1_takeKnownName_28 (by decide) (fun hc28 => absurd hc28 (fun h => h hu)) (fun hc28 => ?_)
      refine r_aload_n qX1_takeKnownName_31 rfl ?_
      refine r_iconst (v := nI 4) qX1_takeKnownName_32 (by decide) ?_
      refine r_cv1 (cu2 := 0) (su2 := 0) qX1_takeKnownName_33 kX1_67 rfl (by decide +kernel) (c := 1) (by assumption) (by decide) rfl rfl rfl rfl rfl rfl ?_
      refine c_X1_fail r1 h0 ?_
      rw [p6]
      show zR E _ _ X 36 _ _ _ _ _ _ _
      exact Kb _ (nI 4) t _ _ (by rw [tBa, if_neg (fun h => h.2 hu), if_pos hk]) (hG.bad hS (by decide))
    · skip
      refine r_aload_n qX1_takeKnownName_0 rfl ?_
      refine r_iload_n qX1_takeKnownName_1 rfl ?_
      refine r_aload_n qX1_takeKnownName_2 rfl ?_
      refine r_cv0 (cu2 := 0) (su2 := 0) qX1_takeKnownName_3 kX1_252 rfl (by decide +kernel) (c := 1) (by assumption) (by decide) rfl rfl rfl rfl rfl rfl ?_
      refine c_X1_tokenName hR hc ?_
      show zR E _ _ X 6 _ _ _ _ _ _ _
      refine r_cs3 (cu2 := 0) (su2 := 0) qX1_takeKnownName_6 kX1_255 rfl (by decide +kernel) rfl rfl rfl rfl rfl ?_
      refine c_X1_indexOfName a11 a12 hS5 (by decide) ?_
      show zR E _ _ X 9 _ _ _ _ _ _ _
      rw [hnm]
      refine r_is_4_3 qX1_takeKnownName_9 rfl rfl ?_
      refine r_aload_n qX1_takeKnownName_10 rfl ?_
      refine r_geti qX1_takeKnownName_11 fX1_57 rfl (by assumption) ?_
      rw [p8, hk1]
      refine r_iconst (v := nI 1) qX1_takeKnownName_14 (by decide) ?_
      refine r_icmp_eq (t := 26) qX1_takeKnownName_15 (by decide) (fun hc15 => ?_) (fun hc15 => absurd hc15 (fun h => h rfl))
      refine r_iload_n qX1_takeKnownName_26 rfl ?_
      refine r_iconst (v := (-1)) qX1_takeKnownName_27 (by decide) ?_
      refine r_icmp_ne (t := 36) qX1_takeKnownName_28 (by decide) (fun hc28 => ?_) (fun hc28 => absurd hc28 (hu))
      refine r_aload_n qX1_takeKnownName_36 rfl ?_
      refine r_cv0 (cu2 := 0) (su2 := 0) qX1_takeKnownName_37 kX1_51 rfl (by decide +kernel) (c := 1) (by assumption) (by decide) rfl rfl rfl rfl rfl rfl ?_
      refine y_nextG hS hG (fun i2 G2 => ?_)
      show zR E _ _ X 40 _ _ _ _ _ _ _
      refine r_iload_n qX1_takeKnownName_40 rfl ?_
      refine r_iret qX1_takeKnownName_41 rfl rfl rfl rfl ?_
      exact hKy _ _ (by rw [tBa, if_pos ⟨hk, hu⟩]) i2 G2
  · skip
    have hk1 : ¬ cKind B L t = 1 := fun h => hk (cKind_1.mpr h)
    refine r_aload_n qX1_takeKnownName_0 rfl ?_
    refine r_iload_n qX1_takeKnownName_1 rfl ?_
    refine r_aload_n qX1_takeKnownName_2 rfl ?_
    refine r_cv0 (cu2 := 0) (su2 := 0) qX1_takeKnownName_3 kX1_252 rfl (by decide +kernel) (c := 1) (by assumption) (by decide) rfl rfl rfl rfl rfl rfl ?_
    refine c_X1_tokenName hR hc ?_
    show zR E _ _ X 6 _ _ _ _ _ _ _
    refine r_cs3 (cu2 := 0) (su2 := 0) qX1_takeKnownName_6 kX1_255 rfl (by decide +kernel) rfl rfl rfl rfl rfl ?_
    refine c_X1_indexOfName a11 a12 hS5 (by decide) ?_
    show zR E _ _ X 9 _ _ _ _ _ _ _
    rw [hnm]
    refine r_is_4_3 qX1_takeKnownName_9 rfl rfl ?_
    refine r_aload_n qX1_takeKnownName_10 rfl ?_
    refine r_geti qX1_takeKnownName_11 fX1_57 rfl (by assumption) ?_
    rw [p8]
    refine r_iconst (v := nI 1) qX1_takeKnownName_14 (by decide) ?_
    refine r_icmp_eq (t := 26) qX1_takeKnownName_15 (by decide) (fun hc15 => absurd hc15 (fun h => hk1 ((nI_eq (by omega) (by omega)).mp h))) (fun hc15 => ?_)
    refine r_aload_n qX1_takeKnownName_18 rfl ?_
    refine r_iconst (v := nI 1) qX1_takeKnownName_19 (by decide) ?_
    refine r_cv1 (cu2 := 0) (su2 := 0) qX1_takeKnownName_20 kX1_67 rfl (by decide +kernel) (c := 1) (by assumption) (by decide) rfl rfl rfl rfl rfl rfl ?_
    refine c_X1_fail r1 h0 ?_
    rw [p6]
    show zR E _ _ X 23 _ _ _ _ _ _ _
    refine r_goto (t := 36) qX1_takeKnownName_23 (by decide) ?_
    exact Kb _ (nI 1) t _ _ (by rw [tBa, if_neg (fun h => hk h.1), if_neg hk]) (hG.bad hS (by decide))


