/-! ===== THE CLASS'S PARSER: NUMBERS, DEGREES, TUBES, THE END ===== -/
def cSt (i : Ni) (rd tx L : Nat) (B : Nat → Int32) (s : Nat) : Prop := i rd 2 = nI L ∧ L ≤ 600 ∧ zByt B ∧ i tx = B ∧ s ≤ L ∧ cTk (i rd) B L s
def zFy (rd : Nat) (a : Nat → Nat) (i' i : Ni) : Prop := (∀ m, m ≠ 3 → m ≠ 4 → m ≠ 5 → m ≠ 6 → m ≠ 7 → i' rd m = i rd m) ∧ ∀ r, r ≠ rd → (∀ q, q < 30 → r ≠ a q) → i' r = i r
/-- a good state, the token at t, the gallery a holds N .. -/
def yG (rd tx L : Nat) (B : Nat → Int32) (a : Nat → Nat) (N : Nat → Int32) (i0 : Ni) (t : Nat) (i : Ni) : Prop := cSt i rd tx L B t ∧ (i rd 3 = 0 ∧ i rd 4 = -1) ∧ zH i a N ∧ zFy rd a i i0
/-- .. and a state after an error -/
def yE (rd tx L : Nat) (B : Nat → Int32) (a : Nat → Nat) (N : Nat → Int32) (i0 : Ni) (c : Int32) (w : Nat) (i : Ni) : Prop := (∃ t, cSt i rd tx L B t) ∧ i rd 3 = c ∧ ¬ c = 0 ∧ i rd 4 = nI w ∧ zH i a N ∧ zFy rd a i i0
def yS (g : Sh) (rd tx : Nat) (a : Nat → Nat) : Prop := zR2 g rd tx ∧ gR g rd 1 = a 0 ∧ zC g a ∧ gT g 0 = 0
section
variable {g : Sh} {rd tx L t : Nat} {B : Nat → Int32} {a : Nat → Nat} {N : Nat → Int32} {i0 i : Ni} {c : Int32} {w : Nat}
theorem yS.ar (h : yS g rd tx a) {q : Nat} (hq : q < 30) : a q ≠ rd := fun e => by
  have z := h.2.2.1.kd hq
  rw [e, h.1.1] at z
  omega
theorem yS.at (h : yS g rd tx a) {q : Nat} (hq : q < 30) : a q ≠ tx := fun e => by
  have z := h.2.2.1.kd hq
  rw [e, h.1.2.2.1] at z
  omega
theorem yS.tr (h : yS g rd tx a) : tx ≠ rd := by
  obtain ⟨r1, r2, r3, r4⟩ := h.1
  rintro rfl
  omega
theorem zFy.F {F : Nat → Int32} (h : zFy rd a i i0) (hF : ∀ m, m ≠ 3 → m ≠ 4 → m ≠ 5 → m ≠ 6 → m ≠ 7 → F m = i rd m) : zFy rd a (wA i rd F) i0 :=
  ⟨fun m a b c d e => by rw [wA_s, hF m a b c d e]; exact h.1 m a b c d e, fun r h1 h2 => by rw [wA_n h1]; exact h.2 r h1 h2⟩
theorem zNo.wf {F : Nat → Int32} {r : Nat} (h : zNo i a) (hr : ∀ q, q < 30 → a q ≠ r) : zNo (wA i r F) a := fun z hz => by rw [wA_n (hr _ (by omega))]; exact h z hz
theorem cSt.F (hS : yS g rd tx a) {F : Nat → Int32} {t' : Nat} (h : cSt i rd tx L B t) (ht : t' ≤ L) (hT : cTk F B L t') (h2 : F 2 = i rd 2) : cSt (wA i rd F) rd tx L B t' := by
  obtain ⟨p1, p2, p3, p4, p5, p6⟩ := h
  exact ⟨by rw [wA_s, h2]; exact p1, p2, p3, by rw [wA_n hS.tr]; exact p4, ht, by rw [wA_s]; exact hT⟩
theorem cSt.F3 (hS : yS g rd tx a) {F : Nat → Int32} (h : cSt i rd tx L B t) (hF : ∀ m, m ≠ 3 → m ≠ 4 → F m = i rd m) : cSt (wA i rd F) rd tx L B t := by
  obtain ⟨p1, p2, p3, p4, p5, p6, p7, p8⟩ := id h
  exact h.F hS p5 ⟨by rw [hF 6 (by decide) (by decide)]; exact p6, by rw [hF 7 (by decide) (by decide)]; exact p7, by rw [hF 5 (by decide) (by decide)]; exact p8⟩ (hF 2 (by decide) (by decide))
/-- the first error -/
def cBad (i : Ni) (rd : Nat) (c w : Int32) : Ni := wA i rd (upd (upd (i rd) 3 c) 4 w)
theorem yG.bad (hS : yS g rd tx a) (h : yG rd tx L B a N i0 t i) {c : Int32} (hc : ¬ c = 0) {w : Nat} : yE rd tx L B a N i0 c w (cBad i rd c (nI w)) := by
  obtain ⟨h1, h2, h3, h4⟩ := h
  exact ⟨⟨t, h1.F3 hS (fun m a b => by rw [pk_un b, pk_un a])⟩, by rw [cBad, wA_s, pk_un (by decide), pk_us], hc, by rw [cBad, wA_s, pk_us], h3.ou (fun q hq => wA_n (hS.ar hq)), h4.F (fun m a b c d e => by rw [pk_un b, pk_un a])⟩
end
set_option maxHeartbeats 4000000 in
set_option maxRecDepth 20000 in
theorem c_X1_fail {E : Ev} {g : Sh} {i : Ni} {j : Nj} {K : Kp} {rd : Nat} {v : Int32} (r1 : gT g rd = 2) (h0 : i rd 3 = 0) (hK : K (.inl none) g (cBad i rd v (i rd 6)) j) : zCon E mX1_fail [.ref rd, .int v] g i j K := by
  refine zcon_of (by decide +kernel) rfl rfl (lo := [.ref rd, .int v]) rfl (fun X => ?_)
  refine r_aload_n qX1_fail_0 rfl ?_
  refine r_geti qX1_fail_1 fX1_45 rfl (by assumption) ?_
  rw [h0]
  refine r_if_ne (t := 20) qX1_fail_4 (by decide) (fun hc4 => absurd hc4 (fun h => h rfl)) (fun hc4 => ?_)
  refine r_aload_n qX1_fail_7 rfl ?_
  refine r_iload_n qX1_fail_8 rfl ?_
  refine r_puti qX1_fail_9 fX1_45 (Or.inl rfl) rfl rfl rfl (by assumption) ?_
  refine r_aload_n qX1_fail_12 rfl ?_
  refine r_aload_n qX1_fail_13 rfl ?_
  refine r_geti qX1_fail_14 fX1_242 rfl (by assumption) ?_
  rw [wA_s, pk_un (by decide)]
  refine r_puti qX1_fail_17 fX1_22 (Or.inl rfl) rfl rfl rfl (by assumption) ?_
  simp only [wA_s, wA_wA]
  refine r_vret qX1_fail_20 rfl rfl rfl ?_
  exact hK
set_option maxHeartbeats 4000000 in
set_option maxRecDepth 20000 in
theorem cE_fail {E : Ev} {g : Sh} {i : Ni} {j : Nj} {K : Kp} {rd : Nat} {v : Int32} (r1 : gT g rd = 2) (h0 : ¬ i rd 3 = 0) (hK : K (.inl none) g i j) : zCon E mX1_fail [.ref rd, .int v] g i j K := by
  refine zcon_of (by decide +kernel) rfl rfl (lo := [.ref rd, .int v]) rfl (fun X => ?_)
  refine r_aload_n qX1_fail_0 rfl ?_
  refine r_geti qX1_fail_1 fX1_45 rfl (by assumption) ?_
  refine r_if_ne (t := 20) qX1_fail_4 (by decide) (fun hc4 => ?_) (fun hc4 => absurd hc4 (h0))
  refine r_vret qX1_fail_20 rfl rfl rfl ?_
  exact hK
section
variable {E : Ev} {g : Sh} {i : Ni} {j : Nj} {K : Kp} {rd tx L t : Nat} {B : Nat → Int32} {a : Nat → Nat} {N : Nat → Int32} {i0 : Ni} {c : Int32} {w : Nat}
theorem y_next (hS : yS g rd tx a) (h : cSt i rd tx L B t) (hK : ∀ F : Nat → Int32, cSt (wA i rd F) rd tx L B (sNext B L t) → (∀ m, m ≠ 5 → m ≠ 6 → m ≠ 7 → F m = i rd m) → K (.inl none) g (wA i rd F) j) : zCon E mX1_nextToken [.ref rd] g i j K := by
  obtain ⟨p1, p2, p3, p4, p5, p6, p7, p8⟩ := id h
  exact c_X1_nextToken hS.1 p1 p2 p4 p7 (sEnd_le _ _ _ p5) (fun F hF fo => hK F (h.F hS (sNext_le _ _ _ p5) hF (fo 2 (by decide) (by decide) (by decide))) fo)
theorem y_nextG (hS : yS g rd tx a) (h : yG rd tx L B a N i0 t i) (hK : ∀ i', yG rd tx L B a N i0 (sNext B L t) i' → K (.inl none) g i' j) : zCon E mX1_nextToken [.ref rd] g i j K := by
  obtain ⟨h1, h2, h3, h4⟩ := h
  exact y_next hS h1 (fun F f1 fo => hK _ ⟨f1, by rw [wA_s, fo 3 (by decide) (by decide) (by decide), fo 4 (by decide) (by decide) (by decide)]; exact h2, h3.ou (fun q hq => wA_n (hS.ar hq)), h4.F (fun m a b c d e => fo m c d e)⟩)
theorem y_nextE (hS : yS g rd tx a) (h : yE rd tx L B a N i0 c w i) (hK : ∀ i', yE rd tx L B a N i0 c w i' → K (.inl none) g i' j) : zCon E mX1_nextToken [.ref rd] g i j K := by
  obtain ⟨⟨t, h1⟩, h2, h3, h4, h5, h6⟩ := h
  exact y_next hS h1 (fun F f1 fo => hK _ ⟨⟨_, f1⟩, by rw [wA_s, fo 3 (by decide) (by decide) (by decide)]; exact h2, h3, by rw [wA_s, fo 4 (by decide) (by decide) (by decide)]; exact h4, h5.ou (fun q hq => wA_n (hS.ar hq)), h6.F (fun m a b c d e => fo m c d e)⟩)
end
/-! numbers as both read them -/
def cNum (B : Nat → Int32) (s : Nat) : Nat → Int32
  | 0 => nI 0
  | k + 1 => jmin (nI 10 * cNum B s k + B (s + k) - nI 48) (nI 1000000)
theorem kDig_nat {v : Int32} (h : kDig v = true) : ∃ d, v = nI (48 + d) ∧ d ≤ 9 := by
  have h1 := of_decide_eq_true h
  obtain ⟨m, m1, m2, m3⟩ := (show zIn v 48 57 from h1).ex (by decide)
  exact ⟨m - 48, by rw [show 48 + (m - 48) = m by omega]; exact m1, by omega⟩
theorem dg_step (m d : Nat) : nI 10 * nI m + nI (48 + d) - nI 48 = nI (10 * m + d) := by
  rw [nI_mulN, nI_add, nI_sub (by omega), show 10 * m + (48 + d) - 48 = 10 * m + d by omega]
theorem num_rel {B : Nat → Int32} {s : Nat} : ∀ n, (∀ k, k < n → kDig (B (s + k)) = true) → ∃ m c, sNu B s n = nI m ∧ cNum B s n = nI c ∧ ((m = c ∧ c ≤ 9999) ∨ (m = 9999 ∧ 9999 ≤ c)) ∧ c ≤ 1000000
  | 0, _ => ⟨0, 0, rfl, rfl, Or.inl ⟨rfl, by omega⟩, by omega⟩
  | n + 1, h => by
    obtain ⟨m, c, e1, e2, e3, e4⟩ := num_rel n (fun k hk => h k (by omega))
    obtain ⟨d, d1, d2⟩ := kDig_nat (h n (by omega))
    have hc : cNum B s (n + 1) = nI (if 1000000 < 10 * c + d then 1000000 else 10 * c + d) := by
      rw [cNum, e2, d1, dg_step, jmin]
      by_cases hh : 1000000 < 10 * c + d
      · rw [if_pos (nI_lt hh (by omega)), if_pos hh]
      · rw [if_neg (fun q => absurd (nI_le (show 10 * c + d ≤ 1000000 by omega) (by decide)) (Int32.not_le.mpr q)), if_neg hh]
    have hm : sNu B s (n + 1) = nI (if 999 < m then 9999 else 10 * m + d) := by
      rw [sNu, e1, d1]
      by_cases hh : 999 < m
      · rw [if_pos (nI_lt hh (by omega)), if_pos hh]
      · rw [if_neg (fun q => absurd (nI_le (show m ≤ 999 by omega) (by decide)) (Int32.not_le.mpr q)), if_neg hh, dg_step]
    refine ⟨_, _, hm, hc, ?_, by split <;> omega⟩
    rcases e3 with ⟨e3, e5⟩ | ⟨e3, e5⟩
    · by_cases hh : 999 < m
      · rw [if_pos hh]
        refine Or.inr ⟨rfl, ?_⟩
        split <;> omega
      · rw [if_neg hh, if_neg (by omega), e3]
        exact Or.inl ⟨rfl, by omega⟩
    · rw [if_pos (by omega)]
      refine Or.inr ⟨rfl, ?_⟩
      split <;> omega
theorem sRun_all {c : Int32 → Bool} {B : Nat → Int32} {L : Nat} : ∀ q s k, s ≤ k → k < sRun c B L q s → c (B k) = true
  | 0, s, k, h1, h2 => by rw [sRun] at h2; omega
  | q + 1, s, k, h1, h2 => by
    rw [sRun] at h2
    split at h2
    · rename_i h3
      rcases Nat.lt_or_ge s k with h4 | h4
      · exact sRun_all q (s + 1) k h4 h2
      · have : k = s := by omega
        subst this
        exact h3.2
    · omega
theorem cKind_2 {B : Nat → Int32} {L t : Nat} : sKind B L t = 2 ↔ cKind B L t = 2 := by
  rw [sKind, cKind]
  by_cases h : L ≤ t
  · rw [if_pos h, if_pos h]
  · rw [if_neg h, if_neg h, kd_2]
    constructor
    · intro h2
      split at h2
      · omega
      · split at h2
        · assumption
        · omega
    · intro h2; rw [if_neg (kDig_n h2), if_pos h2]
theorem cKind_1 {B : Nat → Int32} {L t : Nat} : sKind B L t = 1 ↔ cKind B L t = 1 := by
  rw [sKind, cKind]
  by_cases h : L ≤ t
  · rw [if_pos h, if_pos h]
  · rw [if_neg h, if_neg h, kd_1]
    constructor
    · intro h2
      split at h2
      · assumption
      · split at h2 <;> omega
    · intro h2; rw [if_pos h2]
theorem cKind_0 {B : Nat → Int32} {L t : Nat} : sKind B L t = 0 ↔ cKind B L t = 0 := by
  rw [sKind, cKind]
  by_cases h : L ≤ t
  · rw [if_pos h, if_pos h]
  · rw [if_neg h, if_neg h]
    have := (kd_le (B t)).1
    constructor
    · intro h2
      split at h2
      · omega
      · split at h2 <;> omega
    · omega
theorem sKind_3 {B : Nat → Int32} {L t : Nat} : sKind B L t = 3 ↔ (t < L ∧ ¬ kLet (B t) = true ∧ ¬ kDig (B t) = true) := by
  rw [sKind]
  constructor
  · intro h
    split at h
    · omega
    · split at h
      · omega
      · split at h
        · omega
        · rename_i h1 h2 h3
          exact ⟨by omega, h2, h3⟩
  · rintro ⟨h1, h2, h3⟩
    rw [if_neg (by omega), if_neg h2, if_neg h3]
theorem cKind_s {B : Nat → Int32} {L t : Nat} (hB : zByt B) {n k : Nat} (hn : (n = 45 ∧ k = 3) ∨ (n = 59 ∧ k = 4)) : (sKind B L t = 3 ∧ sVal B L t = nI n) ↔ cKind B L t = k := by
  have hn2 : n < 128 := by omega
  constructor
  · rintro ⟨h1, h2⟩
    rw [sVal, if_neg (by omega), if_pos h1, uB_eq (hB t) hn2] at h2
    obtain ⟨h3, h4, h5⟩ := sKind_3.mp h1
    rw [cKind, if_neg (by omega), kd, if_neg h4, if_neg h5, h2]
    rcases hn with ⟨rfl, rfl⟩ | ⟨rfl, rfl⟩
    · rw [if_pos rfl]
    · rw [if_neg (by decide), if_pos rfl]
  · intro h
    rw [cKind] at h
    split at h
    · omega
    · rename_i h0
      have hk1 : ¬ kLet (B t) = true := fun h2 => by rw [kd_1.mpr h2] at h; omega
      have hk2 : ¬ kDig (B t) = true := fun h2 => by rw [kd_2.mpr h2] at h; omega
      have h3 : sKind B L t = 3 := sKind_3.mpr ⟨by omega, hk1, hk2⟩
      refine ⟨h3, ?_⟩
      rw [sVal, if_neg (by omega), if_pos h3, uB_eq (hB t) hn2]
      rw [kd, if_neg hk1, if_neg hk2] at h
      split at h
      · rename_i h4
        rcases hn with ⟨rfl, rfl⟩ | ⟨rfl, rfl⟩
        · exact h4
        · omega
      · split at h
        · rename_i h4
          rcases hn with ⟨rfl, rfl⟩ | ⟨rfl, rfl⟩
          · omega
          · exact h4
        · omega
theorem cKind_lt (B : Nat → Int32) (L t : Nat) : cKind B L t ≤ 5 := by
  rw [cKind]
  split
  · omega
  · exact (kd_le _).2
set_option maxHeartbeats 4000000 in
set_option maxRecDepth 20000 in
theorem c_X1_tokenNumber {E : Ev} {g : Sh} {i : Ni} {j : Nj} {K : Kp} {rd tx L t : Nat} {B : Nat → Int32} (hR : zR2 g rd tx) (h : cSt i rd tx L B t) (hK : K (.inl (some (.int (if cKind B L t = 2 then cNum B t (sEnd B L t - t) else (-1))))) g i j) : zCon E mX1_tokenNumber [.ref rd] g i j K := by
  refine zcon_of (by decide +kernel) rfl rfl (lo := [.ref rd, zJ, zJ]) rfl (fun X => ?_)
  obtain ⟨r1, r2, r3, r4⟩ := hR
  obtain ⟨p1, p2, p3, p4, p5, p6, p7, p8⟩ := id h
  have hk5 := cKind_lt B L t
  have hge := sEnd_ge B L t
  have hle := sEnd_le B L t p5
  by_cases hk : cKind B L t = 2
  · skip
    rw [if_pos hk] at hK
    have K17 : ∀ q e : Nat, e + q = sEnd B L t → t ≤ e → zR E mX1_tokenNumber (zZ E mX1_tokenNumber K) X 17 [.ref rd, .int (cNum B t (e - t)), .int (nI e)] [] g i j 0 0 := by
      intro q
      induction q with
      | zero =>
        intro e he hte
        obtain rfl : e = sEnd B L t := by omega
        refine r_iload_n qX1_tokenNumber_17 rfl ?_
        refine r_aload_n qX1_tokenNumber_18 rfl ?_
        refine r_geti qX1_tokenNumber_19 fX1_48 rfl (by assumption) ?_
        rw [p7]
        refine r_icmp_ge (t := 52) qX1_tokenNumber_22 (by decide) (fun hc22 => ?_) (fun hc22 => absurd hc22 (fun h => h (nI_le (Nat.le_refl _) (by omega))))
        refine r_iload_n qX1_tokenNumber_52 rfl ?_
        refine r_iret qX1_tokenNumber_53 rfl rfl rfl rfl ?_
        exact hK
      | succ q ih =>
        intro e he hte
        refine r_iload_n qX1_tokenNumber_17 rfl ?_
        refine r_aload_n qX1_tokenNumber_18 rfl ?_
        refine r_geti qX1_tokenNumber_19 fX1_48 rfl (by assumption) ?_
        rw [p7]
        refine r_icmp_ge (t := 52) qX1_tokenNumber_22 (by decide) (fun hc22 => absurd hc22 (nI_ge (by omega) (by omega))) (fun hc22 => ?_)
        refine r_bipush (v := nI 10) qX1_tokenNumber_25 (by decide) ?_
        refine r_iload_n qX1_tokenNumber_27 rfl ?_
        first | with_reducible refine r_imulN qX1_tokenNumber_28 ?_ | refine r_imul qX1_tokenNumber_28 ?_
        refine r_aload_n qX1_tokenNumber_29 rfl ?_
        refine r_getr qX1_tokenNumber_30 fX1_11 rfl (by assumption) (by first | assumption | rfl) ?_
        refine r_iload_n qX1_tokenNumber_33 rfl ?_
        refine r_baldN qX1_tokenNumber_34 (by assumption) (by assumption) (by omega) rfl ?_
        rw [p4]
        first | with_reducible refine r_iaddN qX1_tokenNumber_35 ?_ | refine r_iadd qX1_tokenNumber_35 ?_
        refine r_bipush (v := nI 48) qX1_tokenNumber_36 (by decide) ?_
        refine r_isub qX1_tokenNumber_38 ?_
        refine r_ldciw qX1_tokenNumber_39 lX1_263 ?_
        refine r_mmin qX1_tokenNumber_42 kX1_264 rfl rfl rfl rfl ?_
        refine r_is_3_1 qX1_tokenNumber_45 rfl rfl ?_
        refine r_ii_3_2 qX1_tokenNumber_46 rfl rfl (nI_inc e) ?_
        refine r_goto (t := 17) qX1_tokenNumber_49 (by decide) ?_
        have z := ih (e + 1) (by omega) (by omega)
        rw [show e + 1 - t = e - t + 1 by omega, cNum, show t + (e - t) = e by omega] at z
        exact z
    refine r_aload_n qX1_tokenNumber_0 rfl ?_
    refine r_geti qX1_tokenNumber_1 fX1_57 rfl (by assumption) ?_
    rw [p8, hk]
    refine r_iconst (v := nI 2) qX1_tokenNumber_4 (by decide) ?_
    refine r_icmp_eq (t := 10) qX1_tokenNumber_5 (by decide) (fun hc5 => ?_) (fun hc5 => absurd hc5 (fun h => h rfl))
    refine r_iconst (v := nI 0) qX1_tokenNumber_10 (by decide) ?_
    refine r_is_3_1 qX1_tokenNumber_11 rfl rfl ?_
    refine r_aload_n qX1_tokenNumber_12 rfl ?_
    refine r_geti qX1_tokenNumber_13 fX1_242 rfl (by assumption) ?_
    rw [p6]
    refine r_is_3_2 qX1_tokenNumber_16 rfl rfl ?_
    have z := K17 (sEnd B L t - t) t (by omega) (Nat.le_refl _)
    rw [Nat.sub_self] at z
    exact z
  · skip
    rw [if_neg hk] at hK
    refine r_aload_n qX1_tokenNumber_0 rfl ?_
    refine r_geti qX1_tokenNumber_1 fX1_57 rfl (by assumption) ?_
    rw [p8]
    refine r_iconst (v := nI 2) qX1_tokenNumber_4 (by decide) ?_
    refine r_icmp_eq (t := 10) qX1_tokenNumber_5 (by decide) (fun hc5 => absurd hc5 (fun h => hk ((nI_eq (by omega) (by omega)).mp h))) (fun hc5 => ?_)
    refine r_iconst (v := (-1)) qX1_tokenNumber_8 (by decide) ?_
    refine r_iret qX1_tokenNumber_9 rfl rfl rfl rfl ?_
    exact hK
theorem num_ok {B : Nat → Int32} {L t : Nat} {l h : Int32} (hk : sKind B L t = 2) (h9 : h.toInt ≤ 999) : (l.toInt ≤ (sVal B L t).toInt ∧ (sVal B L t).toInt ≤ h.toInt ↔ l.toInt ≤ (cNum B t (sEnd B L t - t)).toInt ∧ (cNum B t (sEnd B L t - t)).toInt ≤ h.toInt) ∧ ((cNum B t (sEnd B L t - t)).toInt ≤ h.toInt → cNum B t (sEnd B L t - t) = sVal B L t) := by
  have hd : ∀ k, k < sEnd B L t - t → kDig (B (t + k)) = true := by
    intro k hk2
    have h3 : ¬ L ≤ t := fun h => by rw [sKind_0 h] at hk; omega
    have hk1 : ¬ kLet (B t) = true := fun h2 => by rw [sKind, if_neg h3, if_pos h2] at hk; omega
    have hkd : kDig (B t) = true := Classical.byContradiction fun h2 => by rw [sKind, if_neg h3, if_neg hk1, if_neg h2] at hk; omega
    rw [sEnd, if_neg h3, if_neg hk1, if_pos hkd] at hk2
    exact sRun_all (L := L) (L - t) t (t + k) (by omega) (by omega)
  obtain ⟨m, c, e1, e2, e3, e4⟩ := num_rel _ hd
  have e5 : sVal B L t = nI m := by rw [sVal, if_pos hk]; exact e1
  rw [e5, e2, nI_toInt (show c < 2 ^ 31 by omega), nI_toInt (show m < 2 ^ 31 by rcases e3 with e3 | e3 <;> omega)]
  rcases e3 with ⟨e3, e6⟩ | ⟨e3, e6⟩
  · subst e3
    exact ⟨Iff.rfl, fun _ => rfl⟩
  · subst e3
    exact ⟨⟨fun h => by omega, fun h => by omega⟩, fun h => by omega⟩
set_option maxHeartbeats 4000000 in
set_option maxRecDepth 20000 in
theorem y_num {E : Ev} {g : Sh} {i : Ni} {j : Nj} {K : Kp} {rd tx L t : Nat} {B : Nat → Int32} {a : Nat → Nat} {N : Nat → Int32} {i0 : Ni} {l h : Int32} (hS : yS g rd tx a) (h9 : h.toInt ≤ 999) (hG : yG rd tx L B a N i0 t i) (hKy : ∀ t' v, tNum B L l h t = .ok (t', v) → ∀ i', yG rd tx L B a N i0 t' i' → K (.inl (some (.int v))) g i' j) (hKn : ∀ c w, tNum B L l h t = .error (c, w) → ∀ i', yE rd tx L B a N i0 c w i' → K (.inl (some (.int (-1)))) g i' j) : zCon E mX1_takeNumber [.ref rd, .int l, .int h] g i j K := by
  refine zcon_of (by decide +kernel) rfl rfl (lo := [.ref rd, .int l, .int h, zJ]) rfl (fun X => ?_)
  have hR := hS.1
  have r1 := hR.1
  obtain ⟨hc, ⟨h0, h04⟩, hH, hF⟩ := id hG
  obtain ⟨p1, p2, p3, p4, p5, p6, p7, p8⟩ := id hc
  have hk5 := cKind_lt B L t
  have K36b : ∀ (v c : Int32) (w : Nat) (i1 : Ni), tNum B L l h t = .error (c, w) → yE rd tx L B a N i0 c w i1 → zR E mX1_takeNumber (zZ E mX1_takeNumber K) X 36 [.ref rd, .int l, .int h, .int v] [] g i1 j 0 0 := by
    intro v c w i1 he e
    refine r_aload_n qX1_takeNumber_36 rfl ?_
    refine r_cv0 (cu2 := 0) (su2 := 0) qX1_takeNumber_37 kX1_51 rfl (by decide +kernel) (c := 1) (by assumption) (by decide) rfl rfl rfl rfl rfl rfl ?_
    refine y_nextE hS e (fun i2 e2 => ?_)
    show zR E _ _ X 40 _ _ _ _ _ _ _
    refine r_aload_n qX1_takeNumber_40 rfl ?_
    refine r_geti qX1_takeNumber_41 fX1_45 rfl (by assumption) ?_
    rw [e2.2.1]
    refine r_if_ne (t := 51) qX1_takeNumber_44 (by decide) (fun hc44 => ?_) (fun hc44 => absurd hc44 (e2.2.2.1))
    refine r_iconst (v := (-1)) qX1_takeNumber_51 (by decide) ?_
    refine r_iret qX1_takeNumber_52 rfl rfl rfl rfl ?_
    exact hKn c w he i2 e2
  by_cases hk : sKind B L t = 2
  · skip
    have hk2 := cKind_2.mp hk
    have hno := num_ok (l := l) hk h9
    by_cases hy : okN B L t l h
    · skip
      have hy2 := hno.1.mp hy.2
      have hv := hno.2 hy2.2
      have hyv := hy.2
      have eT : tNum B L l h t = .ok (sNext B L t, sVal B L t) := by rw [tNum, if_pos hy]
      refine r_aload_n qX1_takeNumber_0 rfl ?_
      refine r_cv0 (cu2 := 0) (su2 := 0) qX1_takeNumber_1 kX1_245 rfl (by decide +kernel) (c := 1) (by assumption) (by decide) rfl rfl rfl rfl rfl rfl ?_
      refine c_X1_tokenNumber hR hc ?_
      show zR E _ _ X 4 _ _ _ _ _ _ _
      rw [if_pos hk2, hv]
      refine r_is_4_3 qX1_takeNumber_4 rfl rfl ?_
      refine r_aload_n qX1_takeNumber_5 rfl ?_
      refine r_geti qX1_takeNumber_6 fX1_57 rfl (by assumption) ?_
      rw [p8, hk2]
      refine r_iconst (v := nI 2) qX1_takeNumber_9 (by decide) ?_
      refine r_icmp_eq (t := 21) qX1_takeNumber_10 (by decide) (fun hc10 => ?_) (fun hc10 => absurd hc10 (fun h => h rfl))
      refine r_iload_n qX1_takeNumber_21 rfl ?_
      refine r_iload_n qX1_takeNumber_22 rfl ?_
      refine r_icmp_lt (t := 31) qX1_takeNumber_23 (by decide) (fun hc23 => absurd hc23 (fun h => absurd h (Int32.not_lt.mpr (Int32.le_iff_toInt_le.mpr hyv.1)))) (fun hc23 => ?_)
      refine r_iload_n qX1_takeNumber_26 rfl ?_
      refine r_iload_n qX1_takeNumber_27 rfl ?_
      refine r_icmp_le (t := 36) qX1_takeNumber_28 (by decide) (fun hc28 => ?_) (fun hc28 => absurd hc28 (fun h => h (Int32.le_iff_toInt_le.mpr hyv.2)))
      refine r_aload_n qX1_takeNumber_36 rfl ?_
      refine r_cv0 (cu2 := 0) (su2 := 0) qX1_takeNumber_37 kX1_51 rfl (by decide +kernel) (c := 1) (by assumption) (by decide) rfl rfl rfl rfl rfl rfl ?_
      refine y_nextG hS hG (fun i2 G2 => ?_)
      show zR E _ _ X 40 _ _ _ _ _ _ _
      refine r_aload_n qX1_takeNumber_40 rfl ?_
      refine r_geti qX1_takeNumber_41 fX1_45 rfl (by assumption) ?_
      rw [G2.2.1.1]
      refine r_if_ne (t := 51) qX1_takeNumber_44 (by decide) (fun hc44 => absurd hc44 (fun h => h rfl)) (fun hc44 => ?_)
      refine r_iload_n qX1_takeNumber_47 rfl ?_
      refine r_goto (t := 52) qX1_takeNumber_48 (by decide) ?_
      refine r_iret qX1_takeNumber_52 rfl rfl rfl rfl ?_
      exact hKy _ _ eT i2 G2
    · skip
      have eT : tNum B L l h t = .error (nI 2, t) := by rw [tNum, if_neg hy, if_pos hk]
      have hy2 : ¬ (l.toInt ≤ (cNum B t (sEnd B L t - t)).toInt ∧ (cNum B t (sEnd B L t - t)).toInt ≤ h.toInt) := fun q => hy ⟨hk, hno.1.mpr q⟩
      refine r_aload_n qX1_takeNumber_0 rfl ?_
      refine r_cv0 (cu2 := 0) (su2 := 0) qX1_takeNumber_1 kX1_245 rfl (by decide +kernel) (c := 1) (by assumption) (by decide) rfl rfl rfl rfl rfl rfl ?_
      refine c_X1_tokenNumber hR hc ?_
      show zR E _ _ X 4 _ _ _ _ _ _ _
      rw [if_pos hk2]
      refine r_is_4_3 qX1_takeNumber_4 rfl rfl ?_
      refine r_aload_n qX1_takeNumber_5 rfl ?_
      refine r_geti qX1_takeNumber_6 fX1_57 rfl (by assumption) ?_
      rw [p8, hk2]
      refine r_iconst (v := nI 2) qX1_takeNumber_9 (by decide) ?_
      refine r_icmp_eq (t := 21) qX1_takeNumber_10 (by decide) (fun hc10 => ?_) (fun hc10 => absurd hc10 (fun h => h rfl))
      refine r_iload_n qX1_takeNumber_21 rfl ?_
      refine r_iload_n qX1_takeNumber_22 rfl ?_
      refine r_icmp_lt (t := 31) qX1_takeNumber_23 (by decide) (fun hc23 => ?_) (fun hc23 => ?_)
      · refine r_aload_n qX1_takeNumber_31 rfl ?_
        refine r_iconst (v := nI 2) qX1_takeNumber_32 (by decide) ?_
        refine r_cv1 (cu2 := 0) (su2 := 0) qX1_takeNumber_33 kX1_67 rfl (by decide +kernel) (c := 1) (by assumption) (by decide) rfl rfl rfl rfl rfl rfl ?_
        refine c_X1_fail r1 h0 ?_
        rw [p6]
        show zR E _ _ X 36 _ _ _ _ _ _ _
        exact K36b _ _ _ _ eT (hG.bad hS (by decide))
      · refine r_iload_n qX1_takeNumber_26 rfl ?_
        refine r_iload_n qX1_takeNumber_27 rfl ?_
        refine r_icmp_le (t := 36) qX1_takeNumber_28 (by decide) (fun hc28 => ?_) (fun hc28 => ?_)
        · exact absurd ⟨Int32.le_iff_toInt_le.mp (Int32.not_lt.mp hc23), Int32.le_iff_toInt_le.mp hc28⟩ hy2
        · refine r_aload_n qX1_takeNumber_31 rfl ?_
          refine r_iconst (v := nI 2) qX1_takeNumber_32 (by decide) ?_
          refine r_cv1 (cu2 := 0) (su2 := 0) qX1_takeNumber_33 kX1_67 rfl (by decide +kernel) (c := 1) (by assumption) (by decide) rfl rfl rfl rfl rfl rfl ?_
          refine c_X1_fail r1 h0 ?_
          rw [p6]
          show zR E _ _ X 36 _ _ _ _ _ _ _
          exact K36b _ _ _ _ eT (hG.bad hS (by decide))
  · skip
    have hk2 : ¬ cKind B L t = 2 := fun q => hk (cKind_2.mpr q)
    have eT : tNum B L l h t = .error (nI 1, t) := by rw [tNum, if_neg (fun q => hk q.1), if_neg hk]
    refine r_aload_n qX1_takeNumber_0 rfl ?_
    refine r_cv0 (cu2 := 0) (su2 := 0) qX1_takeNumber_1 kX1_245 rfl (by decide +kernel) (c := 1) (by assumption) (by decide) rfl rfl rfl rfl rfl rfl ?_
    refine c_X1_tokenNumber hR hc ?_
    show zR E _ _ X 4 _ _ _ _ _ _ _
    rw [if_neg hk2]
    refine r_is_4_3 qX1_takeNumber_4 rfl rfl ?_
    refine r_aload_n qX1_takeNumber_5 rfl ?_
    refine r_geti qX1_takeNumber_6 fX1_57 rfl (by assumption) ?_
    rw [p8]
    refine r_iconst (v := nI 2) qX1_takeNumber_9 (by decide) ?_
    refine r_icmp_eq (t := 21) qX1_takeNumber_10 (by decide) (fun hc10 => absurd hc10 (fun h => hk2 ((nI_eq (by omega) (by omega)).mp h))) (fun hc10 => ?_)
    refine r_aload_n qX1_takeNumber_13 rfl ?_
    refine r_iconst (v := nI 1) qX1_takeNumber_14 (by decide) ?_
    refine r_cv1 (cu2 := 0) (su2 := 0) qX1_takeNumber_15 kX1_67 rfl (by decide +kernel) (c := 1) (by assumption) (by decide) rfl rfl rfl rfl rfl rfl ?_
    refine c_X1_fail r1 h0 ?_
    rw [p6]
    show zR E _ _ X 18 _ _ _ _ _ _ _
    refine r_goto (t := 36) qX1_takeNumber_18 (by decide) ?_
    exact K36b _ _ _ _ eT (hG.bad hS (by decide))
set_option maxHeartbeats 4000000 in
set_option maxRecDepth 20000 in
theorem yE_num {E : Ev} {g : Sh} {i : Ni} {j : Nj} {K : Kp} {rd tx L : Nat} {B : Nat → Int32} {a : Nat → Nat} {N : Nat → Int32} {i0 : Ni} {l h c : Int32} {w : Nat} (hS : yS g rd tx a) (e : yE rd tx L B a N i0 c w i) (hK : ∀ i', yE rd tx L B a N i0 c w i' → K (.inl (some (.int (-1)))) g i' j) : zCon E mX1_takeNumber [.ref rd, .int l, .int h] g i j K := by
  refine zcon_of (by decide +kernel) rfl rfl (lo := [.ref rd, .int l, .int h, zJ]) rfl (fun X => ?_)
  have hR := hS.1
  have r1 := hR.1
  obtain ⟨⟨t, hc⟩, e3, e0, e4, e5, e6⟩ := id e
  have h0 : ¬ i rd 3 = 0 := by rw [e3]; exact e0
  refine r_aload_n qX1_takeNumber_0 rfl ?_
  refine r_cv0 (cu2 := 0) (su2 := 0) qX1_takeNumber_1 kX1_245 rfl (by decide +kernel) (c := 1) (by assumption) (by decide) rfl rfl rfl rfl rfl rfl ?_
  refine c_X1_tokenNumber hR hc ?_
  show zR E _ _ X 4 _ _ _ _ _ _ _
  refine r_is_4_3 qX1_takeNumber_4 rfl rfl ?_
  refine r_aload_n qX1_takeNumber_5 rfl ?_
  refine r_geti qX1_takeNumber_6 fX1_57 rfl (by assumption) ?_
  refine r_iconst (v := nI 2) qX1_takeNumber_9 (by decide) ?_
  refine r_icmp_eq (t := 21) qX1_takeNumber_10 (by decide) (fun hc10 => ?_) (fun hc10 => ?_)
  · refine r_iload_n qX1_takeNumber_21 rfl ?_
    refine r_iload_n qX1_takeNumber_22 rfl ?_
    refine r_icmp_lt (t := 31) qX1_takeNumber_23 (by decide) (fun hc23 => ?_) (fun hc23 => ?_)
    · refine r_aload_n qX1_takeNumber_31 rfl ?_
      refine r_iconst (v := nI 2) qX1_takeNumber_32 (by decide) ?_
      refine r_cv1 (cu2 := 0) (su2 := 0) qX1_takeNumber_33 kX1_67 rfl (by decide +kernel) (c := 1) (by assumption) (by decide) rfl rfl rfl rfl rfl rfl ?_
      refine cE_fail r1 h0 ?_
      show zR E _ _ X 36 _ _ _ _ _ _ _
      refine r_aload_n qX1_takeNumber_36 rfl ?_
      refine r_cv0 (cu2 := 0) (su2 := 0) qX1_takeNumber_37 kX1_51 rfl (by decide +kernel) (c := 1) (by assumption) (by decide) rfl rfl rfl rfl rfl rfl ?_
      refine y_nextE hS e (fun i2 e2 => ?_)
      show zR E _ _ X 40 _ _ _ _ _ _ _
      refine r_aload_n qX1_takeNumber_40 rfl ?_
      refine r_geti qX1_takeNumber_41 fX1_45 rfl (by assumption) ?_
      rw [e2.2.1]
      refine r_if_ne (t := 51) qX1_takeNumber_44 (by decide) (fun hc44 => ?_) (fun hc44 => absurd hc44 (e2.2.2.1))
      refine r_iconst (v := (-1)) qX1_takeNumber_51 (by decide) ?_
      refine r_iret qX1_takeNumber_52 rfl rfl rfl rfl ?_
      exact hK i2 e2
    · refine r_iload_n qX1_takeNumber_26 rfl ?_
      refine r_iload_n qX1_takeNumber_27 rfl ?_
      refine r_icmp_le (t := 36) qX1_takeNumber_28 (by decide) (fun hc28 => ?_) (fun hc28 => ?_)
      · refine r_aload_n qX1_takeNumber_36 rfl ?_
        refine r_cv0 (cu2 := 0) (su2 := 0) qX1_takeNumber_37 kX1_51 rfl (by decide +kernel) (c := 1) (by assumption) (by decide) rfl rfl rfl rfl rfl rfl ?_
        refine y_nextE hS e (fun i2 e2 => ?_)
        show zR E _ _ X 40 _ _ _ _ _ _ _
        refine r_aload_n qX1_takeNumber_40 rfl ?_
        refine r_geti qX1_takeNumber_41 fX1_45 rfl (by assumption) ?_
        rw [e2.2.1]
        refine r_if_ne (t := 51) qX1_takeNumber_44 (by decide) (fun hc44 => ?_) (fun hc44 => absurd hc44 (e2.2.2.1))
        refine r_iconst (v := (-1)) qX1_takeNumber_51 (by decide) ?_
        refine r_iret qX1_takeNumber_52 rfl rfl rfl rfl ?_
        exact hK i2 e2
      · refine r_aload_n qX1_takeNumber_31 rfl ?_
        refine r_iconst (v := nI 2) qX1_takeNumber_32 (by decide) ?_
        refine r_cv1 (cu2 := 0) (su2 := 0) qX1_takeNumber_33 kX1_67 rfl (by decide +kernel) (c := 1) (by assumption) (by decide) rfl rfl rfl rfl rfl rfl ?_
        refine cE_fail r1 h0 ?_
        show zR E _ _ X 36 _ _ _ _ _ _ _
        refine r_aload_n qX1_takeNumber_36 rfl ?_
        refine r_cv0 (cu2 := 0) (su2 := 0) qX1_takeNumber_37 kX1_51 rfl (by decide +kernel) (c := 1) (by assumption) (by decide) rfl rfl rfl rfl rfl rfl ?_
        refine y_nextE hS e (fun i2 e2 => ?_)
        show zR E _ _ X 40 _ _ _ _ _ _ _
        refine r_aload_n qX1_takeNumber_40 rfl ?_
        refine r_geti qX1_takeNumber_41 fX1_45 rfl (by assumption) ?_
        rw [e2.2.1]
        refine r_if_ne (t := 51) qX1_takeNumber_44 (by decide) (fun hc44 => ?_) (fun hc44 => absurd hc44 (e2.2.2.1))
        refine r_iconst (v := (-1)) qX1_takeNumber_51 (by decide) ?_
        refine r_iret qX1_takeNumber_52 rfl rfl rfl rfl ?_
        exact hK i2 e2
  · refine r_aload_n qX1_takeNumber_13 rfl ?_
    refine r_iconst (v := nI 1) qX1_takeNumber_14 (by decide) ?_
    refine r_cv1 (cu2 := 0) (su2 := 0) qX1_takeNumber_15 kX1_67 rfl (by decide +kernel) (c := 1) (by assumption) (by decide) rfl rfl rfl rfl rfl rfl ?_
    refine cE_fail r1 h0 ?_
    show zR E _ _ X 18 _ _ _ _ _ _ _
    refine r_goto (t := 36) qX1_takeNumber_18 (by decide) ?_
    refine r_aload_n qX1_takeNumber_36 rfl ?_
    refine r_cv0 (cu2 := 0) (su2 := 0) qX1_takeNumber_37 kX1_51 rfl (by decide +kernel) (c := 1) (by assumption) (by decide) rfl rfl rfl rfl rfl rfl ?_
    refine y_nextE hS e (fun i2 e2 => ?_)
    show zR E _ _ X 40 _ _ _ _ _ _ _
    refine r_aload_n qX1_takeNumber_40 rfl ?_
    refine r_geti qX1_takeNumber_41 fX1_45 rfl (by assumption) ?_
    rw [e2.2.1]
    refine r_if_ne (t := 51) qX1_takeNumber_44 (by decide) (fun hc44 => ?_) (fun hc44 => absurd hc44 (e2.2.2.1))
    refine r_iconst (v := (-1)) qX1_takeNumber_51 (by decide) ?_
    refine r_iret qX1_takeNumber_52 rfl rfl rfl rfl ?_
    exact hK i2 e2


