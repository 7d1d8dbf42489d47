/-! ===== THE CLASS: A GALLERY. Its cells a 0 .. a 29, what it holds N ===== -/
def pk27 : List Nat → Nat → Nat
  | [], v => v
  | x :: l, v => pk27 l (27 * v + x)
def pk8 : List Nat → Nat → Nat
  | [], v => v
  | x :: l, v => pk8 l (256 * v + (x + 96))
/-- the name p of the class is the name w of l letters of the model -/
def zNx (p w l : Int32) : Prop := ∃ xs : List Nat, 1 ≤ xs.length ∧ xs.length ≤ 4 ∧ (∀ x ∈ xs, 1 ≤ x ∧ x ≤ 26) ∧ w = nI (pk27 xs 0) ∧ l = nI xs.length ∧ p = nI (pk8 xs 0)
def sAdd (f : Nat → Int32) : Nat → Int32
  | 0 => nI 0
  | k + 1 => sAdd f k + f k
def zC (g : Sh) (a : Nat → Nat) : Prop := gT g (a 0) = 1 ∧ gR g (a 0) 0 = a 1 ∧ gR g (a 0) 1 = a 2 ∧ gR g (a 0) 2 = a 3 ∧ gR g (a 0) 3 = a 4 ∧ gR g (a 0) 4 = a 5 ∧ gT g (a 1) = 11 ∧ gL g (a 1) = 5 ∧ gT g (a 2) = 11 ∧ gL g (a 2) = 5 ∧ gT g (a 3) = 11 ∧ gL g (a 3) = 4 ∧ gT g (a 4) = 11 ∧ gL g (a 4) = 4 ∧ gT g (a 5) = 15 ∧ gL g (a 5) = 8 ∧
  (∀ k, k < 8 → gR g (a 5) k = a (6 + 3 * k) ∧ zT3 g (a (6 + 3 * k)) (a (7 + 3 * k)) (a (8 + 3 * k))) ∧ ∀ p q, p < 30 → q < 30 → a p = a q → p = q
def gH (C : Nat → Nat → Int32) (N : Nat → Int32) : Prop :=
  (C 0 5 = N 3 ∧ C 0 6 = N 4 ∧ C 0 7 = N 5 ∧ C 0 8 = N 2 ∧ C 0 9 = N 0 ∧ C 0 10 = N 1 ∧ C 0 11 = N 6 ∧ C 0 12 = N 7) ∧
  (∀ s, s < zn (N 3) → C 2 s = N (10 + 4 * s + 2) ∧ zNx (C 1 s) (N (10 + 4 * s + 0)) (N (10 + 4 * s + 1))) ∧
  (∀ b, b < zn (N 4) → C 4 b = N (30 + 3 * b + 2) ∧ zNx (C 3 b) (N (30 + 3 * b + 0)) (N (30 + 3 * b + 1))) ∧
  (∀ k, k < zn (N 5) → tH (C (6 + 3 * k)) (C (7 + 3 * k)) (C (8 + 3 * k)) N k ∧ C (6 + 3 * k) 5 = C 1 (zn (N (42 + 21 * k + 0)))) ∧
  sAdd (fun k => C (6 + 3 * k) 14) (zn (N 5)) = N 8 ∧ (∀ s, s < zn (N 3) → sAdd (fun k => if N (42 + 21 * k + 0) = nI s then C (6 + 3 * k) 15 else nI 0) (zn (N 5)) = N (10 + 4 * s + 3)) ∧ ∀ z, z < 8 → C (6 + 3 * z) 0 = nI z
def zH (i : Ni) (a : Nat → Nat) (N : Nat → Int32) : Prop := zOk N ∧ gH (fun c => i (a c)) N
theorem zH.cnt {i : Ni} {a : Nat → Nat} {N : Nat → Int32} (h : zH i a N) : i (a 0) 5 = N 3 ∧ i (a 0) 6 = N 4 ∧ i (a 0) 7 = N 5 ∧ i (a 0) 8 = N 2 ∧ i (a 0) 9 = N 0 ∧ i (a 0) 10 = N 1 ∧ i (a 0) 11 = N 6 ∧ i (a 0) 12 = N 7 := h.2.1
theorem zH.sp {i : Ni} {a : Nat → Nat} {N : Nat → Int32} (h : zH i a N) {s : Nat} (hs : s < zn (N 3)) : i (a 2) s = N (10 + 4 * s + 2) ∧ zNx (i (a 1) s) (N (10 + 4 * s + 0)) (N (10 + 4 * s + 1)) := h.2.2.1 s hs
theorem zH.ba {i : Ni} {a : Nat → Nat} {N : Nat → Int32} (h : zH i a N) {s : Nat} (hs : s < zn (N 4)) : i (a 4) s = N (30 + 3 * s + 2) ∧ zNx (i (a 3) s) (N (30 + 3 * s + 0)) (N (30 + 3 * s + 1)) := h.2.2.2.1 s hs
theorem zH.tu {i : Ni} {a : Nat → Nat} {N : Nat → Int32} (h : zH i a N) {k : Nat} (hk : k < zn (N 5)) : tH (i (a (6 + 3 * k))) (i (a (7 + 3 * k))) (i (a (8 + 3 * k))) N k := (h.2.2.2.2.1 k hk).1
theorem zH.na {i : Ni} {a : Nat → Nat} {N : Nat → Int32} (h : zH i a N) {k : Nat} (hk : k < zn (N 5)) : i (a (6 + 3 * k)) 5 = i (a 1) (zn (N (42 + 21 * k + 0))) := (h.2.2.2.2.1 k hk).2
theorem zH.giv {i : Ni} {a : Nat → Nat} {N : Nat → Int32} (h : zH i a N) : sAdd (fun k => i (a (6 + 3 * k)) 14) (zn (N 5)) = N 8 := h.2.2.2.2.2.1
theorem zH.los {i : Ni} {a : Nat → Nat} {N : Nat → Int32} (h : zH i a N) {s : Nat} (hs : s < zn (N 3)) : sAdd (fun k => if N (42 + 21 * k + 0) = nI s then i (a (6 + 3 * k)) 15 else nI 0) (zn (N 5)) = N (10 + 4 * s + 3) := h.2.2.2.2.2.2.1 s hs
theorem zH.no {i : Ni} {a : Nat → Nat} {N : Nat → Int32} (h : zH i a N) : ∀ z, z < 8 → i (a (6 + 3 * z)) 0 = nI z := h.2.2.2.2.2.2.2
theorem zC.tb {g : Sh} {a : Nat → Nat} (h : zC g a) {k : Nat} (hk : k < 8) : gR g (a 5) k = a (6 + 3 * k) ∧ zT3 g (a (6 + 3 * k)) (a (7 + 3 * k)) (a (8 + 3 * k)) := by
  obtain ⟨-, -, -, -, -, -, -, -, -, -, -, -, -, -, -, -, h17, -⟩ := h
  exact h17 k hk
theorem zC.inj {g : Sh} {a : Nat → Nat} (h : zC g a) {p q : Nat} (hp : p < 30) (hq : q < 30) (hne : p ≠ q) : a p ≠ a q := by
  obtain ⟨-, -, -, -, -, -, -, -, -, -, -, -, -, -, -, -, -, h18⟩ := h
  exact fun e => hne (h18 p q hp hq e)
theorem not_neg {b : Nat} (h : b < 2 ^ 31) : ¬ nI b < 0 := Int32.not_lt.mpr (by rw [← nI_0]; exact nI_le (Nat.zero_le _) h)
theorem nb_m1 {b : Nat} (h : b < 2 ^ 31) : ¬ nI b = -1 := fun e => by
  have := not_neg h
  rw [e] at this
  exact this (by decide)
set_option maxHeartbeats 4000000 in
set_option maxRecDepth 20000 in
theorem c_X0_tenthsAround {E : Ev} {g : Sh} {i : Ni} {j : Nj} {K : Kp} {a : Nat → Nat} {N : Nat → Int32} {k : Nat} (hC : zC g a) (hH : zH i a N) (hk : k < zn (N 5)) (hK : K (.inl (some (.int (sAround N k)))) g i j) : zCon E mX0_tenthsAround [.ref (a 0), .ref (a (6 + 3 * k))] g i j K := by
  refine zcon_of (by decide +kernel) rfl rfl (lo := [.ref (a 0), .ref (a (6 + 3 * k))]) rfl (fun X => ?_)
  have hO := hH.1
  have h8 := hO.k8 hk
  obtain ⟨-, hT⟩ := hC.tb h8
  have u1 := hT.1
  obtain ⟨a1, a2, a3, a4, a5, a6, a7, a8, a9, a10, a11, a12, a13, a14, a15, a16, -⟩ := id hC
  obtain ⟨c5, c6, c7, c8, c9, c10, c11, c12⟩ := hH.cnt
  obtain ⟨f0, f3, f4, f6, f7, f8, f9, f10, f11, f12, f13, fP⟩ := hH.tu hk
  obtain ⟨-, -, -, -, -, -, -, b7, -⟩ := hO.tu hk
  obtain ⟨hB, hB4⟩ := hO.B4
  rcases b7 with hb | ⟨b, hb, hbB⟩
  · skip
    refine r_aload_n qX0_tenthsAround_0 rfl ?_
    refine r_geti qX0_tenthsAround_1 fX0_37 rfl (by assumption) ?_
    rw [c11]
    refine r_aload_n qX0_tenthsAround_4 rfl ?_
    refine r_geti qX0_tenthsAround_5 fX0_76 rfl (by assumption) ?_
    rw [f0]
    refine r_icmp_ne (t := 15) qX0_tenthsAround_8 (by decide) (fun hc8 => ?_) (fun hc8 => ?_)
    · refine r_aload_n qX0_tenthsAround_15 rfl ?_
      refine r_geti qX0_tenthsAround_16 fX0_79 rfl (by assumption) ?_
      rw [f12, hb]
      refine r_if_lt (t := 46) qX0_tenthsAround_19 (by decide) (fun hc19 => ?_) (fun hc19 => absurd hc19 (by decide))
      refine r_bipush (v := nI 10) qX0_tenthsAround_46 (by decide) ?_
      refine r_aload_n qX0_tenthsAround_48 rfl ?_
      refine r_geti qX0_tenthsAround_49 fX0_58 rfl (by assumption) ?_
      rw [c9]
      first | with_reducible refine r_imulN qX0_tenthsAround_52 ?_ | refine r_imul qX0_tenthsAround_52 ?_
      refine r_iret qX0_tenthsAround_53 rfl rfl rfl rfl ?_
      rw [sAround, if_neg hc8, if_pos hb] at hK; exact hK
    · refine r_sipush (v := nI 370) qX0_tenthsAround_11 (by decide) ?_
      refine r_iret qX0_tenthsAround_14 rfl rfl rfl rfl ?_
      rw [sAround, if_pos hc8] at hK; exact hK
  · skip
    refine r_aload_n qX0_tenthsAround_0 rfl ?_
    refine r_geti qX0_tenthsAround_1 fX0_37 rfl (by assumption) ?_
    rw [c11]
    refine r_aload_n qX0_tenthsAround_4 rfl ?_
    refine r_geti qX0_tenthsAround_5 fX0_76 rfl (by assumption) ?_
    rw [f0]
    refine r_icmp_ne (t := 15) qX0_tenthsAround_8 (by decide) (fun hc8 => ?_) (fun hc8 => ?_)
    · refine r_aload_n qX0_tenthsAround_15 rfl ?_
      refine r_geti qX0_tenthsAround_16 fX0_79 rfl (by assumption) ?_
      rw [f12, hb]
      refine r_if_lt (t := 46) qX0_tenthsAround_19 (by decide) (fun hc19 => absurd hc19 (not_neg (by omega))) (fun hc19 => ?_)
      refine r_aload_n qX0_tenthsAround_22 rfl ?_
      refine r_geti qX0_tenthsAround_23 fX0_79 rfl (by assumption) ?_
      rw [f12, hb]
      refine r_aload_n qX0_tenthsAround_26 rfl ?_
      refine r_geti qX0_tenthsAround_27 fX0_49 rfl (by assumption) ?_
      rw [c6, hB]
      refine r_icmp_ge (t := 46) qX0_tenthsAround_30 (by decide) (fun hc30 => absurd hc30 (nI_ge hbB (by omega))) (fun hc30 => ?_)
      refine r_bipush (v := nI 10) qX0_tenthsAround_33 (by decide) ?_
      refine r_aload_n qX0_tenthsAround_35 rfl ?_
      refine r_getr qX0_tenthsAround_36 fX0_21 rfl (by assumption) (by first | assumption | rfl) ?_
      refine r_aload_n qX0_tenthsAround_39 rfl ?_
      refine r_geti qX0_tenthsAround_40 fX0_79 rfl (by assumption) ?_
      rw [f12, hb]
      refine r_ialdN qX0_tenthsAround_43 (by assumption) (by assumption) (by omega) rfl ?_
      rw [(hH.ba hbB).1]
      first | with_reducible refine r_imulN qX0_tenthsAround_44 ?_ | refine r_imul qX0_tenthsAround_44 ?_
      refine r_iret qX0_tenthsAround_45 rfl rfl rfl rfl ?_
      rw [sAround, if_neg hc8, hb, if_neg (nb_m1 (by omega)), zn_nI (by omega)] at hK; exact hK
    · refine r_sipush (v := nI 370) qX0_tenthsAround_11 (by decide) ?_
      refine r_iret qX0_tenthsAround_14 rfl rfl rfl rfl ?_
      rw [sAround, if_pos hc8] at hK; exact hK
set_option maxHeartbeats 4000000 in
set_option maxRecDepth 20000 in
theorem c_X0_atRest {E : Ev} {g : Sh} {i : Ni} {j : Nj} {K : Kp} {a : Nat → Nat} {N : Nat → Int32} {k : Nat} (hC : zC g a) (hH : zH i a N) (hk : k < zn (N 5)) (hK : K (.inl (some (.int (zb (N (42 + 21 * k + 5) = sAround N k))))) g i j) : zCon E mX0_atRest [.ref (a 0), .ref (a (6 + 3 * k))] g i j K := by
  refine zcon_of (by decide +kernel) rfl rfl (lo := [.ref (a 0), .ref (a (6 + 3 * k))]) rfl (fun X => ?_)
  have hO := hH.1
  have h8 := hO.k8 hk
  obtain ⟨-, hT⟩ := hC.tb h8
  have u1 := hT.1
  have a1 := hC.1
  obtain ⟨f0, f3, f4, f6, f7, f8, f9, f10, f11, f12, f13, fP⟩ := hH.tu hk
  refine r_aload_n qX0_atRest_0 rfl ?_
  refine r_geti qX0_atRest_1 fX0_82 rfl (by assumption) ?_
  rw [f11]
  refine r_aload_n qX0_atRest_4 rfl ?_
  refine r_aload_n qX0_atRest_5 rfl ?_
  refine r_cv1 (cu2 := 0) (su2 := 0) qX0_atRest_6 kX0_85 rfl (by decide +kernel) (c := 0) (by assumption) (by decide) rfl rfl rfl rfl rfl rfl ?_
  refine c_X0_tenthsAround (by first | assumption | omega | rfl | decide) (by first | assumption | omega | rfl | decide) (by first | assumption | omega | rfl | decide) ?_
  show zR E _ _ X 9 _ _ _ _ _ _ _
  refine r_icmp_ne (t := 16) qX0_atRest_9 (by decide) (fun hc9 => ?_) (fun hc9 => ?_)
  · refine r_iconst (v := nI 0) qX0_atRest_16 (by decide) ?_
    refine r_iret qX0_atRest_17 rfl (by first | decide | exact zb_nar _ | assumption) rfl rfl ?_
    first | (rw [zb_t hc9] at hK; exact hK) | (rw [zb_f hc9] at hK; exact hK)
  · refine r_iconst (v := nI 1) qX0_atRest_12 (by decide) ?_
    refine r_goto (t := 17) qX0_atRest_13 (by decide) ?_
    refine r_iret qX0_atRest_17 rfl (by first | decide | exact zb_nar _ | assumption) rfl rfl ?_
    first | (rw [zb_t hc9] at hK; exact hK) | (rw [zb_f hc9] at hK; exact hK)
set_option maxHeartbeats 4000000 in
set_option maxRecDepth 20000 in
theorem c_X0_whyNotDip {E : Ev} {g : Sh} {i : Ni} {j : Nj} {K : Kp} {a : Nat → Nat} {N : Nat → Int32} {k : Nat} {b : Int32} (hC : zC g a) (hH : zH i a N) (hk : k < zn (N 5)) (hK : K (.inl (some (.int (sDip N k b)))) g i j) : zCon E mX0_whyNotDip [.ref (a 0), .ref (a (6 + 3 * k)), .int b] g i j K := by
  refine zcon_of (by decide +kernel) rfl rfl (lo := [.ref (a 0), .ref (a (6 + 3 * k)), .int b]) rfl (fun X => ?_)
  have hO := hH.1
  have h8 := hO.k8 hk
  obtain ⟨-, hT⟩ := hC.tb h8
  have u1 := hT.1
  have a1 := hC.1
  obtain ⟨c5, c6, c7, c8, c9, c10, c11, c12⟩ := hH.cnt
  obtain ⟨f0, f3, f4, f6, f7, f8, f9, f10, f11, f12, f13, fP⟩ := hH.tu hk
  refine r_aload_n qX0_whyNotDip_0 rfl ?_
  refine r_geti qX0_whyNotDip_1 fX0_79 rfl (by assumption) ?_
  rw [f12]
  refine r_iload_n qX0_whyNotDip_4 rfl ?_
  refine r_icmp_ne (t := 10) qX0_whyNotDip_5 (by decide) (fun hc5 => ?_) (fun hc5 => ?_)
  · refine r_aload_n qX0_whyNotDip_10 rfl ?_
    refine r_geti qX0_whyNotDip_11 fX0_37 rfl (by assumption) ?_
    rw [c11]
    refine r_aload_n qX0_whyNotDip_14 rfl ?_
    refine r_geti qX0_whyNotDip_15 fX0_76 rfl (by assumption) ?_
    rw [f0]
    refine r_icmp_ne (t := 25) qX0_whyNotDip_18 (by decide) (fun hc18 => ?_) (fun hc18 => ?_)
    · refine r_iconst (v := nI 0) qX0_whyNotDip_25 (by decide) ?_
      refine r_iret qX0_whyNotDip_26 rfl rfl rfl rfl ?_
      first | (rw [sDip, if_neg hc5, if_pos hc18] at hK; exact hK) | (rw [sDip, if_neg hc5, if_neg hc18] at hK; exact hK)
    · refine r_iconst (v := nI 2) qX0_whyNotDip_21 (by decide) ?_
      refine r_goto (t := 26) qX0_whyNotDip_22 (by decide) ?_
      refine r_iret qX0_whyNotDip_26 rfl rfl rfl rfl ?_
      first | (rw [sDip, if_neg hc5, if_pos hc18] at hK; exact hK) | (rw [sDip, if_neg hc5, if_neg hc18] at hK; exact hK)
  · refine r_iconst (v := nI 1) qX0_whyNotDip_8 (by decide) ?_
    refine r_iret qX0_whyNotDip_9 rfl rfl rfl rfl ?_
    rw [sDip, if_pos hc5] at hK; exact hK
set_option maxHeartbeats 4000000 in
set_option maxRecDepth 20000 in
theorem c_X0_whyNotMark {E : Ev} {g : Sh} {i : Ni} {j : Nj} {K : Kp} {a : Nat → Nat} {N : Nat → Int32} {k : Nat} (hC : zC g a) (hH : zH i a N) (hk : k < zn (N 5)) (hK : K (.inl (some (.int (sMark N k)))) g i j) : zCon E mX0_whyNotMark [.ref (a 0), .ref (a (6 + 3 * k))] g i j K := by
  refine zcon_of (by decide +kernel) rfl rfl (lo := [.ref (a 0), .ref (a (6 + 3 * k))]) rfl (fun X => ?_)
  have hO := hH.1
  have h8 := hO.k8 hk
  obtain ⟨-, hT⟩ := hC.tb h8
  have u1 := hT.1
  obtain ⟨a1, a2, a3, a4, a5, a6, a7, a8, a9, a10, a11, a12, a13, a14, a15, a16, -⟩ := id hC
  obtain ⟨c5, c6, c7, c8, c9, c10, c11, c12⟩ := hH.cnt
  have hU := hH.tu hk
  obtain ⟨f0, f3, f4, f6, f7, f8, f9, f10, f11, f12, f13, fP⟩ := id hU
  obtain ⟨-, -, -, -, -, -, -, b7, -⟩ := hO.tu hk
  obtain ⟨hB, hB4⟩ := hO.B4
  obtain ⟨hm, hm6⟩ := hO.many hk
  rcases b7 with hb | ⟨b, hb, hbB⟩
  · skip
    refine r_aload_n qX0_whyNotMark_0 rfl ?_
    refine r_geti qX0_whyNotMark_1 fX0_79 rfl (by assumption) ?_
    rw [f12, hb]
    refine r_if_lt (t := 18) qX0_whyNotMark_4 (by decide) (fun hc4 => ?_) (fun hc4 => absurd hc4 (by decide))
    refine r_iconst (v := nI 1) qX0_whyNotMark_18 (by decide) ?_
    refine r_iret qX0_whyNotMark_19 rfl rfl rfl rfl ?_
    rw [sMark, if_pos hb] at hK; exact hK
  · skip
    have hK' : ∀ v, v = sMark N k → K (.inl (some (.int v))) g i j := fun v hv => by rw [hv]; exact hK
    have eM : sMark N k = if ¬ N (42 + 21 * k + 5) = sAround N k ∨ N 6 = nI k then nI 2 else if sHas (sDeg N k) (N (30 + 3 * b + 2)) (sMany N k) = true then nI 3 else if sHas (sHgt N k) (sHigh N k) (sMany N k) = true then nI 4 else if sMany N k = 6 then nI 5 else nI 0 := by
      rw [sMark, hb, if_neg (nb_m1 (by omega)), zn_nI (by omega)]
    rw [eM] at hK'
    refine r_aload_n qX0_whyNotMark_0 rfl ?_
    refine r_geti qX0_whyNotMark_1 fX0_79 rfl (by assumption) ?_
    rw [f12, hb]
    refine r_if_lt (t := 18) qX0_whyNotMark_4 (by decide) (fun hc4 => absurd hc4 (not_neg (by omega))) (fun hc4 => ?_)
    refine r_aload_n qX0_whyNotMark_7 rfl ?_
    refine r_geti qX0_whyNotMark_8 fX0_79 rfl (by assumption) ?_
    rw [f12, hb]
    refine r_aload_n qX0_whyNotMark_11 rfl ?_
    refine r_geti qX0_whyNotMark_12 fX0_49 rfl (by assumption) ?_
    rw [c6, hB]
    refine r_icmp_lt (t := 20) qX0_whyNotMark_15 (by decide) (fun hc15 => ?_) (fun hc15 => absurd hc15 (fun h => h (nI_lt hbB (by omega))))
    refine r_aload_n qX0_whyNotMark_20 rfl ?_
    refine r_geti qX0_whyNotMark_21 fX0_37 rfl (by assumption) ?_
    rw [c11]
    refine r_aload_n qX0_whyNotMark_24 rfl ?_
    refine r_geti qX0_whyNotMark_25 fX0_76 rfl (by assumption) ?_
    rw [f0]
    refine r_icmp_eq (t := 39) qX0_whyNotMark_28 (by decide) (fun hc28 => ?_) (fun hc28 => ?_)
    · refine r_iconst (v := nI 2) qX0_whyNotMark_39 (by decide) ?_
      refine r_iret qX0_whyNotMark_40 rfl rfl rfl rfl ?_
      first | exact hK' _ (if_pos (Or.inr hc28)).symm | exact hK' _ (if_pos (Or.inl (zb_0.mp hc36))).symm
    · refine r_aload_n qX0_whyNotMark_31 rfl ?_
      refine r_aload_n qX0_whyNotMark_32 rfl ?_
      refine r_cv1 (cu2 := 0) (su2 := 0) qX0_whyNotMark_33 kX0_89 rfl (by decide +kernel) (c := 0) (by assumption) (by decide) rfl rfl rfl rfl rfl rfl ?_
      refine c_X0_atRest hC hH hk ?_
      show zR E _ _ X 36 _ _ _ _ _ _ _
      refine r_if_ne (t := 41) qX0_whyNotMark_36 (by decide) (fun hc36 => ?_) (fun hc36 => ?_)
      · refine r_aload_n qX0_whyNotMark_41 rfl ?_
        refine r_aload_n qX0_whyNotMark_42 rfl ?_
        refine r_getr qX0_whyNotMark_43 fX0_21 rfl (by assumption) (by first | assumption | rfl) ?_
        refine r_aload_n qX0_whyNotMark_46 rfl ?_
        refine r_geti qX0_whyNotMark_47 fX0_79 rfl (by assumption) ?_
        rw [f12, hb]
        refine r_ialdN qX0_whyNotMark_50 (by assumption) (by assumption) (by omega) rfl ?_
        rw [(hH.ba hbB).1]
        refine r_cv1 (cu2 := 0) (su2 := 0) qX0_whyNotMark_51 kX0_93 rfl (by decide +kernel) (c := 2) (by assumption) (by decide) rfl rfl rfl rfl rfl rfl ?_
        refine c_X2_hasPointOfDegrees hT hU hO hk ?_
        show zR E _ _ X 54 _ _ _ _ _ _ _
        refine r_if_eq (t := 59) qX0_whyNotMark_54 (by decide) (fun hc54 => ?_) (fun hc54 => ?_)
        · refine r_aload_n qX0_whyNotMark_59 rfl ?_
          refine r_aload_n qX0_whyNotMark_60 rfl ?_
          refine r_cv0 (cu2 := 0) (su2 := 0) qX0_whyNotMark_61 kX0_97 rfl (by decide +kernel) (c := 2) (by assumption) (by decide) rfl rfl rfl rfl rfl rfl ?_
          refine c_X2_level hT hU hO hk ?_
          show zR E _ _ X 64 _ _ _ _ _ _ _
          refine r_cv1 (cu2 := 0) (su2 := 0) qX0_whyNotMark_64 kX0_101 rfl (by decide +kernel) (c := 2) (by assumption) (by decide) rfl rfl rfl rfl rfl rfl ?_
          refine c_X2_hasPointOfHeight hT hU hO hk ?_
          show zR E _ _ X 67 _ _ _ _ _ _ _
          refine r_if_eq (t := 72) qX0_whyNotMark_67 (by decide) (fun hc67 => ?_) (fun hc67 => ?_)
          · refine r_aload_n qX0_whyNotMark_72 rfl ?_
            refine r_geti qX0_whyNotMark_73 fX0_104 rfl (by assumption) ?_
            rw [f3, hm]
            refine r_bipush (v := nI 6) qX0_whyNotMark_76 (by decide) ?_
            refine r_icmp_lt (t := 85) qX0_whyNotMark_78 (by decide) (fun hc78 => ?_) (fun hc78 => ?_)
            · refine r_iconst (v := nI 0) qX0_whyNotMark_85 (by decide) ?_
              refine r_iret qX0_whyNotMark_86 rfl rfl rfl rfl ?_
              refine hK' _ ?_; rw [if_neg (fun h => h.elim (fun h => h (zb_ne.mp hc36)) hc28), if_neg (zb_0.mp hc54), if_neg (zb_0.mp hc67)]; first | (rw [if_neg (fun h => absurd hc78 (by rw [h]; decide))]) | (rw [if_pos (Nat.le_antisymm hm6 (Nat.le_of_not_lt fun h => hc78 (nI_lt h (by decide))))])
            · refine r_iconst (v := nI 5) qX0_whyNotMark_81 (by decide) ?_
              refine r_goto (t := 86) qX0_whyNotMark_82 (by decide) ?_
              refine r_iret qX0_whyNotMark_86 rfl rfl rfl rfl ?_
              refine hK' _ ?_; rw [if_neg (fun h => h.elim (fun h => h (zb_ne.mp hc36)) hc28), if_neg (zb_0.mp hc54), if_neg (zb_0.mp hc67)]; first | (rw [if_neg (fun h => absurd hc78 (by rw [h]; decide))]) | (rw [if_pos (Nat.le_antisymm hm6 (Nat.le_of_not_lt fun h => hc78 (nI_lt h (by decide))))])
          · refine r_iconst (v := nI 4) qX0_whyNotMark_70 (by decide) ?_
            refine r_iret qX0_whyNotMark_71 rfl rfl rfl rfl ?_
            exact hK' _ (by rw [if_neg (fun h => h.elim (fun h => h (zb_ne.mp hc36)) hc28), if_neg (zb_0.mp hc54), if_pos (zb_ne.mp hc67)])
        · refine r_iconst (v := nI 3) qX0_whyNotMark_57 (by decide) ?_
          refine r_iret qX0_whyNotMark_58 rfl rfl rfl rfl ?_
          exact hK' _ (by rw [if_neg (fun h => h.elim (fun h => h (zb_ne.mp hc36)) hc28), if_pos (zb_ne.mp hc54)])
      · refine r_iconst (v := nI 2) qX0_whyNotMark_39 (by decide) ?_
        refine r_iret qX0_whyNotMark_40 rfl rfl rfl rfl ?_
        first | exact hK' _ (if_pos (Or.inr hc28)).symm | exact hK' _ (if_pos (Or.inl (zb_0.mp hc36))).symm


