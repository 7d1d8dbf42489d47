/-! ===== THE MODEL'S CHANGES, those that are refused by the state ===== -/
abbrev dA (N : Nat → Int32) (t v : Int32) : Prop := tv (N 5) t ∧ tv (N 4) v
abbrev dB (N : Nat → Int32) (t v : Int32) : Prop := dA N t v ∧ sDip N (zn t) v = 0
abbrev lB (N : Nat → Int32) (t : Int32) : Prop := tv (N 5) t ∧ ¬ N (42 + 21 * zn t + 7) = -1
abbrev kB (N : Nat → Int32) (t : Int32) : Prop := tv (N 5) t ∧ sMark N (zn t) = 0
abbrev fB (N : Nat → Int32) (t a : Int32) : Prop := tv (N 5) t ∧ (1 ≤ a.toInt ∧ a.toInt ≤ 999) ∧ ¬ nI 999 < N (42 + 21 * zn t + 4) + a
section CT
variable {E : Ev} {g : Sh} {i : Ni} {j : Nj} {K : Kp} {x r : Nat} {t : Int32}
theorem cT_dip {b : Int32} (hM : zM g x r) (ht : tv (i r 5) t) (h8 : zn (i r 5) ≤ 8) (hK : K (.inl (some (.int (sDip (i r) (zn t) b)))) g i j) : zCon E mX4_reasonToDip [.ref x, .int t, .int b] g i j K := by
  obtain ⟨e, hk⟩ := tv_nat ht
  have z := c_X4_reasonToDip (E := E) (k := zn t) hM (by omega) hK
  rw [← e] at z
  exact z
theorem cT_of {w : Nat} (hM : zM g x r) (ht : tv (i r 5) t) (h8 : zn (i r 5) ≤ 8) (hw : w < 21) (hK : K (.inl (some (.int (i r (42 + 21 * zn t + w))))) g i j) : zCon E mX4_of [.ref x, .int t, .int (nI w)] g i j K := by
  obtain ⟨e, hk⟩ := tv_nat ht
  have z := c_X4_of (E := E) (k := zn t) (w := w) hM (by omega) hK
  rw [← e] at z
  exact z
theorem cT_mark (hM : zM g x r) (hO : zOk (i r)) (ht : tv (i r 5) t) (hK : K (.inl (some (.int (sMark (i r) (zn t))))) g i j) : zCon E mX4_reasonToMark [.ref x, .int t] g i j K := by
  obtain ⟨e, hk⟩ := tv_nat ht
  have z := c_X4_reasonToMark (E := E) (k := zn t) hM hO hk hK
  rw [← e] at z
  exact z
end CT
/-- what stands where marking is not refused -/
theorem sMark_0 {N : Nat → Int32} (h : zOk N) {k : Nat} (hk : k < zn (N 5)) (h0 : sMark N k = 0) : ∃ b, N (42 + 21 * k + 7) = nI b ∧ b < 4 ∧ sMany N k < 6 := by
  have hb := h.bath hk
  obtain ⟨hm, hm6⟩ := h.many hk
  rw [sMark] at h0
  by_cases c1 : N (42 + 21 * k + 7) = -1
  · rw [if_pos c1] at h0; exact absurd h0 (by decide)
  · rw [if_neg c1] at h0
    obtain ⟨b, hb1, hb2⟩ := hb.resolve_left c1
    refine ⟨b, hb1, hb2, ?_⟩
    by_cases c2 : ¬ N (42 + 21 * k + 5) = sAround N k ∨ N 6 = nI k
    · rw [if_pos c2] at h0; exact absurd h0 (by decide)
    · rw [if_neg c2] at h0
      by_cases c3 : sHas (sDeg N k) (N (30 + 3 * zn (N (42 + 21 * k + 7)) + 2)) (sMany N k) = true
      · rw [if_pos c3] at h0; exact absurd h0 (by decide)
      · rw [if_neg c3] at h0
        by_cases c4 : sHas (sHgt N k) (sHigh N k) (sMany N k) = true
        · rw [if_pos c4] at h0; exact absurd h0 (by decide)
        · rw [if_neg c4] at h0
          by_cases c5 : sMany N k = 6
          · rw [if_pos c5] at h0; exact absurd h0 (by decide)
          · omega
set_option maxHeartbeats 4000000 in
set_option maxRecDepth 20000 in
theorem c_X4_pour {E : Ev} {g : Sh} {i : Ni} {j : Nj} {K : Kp} {x r k : Nat} {a : Int32} (hM : zM g x r) (hk : k < 8) (hK : K (.inl none) g (wA i r (aPour (i r) k a)) j) : zCon E mX4_pour [.ref x, .int (nI k), .int a] g i j K := by
  refine zcon_of (by decide +kernel) rfl rfl (lo := [.ref x, .int (nI k), .int a]) rfl (fun X => ?_)
  have hM' := hM
  obtain ⟨h1, h2, h3, h4⟩ := hM
  rw [aPour] at hK
  refine r_aload_n qX4_pour_0 rfl ?_
  refine r_iload_n qX4_pour_1 rfl ?_
  refine r_iconst (v := nI 4) qX4_pour_2 (by decide) ?_
  refine r_aload_n qX4_pour_3 rfl ?_
  refine r_iload_n qX4_pour_4 rfl ?_
  refine r_iconst (v := nI 4) qX4_pour_5 (by decide) ?_
  refine r_cv2 (cu2 := 0) (su2 := 0) qX4_pour_6 kX4_148 rfl (by decide +kernel) (c := 4) (by assumption) (by decide) rfl rfl rfl rfl rfl rfl ?_
  refine c_X4_of (by first | assumption | omega | rfl | decide) (by first | assumption | omega | rfl | decide) ?_
  show zR E _ _ X 9 _ _ _ _ _ _ _
  refine r_iload_n qX4_pour_9 rfl ?_
  first | with_reducible refine r_iaddN qX4_pour_10 ?_ | refine r_iadd qX4_pour_10 ?_
  refine r_cv3 (cu2 := 0) (su2 := 0) qX4_pour_11 kX4_137 rfl (by decide +kernel) (c := 4) (by assumption) (by decide) rfl rfl rfl rfl rfl rfl ?_
  refine c_X4_set0 (by first | assumption | omega | rfl | decide) (by first | assumption | omega | rfl | decide) ?_
  show zR E _ _ X 14 _ _ _ _ _ _ _
  refine r_aload_n qX4_pour_14 rfl ?_
  refine r_getr qX4_pour_15 fX4_24 rfl (by assumption) (by first | assumption | rfl) ?_
  refine r_bipush (v := nI 8) qX4_pour_18 (by decide) ?_
  refine r_dup2 qX4_pour_20 rfl rfl ?_
  refine r_ialdN qX4_pour_21 (by assumption) (by assumption) (by omega) rfl ?_
  simp only [wA_s]; rw [pk_un (by omega)]
  refine r_iload_n qX4_pour_22 rfl ?_
  first | with_reducible refine r_iaddN qX4_pour_23 ?_ | refine r_iadd qX4_pour_23 ?_
  refine r_iastN qX4_pour_24 (by assumption) (by assumption) (by omega) rfl ?_
  simp only [wA_s, wA_wA]
  refine r_vret qX4_pour_25 rfl rfl rfl ?_
  exact hK
set_option maxHeartbeats 4000000 in
set_option maxRecDepth 20000 in
theorem c_X4_dip {E : Ev} {g : Sh} {i : Ni} {j : Nj} {K : Kp} {x n d b p s o c : Nat} {t v : Int32} (hB : zB g i x n d b p s o) (hc : i x 29 = nI c) (hcl : c ≤ 6) (hK0 : ¬ (dA (i n) t v ∧ dB (i n) t v) → ∀ i' : Ni, i' x = upd (i x) 0 (c3 (dA (i n) t v) (dB (i n) t v) True) → (∀ r, r ≠ x → i' r = i r) → K (.inl (some (.int (nI 0)))) g i' j) (hK1 : (dA (i n) t v ∧ dB (i n) t v) → ∀ i' : Ni, i' x = upd (upd (i x) 0 (nI 0)) 29 (nI (if c = 6 then 6 else c + 1)) → i' p = sRem (i p) (i n) c → i' n = upd (i n) (42 + 21 * zn t + 7) v → (∀ r, r ≠ x → r ≠ p → r ≠ n → i' r = i r) → K (.inl (some (.int (sAround (upd (i n) (42 + 21 * zn t + 7) v) (zn t))))) g i' j) : zCon E mX4_dip [.ref x, .int t, .int v] g i j K := by
  refine zcon_of (by decide +kernel) rfl rfl (lo := [.ref x, .int t, .int v, zJ]) rfl (fun X => ?_)
  have hB' := hB
  obtain ⟨hW, hR3, hO⟩ := hB
  have w1 := hW.1
  have w2 := hW.2.1
  have nx := hW.nx
  have xn := Ne.symm nx
  have hM' := hW.m hR3
  obtain ⟨px, np⟩ := hW.pp
  have pn := Ne.symm np
  have xp := Ne.symm px
  obtain ⟨w8, w9⟩ := hW.2.2.2.2.2.2.2.1
  obtain ⟨hT, hT8⟩ := hO.T8
  obtain ⟨hBt, hB4⟩ := hO.B4
  have KP : zR E mX4_dip (zZ E mX4_dip K) X 42 [.ref x, .int t, .int v, .int (zb (dA (i n) t v))] [.int (zb (dB (i n) t v)), .int (zb (dA (i n) t v)), .ref x] g i j 0 0 := by
    refine r_cv2 (cu2 := 0) (su2 := 0) qX4_dip_42 kX4_409 rfl (by decide +kernel) (c := 4) (by assumption) (by decide) rfl rfl rfl rfl rfl rfl ?_
    refine c_X4_passes2 (by first | assumption | omega | rfl | decide) ?_
    show zR E _ _ X 45 _ _ _ _ _ _ _
    generalize hi : wA i x (upd (i x) 0 (c3 (dA (i n) t v) (dB (i n) t v) True)) = i'
    have ex : i' x = upd (i x) 0 (c3 (dA (i n) t v) (dB (i n) t v) True) := by rw [← hi, wA_s]
    have eo : ∀ r, r ≠ x → i' r = i r := fun r hr => by rw [← hi]; exact wA_n hr
    clear hi
    refine r_if_ne (t := 50) qX4_dip_45 (by decide) (fun hc45 => ?_) (fun hc45 => ?_)
    · have hv := zb_ne.mp hc45; clear hc45 hK0; replace hK1 := hK1 hv; rw [c3_0 hv.1 hv.2 trivial] at ex
      have hv1 := hv.1.1; have hv2 := hv.1.2; clear hv
      obtain ⟨ek, hk⟩ := tv_nat hv1; generalize zn t = k at *; subst ek
      obtain ⟨el, hl⟩ := tv_nat hv2; generalize zn v = l at *; subst el; have h8 := hO.k8 hk; have hO2 := zOk_bath hO hk (v := nI l) (Or.inr ⟨l, rfl, hl⟩); have hk2 : k < zn (upd (i n) (42 + 21 * k + 7) (nI l) 5) := by (rw [pk_un (by omega)]; exact hk)
      refine r_aload_n qX4_dip_50 rfl ?_
      refine r_cv0 (cu2 := 0) (su2 := 0) qX4_dip_51 kX4_384 rfl (by decide +kernel) (c := 4) (by assumption) (by decide) rfl rfl rfl rfl rfl rfl ?_
      refine c_X4_remember hW (c := c) (by rw [ex, pk_un (by decide)]; exact hc) hcl (fun i2 r1 r2 r3 => ?_)
      show zR E _ _ X 54 _ _ _ _ _ _ _
      rw [ex] at r1; rw [eo p px, eo n nx] at r2; have rn : i2 n = i n := by rw [r3 n nx np, eo n nx]
      have ro : ∀ r, r ≠ x → r ≠ p → i2 r = i r := fun r h1 h2 => by rw [r3 r h1 h2]; exact eo r h1
      refine r_aload_n qX4_dip_54 rfl ?_
      refine r_iload_n qX4_dip_55 rfl ?_
      refine r_bipush (v := nI 7) qX4_dip_56 (by decide) ?_
      refine r_iload_n qX4_dip_58 rfl ?_
      refine r_cv3 (cu2 := 0) (su2 := 0) qX4_dip_59 kX4_137 rfl (by decide +kernel) (c := 4) (by assumption) (by decide) rfl rfl rfl rfl rfl rfl ?_
      refine c_X4_set0 (by first | assumption | omega | rfl | decide) (by first | assumption | omega | rfl | decide) ?_
      show zR E _ _ X 62 _ _ _ _ _ _ _
      rw [rn]
      refine r_aload_n qX4_dip_62 rfl ?_
      refine r_iload_n qX4_dip_63 rfl ?_
      refine r_cv1 (cu2 := 0) (su2 := 0) qX4_dip_64 kX4_169 rfl (by decide +kernel) (c := 4) (by assumption) (by decide) rfl rfl rfl rfl rfl rfl ?_
      refine c_X4_around hM' (by rw [wA_s]; exact hO2) (by rw [wA_s]; exact hk2) ?_
      show zR E _ _ X 67 _ _ _ _ _ _ _
      rw [wA_s]
      refine r_iret qX4_dip_67 rfl rfl rfl rfl ?_
      exact hK1 _ (by first | exact r1 | (rw [wA_n xn]; exact r1)) (by first | exact r2 | (rw [wA_n pn]; exact r2)) (by first | exact rn | rw [wA_s]) (fun r h1 h2 h3 => by first | (rw [wA_n h3]; exact ro r h1 h2) | exact ro r h1 h2)
    · have hv := zb_0.mp hc45; replace hK0 := hK0 hv
      refine r_iconst (v := nI 0) qX4_dip_48 (by decide) ?_
      refine r_iret qX4_dip_49 rfl rfl rfl rfl ?_
      exact hK0 _ ex eo
  have K21 : zR E mX4_dip (zZ E mX4_dip K) X 21 [.ref x, .int t, .int v, zJ] [.int (zb (dA (i n) t v))] g i j 0 0 := by
    refine r_is_4_3 qX4_dip_21 rfl rfl ?_
    refine r_aload_n qX4_dip_22 rfl ?_
    refine r_iload_n qX4_dip_23 rfl ?_
    refine r_iload_n qX4_dip_24 rfl ?_
    refine r_if_eq (t := 41) qX4_dip_25 (by decide) (fun hc25 => ?_) (fun hc25 => ?_)
    · refine r_iconst (v := nI 0) qX4_dip_41 (by decide) ?_
      first | (rw [zb_f (p := dB (i n) t v) (fun h => zb_0.mp hc25 h.1)] at KP; exact KP) | (rw [zb_f (p := dB (i n) t v) (fun h => hc34 h.2)] at KP; exact KP) | (rw [zb_t (p := dB (i n) t v) ⟨zb_ne.mp hc25, hc34⟩] at KP; exact KP)
    · refine r_aload_n qX4_dip_28 rfl ?_
      refine r_iload_n qX4_dip_29 rfl ?_
      refine r_iload_n qX4_dip_30 rfl ?_
      refine r_cv2 (cu2 := 0) (su2 := 0) qX4_dip_31 kX4_314 rfl (by decide +kernel) (c := 4) (by assumption) (by decide) rfl rfl rfl rfl rfl rfl ?_
      refine cT_dip hM' (zb_ne.mp hc25).1 hT8 ?_
      show zR E _ _ X 34 _ _ _ _ _ _ _
      refine r_if_ne (t := 41) qX4_dip_34 (by decide) (fun hc34 => ?_) (fun hc34 => ?_)
      · refine r_iconst (v := nI 0) qX4_dip_41 (by decide) ?_
        first | (rw [zb_f (p := dB (i n) t v) (fun h => zb_0.mp hc25 h.1)] at KP; exact KP) | (rw [zb_f (p := dB (i n) t v) (fun h => hc34 h.2)] at KP; exact KP) | (rw [zb_t (p := dB (i n) t v) ⟨zb_ne.mp hc25, hc34⟩] at KP; exact KP)
      · refine r_iconst (v := nI 1) qX4_dip_37 (by decide) ?_
        refine r_goto (t := 42) qX4_dip_38 (by decide) ?_
        first | (rw [zb_f (p := dB (i n) t v) (fun h => zb_0.mp hc25 h.1)] at KP; exact KP) | (rw [zb_f (p := dB (i n) t v) (fun h => hc34 h.2)] at KP; exact KP) | (rw [zb_t (p := dB (i n) t v) ⟨zb_ne.mp hc25, hc34⟩] at KP; exact KP)
  refine r_aload_n qX4_dip_0 rfl ?_
  refine r_iload_n qX4_dip_1 rfl ?_
  refine r_cv1 (cu2 := 0) (su2 := 0) qX4_dip_2 kX4_396 rfl (by decide +kernel) (c := 4) (by assumption) (by decide) rfl rfl rfl rfl rfl rfl ?_
  refine c_X4_hasTube (by first | assumption | omega | rfl | decide) (by first | assumption | omega | rfl | decide) (by first | assumption | omega | rfl | decide) ?_
  show zR E _ _ X 5 _ _ _ _ _ _ _
  refine r_if_eq (t := 20) qX4_dip_5 (by decide) (fun hc5 => ?_) (fun hc5 => ?_)
  · refine r_iconst (v := nI 0) qX4_dip_20 (by decide) ?_
    first | (rw [zb_f (p := dA (i n) t v) (fun h => zb_0.mp hc5 h.1)] at K21; exact K21) | (rw [zb_f (p := dA (i n) t v) (fun h => zb_0.mp hc13 h.2)] at K21; exact K21) | (rw [zb_t (p := dA (i n) t v) ⟨zb_ne.mp hc5, zb_ne.mp hc13⟩] at K21; exact K21)
  · refine r_aload_n qX4_dip_8 rfl ?_
    refine r_iload_n qX4_dip_9 rfl ?_
    refine r_cv1 (cu2 := 0) (su2 := 0) qX4_dip_10 kX4_390 rfl (by decide +kernel) (c := 4) (by assumption) (by decide) rfl rfl rfl rfl rfl rfl ?_
    refine c_X4_hasBath (by first | assumption | omega | rfl | decide) (by first | assumption | omega | rfl | decide) (by first | assumption | omega | rfl | decide) ?_
    show zR E _ _ X 13 _ _ _ _ _ _ _
    refine r_if_eq (t := 20) qX4_dip_13 (by decide) (fun hc13 => ?_) (fun hc13 => ?_)
    · refine r_iconst (v := nI 0) qX4_dip_20 (by decide) ?_
      first | (rw [zb_f (p := dA (i n) t v) (fun h => zb_0.mp hc5 h.1)] at K21; exact K21) | (rw [zb_f (p := dA (i n) t v) (fun h => zb_0.mp hc13 h.2)] at K21; exact K21) | (rw [zb_t (p := dA (i n) t v) ⟨zb_ne.mp hc5, zb_ne.mp hc13⟩] at K21; exact K21)
    · refine r_iconst (v := nI 1) qX4_dip_16 (by decide) ?_
      refine r_goto (t := 21) qX4_dip_17 (by decide) ?_
      first | (rw [zb_f (p := dA (i n) t v) (fun h => zb_0.mp hc5 h.1)] at K21; exact K21) | (rw [zb_f (p := dA (i n) t v) (fun h => zb_0.mp hc13 h.2)] at K21; exact K21) | (rw [zb_t (p := dA (i n) t v) ⟨zb_ne.mp hc5, zb_ne.mp hc13⟩] at K21; exact K21)
set_option maxHeartbeats 4000000 in
set_option maxRecDepth 20000 in
theorem c_X4_lift {E : Ev} {g : Sh} {i : Ni} {j : Nj} {K : Kp} {x n d b p s o c : Nat} {t : Int32} (hB : zB g i x n d b p s o) (hc : i x 29 = nI c) (hcl : c ≤ 6) (hK0 : ¬ (tv (i n 5) t ∧ lB (i n) t) → ∀ i' : Ni, i' x = upd (i x) 0 (c3 (tv (i n 5) t) (lB (i n) t) True) → (∀ r, r ≠ x → i' r = i r) → K (.inl (some (.int (nI 0)))) g i' j) (hK1 : (tv (i n 5) t ∧ lB (i n) t) → ∀ i' : Ni, i' x = upd (upd (i x) 0 (nI 0)) 29 (nI (if c = 6 then 6 else c + 1)) → i' p = sRem (i p) (i n) c → i' n = upd (i n) (42 + 21 * zn t + 7) (-1) → (∀ r, r ≠ x → r ≠ p → r ≠ n → i' r = i r) → K (.inl (some (.int (i n (42 + 21 * zn t + 7))))) g i' j) : zCon E mX4_lift [.ref x, .int t] g i j K := by
  refine zcon_of (by decide +kernel) rfl rfl (lo := [.ref x, .int t, zJ, zJ]) rfl (fun X => ?_)
  have hB' := hB
  obtain ⟨hW, hR3, hO⟩ := hB
  have w1 := hW.1
  have w2 := hW.2.1
  have nx := hW.nx
  have xn := Ne.symm nx
  have hM' := hW.m hR3
  obtain ⟨px, np⟩ := hW.pp
  have pn := Ne.symm np
  have xp := Ne.symm px
  obtain ⟨w8, w9⟩ := hW.2.2.2.2.2.2.2.1
  obtain ⟨hT, hT8⟩ := hO.T8
  obtain ⟨hBt, hB4⟩ := hO.B4
  have KP : zR E mX4_lift (zZ E mX4_lift K) X 28 [.ref x, .int t, .int (zb (tv (i n 5) t)), zJ] [.int (zb (lB (i n) t)), .int (zb (tv (i n 5) t)), .ref x] g i j 0 0 := by
    refine r_cv2 (cu2 := 0) (su2 := 0) qX4_lift_28 kX4_409 rfl (by decide +kernel) (c := 4) (by assumption) (by decide) rfl rfl rfl rfl rfl rfl ?_
    refine c_X4_passes2 (by first | assumption | omega | rfl | decide) ?_
    show zR E _ _ X 31 _ _ _ _ _ _ _
    generalize hi : wA i x (upd (i x) 0 (c3 (tv (i n 5) t) (lB (i n) t) True)) = i'
    have ex : i' x = upd (i x) 0 (c3 (tv (i n 5) t) (lB (i n) t) True) := by rw [← hi, wA_s]
    have eo : ∀ r, r ≠ x → i' r = i r := fun r hr => by rw [← hi]; exact wA_n hr
    clear hi
    refine r_if_ne (t := 36) qX4_lift_31 (by decide) (fun hc31 => ?_) (fun hc31 => ?_)
    · have hv := zb_ne.mp hc31; clear hc31 hK0; replace hK1 := hK1 hv; rw [c3_0 hv.1 hv.2 trivial] at ex
      have hv1 := hv.1; clear hv
      obtain ⟨ek, hk⟩ := tv_nat hv1; generalize zn t = k at *; subst ek; have h8 := hO.k8 hk
      refine r_aload_n qX4_lift_36 rfl ?_
      refine r_cv0 (cu2 := 0) (su2 := 0) qX4_lift_37 kX4_384 rfl (by decide +kernel) (c := 4) (by assumption) (by decide) rfl rfl rfl rfl rfl rfl ?_
      refine c_X4_remember hW (c := c) (by rw [ex, pk_un (by decide)]; exact hc) hcl (fun i2 r1 r2 r3 => ?_)
      show zR E _ _ X 40 _ _ _ _ _ _ _
      rw [ex] at r1; rw [eo p px, eo n nx] at r2; have rn : i2 n = i n := by rw [r3 n nx np, eo n nx]
      have ro : ∀ r, r ≠ x → r ≠ p → i2 r = i r := fun r h1 h2 => by rw [r3 r h1 h2]; exact eo r h1
      refine r_aload_n qX4_lift_40 rfl ?_
      refine r_iload_n qX4_lift_41 rfl ?_
      refine r_bipush (v := nI 7) qX4_lift_42 (by decide) ?_
      refine r_cv2 (cu2 := 0) (su2 := 0) qX4_lift_44 kX4_148 rfl (by decide +kernel) (c := 4) (by assumption) (by decide) rfl rfl rfl rfl rfl rfl ?_
      refine c_X4_of (by first | assumption | omega | rfl | decide) (by first | assumption | omega | rfl | decide) ?_
      show zR E _ _ X 47 _ _ _ _ _ _ _
      rw [rn]
      refine r_is_4_3 qX4_lift_47 rfl rfl ?_
      refine r_aload_n qX4_lift_48 rfl ?_
      refine r_iload_n qX4_lift_49 rfl ?_
      refine r_bipush (v := nI 7) qX4_lift_50 (by decide) ?_
      refine r_iconst (v := (-1)) qX4_lift_52 (by decide) ?_
      refine r_cv3 (cu2 := 0) (su2 := 0) qX4_lift_53 kX4_137 rfl (by decide +kernel) (c := 4) (by assumption) (by decide) rfl rfl rfl rfl rfl rfl ?_
      refine c_X4_set0 (by first | assumption | omega | rfl | decide) (by first | assumption | omega | rfl | decide) ?_
      show zR E _ _ X 56 _ _ _ _ _ _ _
      rw [rn]
      refine r_iload_n qX4_lift_56 rfl ?_
      refine r_iret qX4_lift_57 rfl rfl rfl rfl ?_
      exact hK1 _ (by first | exact r1 | (rw [wA_n xn]; exact r1)) (by first | exact r2 | (rw [wA_n pn]; exact r2)) (by first | exact rn | rw [wA_s]) (fun r h1 h2 h3 => by first | (rw [wA_n h3]; exact ro r h1 h2) | exact ro r h1 h2)
    · have hv := zb_0.mp hc31; replace hK0 := hK0 hv
      refine r_iconst (v := nI 0) qX4_lift_34 (by decide) ?_
      refine r_iret qX4_lift_35 rfl rfl rfl rfl ?_
      exact hK0 _ ex eo
  refine r_aload_n qX4_lift_0 rfl ?_
  refine r_iload_n qX4_lift_1 rfl ?_
  refine r_cv1 (cu2 := 0) (su2 := 0) qX4_lift_2 kX4_396 rfl (by decide +kernel) (c := 4) (by assumption) (by decide) rfl rfl rfl rfl rfl rfl ?_
  refine c_X4_hasTube (by first | assumption | omega | rfl | decide) (by first | assumption | omega | rfl | decide) (by first | assumption | omega | rfl | decide) ?_
  show zR E _ _ X 5 _ _ _ _ _ _ _
  refine r_is_4_2 qX4_lift_5 rfl rfl ?_
  refine r_aload_n qX4_lift_6 rfl ?_
  refine r_iload_n qX4_lift_7 rfl ?_
  refine r_iload_n qX4_lift_8 rfl ?_
  refine r_if_eq (t := 27) qX4_lift_9 (by decide) (fun hc9 => ?_) (fun hc9 => ?_)
  · refine r_iconst (v := nI 0) qX4_lift_27 (by decide) ?_
    first | (rw [zb_f (p := lB (i n) t) (fun h => zb_0.mp hc9 h.1)] at KP; exact KP) | (rw [zb_f (p := lB (i n) t) (fun h => h.2 hc20)] at KP; exact KP) | (rw [zb_t (p := lB (i n) t) ⟨zb_ne.mp hc9, hc20⟩] at KP; exact KP)
  · refine r_aload_n qX4_lift_12 rfl ?_
    refine r_iload_n qX4_lift_13 rfl ?_
    refine r_bipush (v := nI 7) qX4_lift_14 (by decide) ?_
    refine r_cv2 (cu2 := 0) (su2 := 0) qX4_lift_16 kX4_148 rfl (by decide +kernel) (c := 4) (by assumption) (by decide) rfl rfl rfl rfl rfl rfl ?_
    refine cT_of hM' (zb_ne.mp hc9) hT8 (by omega) ?_
    show zR E _ _ X 19 _ _ _ _ _ _ _
    have hA := zb_ne.mp hc9
    refine r_iconst (v := (-1)) qX4_lift_19 (by decide) ?_
    refine r_icmp_eq (t := 27) qX4_lift_20 (by decide) (fun hc20 => ?_) (fun hc20 => ?_)
    · refine r_iconst (v := nI 0) qX4_lift_27 (by decide) ?_
      first | (rw [zb_f (p := lB (i n) t) (fun h => zb_0.mp hc9 h.1)] at KP; exact KP) | (rw [zb_f (p := lB (i n) t) (fun h => h.2 hc20)] at KP; exact KP) | (rw [zb_t (p := lB (i n) t) ⟨zb_ne.mp hc9, hc20⟩] at KP; exact KP)
    · refine r_iconst (v := nI 1) qX4_lift_23 (by decide) ?_
      refine r_goto (t := 28) qX4_lift_24 (by decide) ?_
      first | (rw [zb_f (p := lB (i n) t) (fun h => zb_0.mp hc9 h.1)] at KP; exact KP) | (rw [zb_f (p := lB (i n) t) (fun h => h.2 hc20)] at KP; exact KP) | (rw [zb_t (p := lB (i n) t) ⟨zb_ne.mp hc9, hc20⟩] at KP; exact KP)
set_option maxHeartbeats 4000000 in
set_option maxRecDepth 20000 in
theorem c_X4_mark {E : Ev} {g : Sh} {i : Ni} {j : Nj} {K : Kp} {x n d b p s o c : Nat} {t : Int32} (hB : zB g i x n d b p s o) (hc : i x 29 = nI c) (hcl : c ≤ 6) (hK0 : ¬ (tv (i n 5) t ∧ kB (i n) t) → ∀ i' : Ni, i' x = upd (i x) 0 (c3 (tv (i n 5) t) (kB (i n) t) True) → (∀ r, r ≠ x → i' r = i r) → K (.inl (some (.int (nI 0)))) g i' j) (hK1 : (tv (i n 5) t ∧ kB (i n) t) → ∀ i' : Ni, i' x = upd (upd (i x) 0 (nI 0)) 29 (nI (if c = 6 then 6 else c + 1)) → i' p = sRem (i p) (i n) c → i' n = sPut (i n) (zn t) → (∀ r, r ≠ x → r ≠ p → r ≠ n → i' r = i r) → K (.inl (some (.int (nI (sMany (i n) (zn t) + 1))))) g i' j) : zCon E mX4_mark [.ref x, .int t] g i j K := by
  refine zcon_of (by decide +kernel) rfl rfl (lo := [.ref x, .int t, zJ]) rfl (fun X => ?_)
  have hB' := hB
  obtain ⟨hW, hR3, hO⟩ := hB
  have w1 := hW.1
  have w2 := hW.2.1
  have nx := hW.nx
  have xn := Ne.symm nx
  have hM' := hW.m hR3
  obtain ⟨px, np⟩ := hW.pp
  have pn := Ne.symm np
  have xp := Ne.symm px
  obtain ⟨w8, w9⟩ := hW.2.2.2.2.2.2.2.1
  obtain ⟨hT, hT8⟩ := hO.T8
  obtain ⟨hBt, hB4⟩ := hO.B4
  have KP : zR E mX4_mark (zZ E mX4_mark K) X 25 [.ref x, .int t, .int (zb (tv (i n 5) t))] [.int (zb (kB (i n) t)), .int (zb (tv (i n 5) t)), .ref x] g i j 0 0 := by
    refine r_cv2 (cu2 := 0) (su2 := 0) qX4_mark_25 kX4_409 rfl (by decide +kernel) (c := 4) (by assumption) (by decide) rfl rfl rfl rfl rfl rfl ?_
    refine c_X4_passes2 (by first | assumption | omega | rfl | decide) ?_
    show zR E _ _ X 28 _ _ _ _ _ _ _
    generalize hi : wA i x (upd (i x) 0 (c3 (tv (i n 5) t) (kB (i n) t) True)) = i'
    have ex : i' x = upd (i x) 0 (c3 (tv (i n 5) t) (kB (i n) t) True) := by rw [← hi, wA_s]
    have eo : ∀ r, r ≠ x → i' r = i r := fun r hr => by rw [← hi]; exact wA_n hr
    clear hi
    refine r_if_ne (t := 33) qX4_mark_28 (by decide) (fun hc28 => ?_) (fun hc28 => ?_)
    · have hv := zb_ne.mp hc28; clear hc28 hK0; replace hK1 := hK1 hv; rw [c3_0 hv.1 hv.2 trivial] at ex
      have hv1 := hv.1; have hv2 := hv.2.2; clear hv
      obtain ⟨ek, hk⟩ := tv_nat hv1; generalize zn t = k at *; subst ek; have h8 := hO.k8 hk; obtain ⟨hm, hm6⟩ := hO.many hk; obtain ⟨b0, hb0, hb4, hm5⟩ := sMark_0 hO hk hv2
      refine r_aload_n qX4_mark_33 rfl ?_
      refine r_cv0 (cu2 := 0) (su2 := 0) qX4_mark_34 kX4_384 rfl (by decide +kernel) (c := 4) (by assumption) (by decide) rfl rfl rfl rfl rfl rfl ?_
      refine c_X4_remember hW (c := c) (by rw [ex, pk_un (by decide)]; exact hc) hcl (fun i2 r1 r2 r3 => ?_)
      show zR E _ _ X 37 _ _ _ _ _ _ _
      rw [ex] at r1; rw [eo p px, eo n nx] at r2; have rn : i2 n = i n := by rw [r3 n nx np, eo n nx]
      have ro : ∀ r, r ≠ x → r ≠ p → i2 r = i r := fun r h1 h2 => by rw [r3 r h1 h2]; exact eo r h1
      refine r_aload_n qX4_mark_37 rfl ?_
      refine r_iload_n qX4_mark_38 rfl ?_
      refine r_cv1 (cu2 := 0) (su2 := 0) qX4_mark_39 kX4_144 rfl (by decide +kernel) (c := 4) (by assumption) (by decide) rfl rfl rfl rfl rfl rfl ?_
      refine c_X4_markNow hM' (by rw [rn]; exact hO.f hk) (by rw [rn]; exact hm) (by rw [rn]; exact hm5) (by rw [rn]; exact hb0) hb4 ?_
      show zR E _ _ X 42 _ _ _ _ _ _ _
      rw [rn]
      refine r_iret qX4_mark_42 rfl rfl rfl rfl ?_
      exact hK1 _ (by first | exact r1 | (rw [wA_n xn]; exact r1)) (by first | exact r2 | (rw [wA_n pn]; exact r2)) (by first | exact rn | rw [wA_s]) (fun r h1 h2 h3 => by first | (rw [wA_n h3]; exact ro r h1 h2) | exact ro r h1 h2)
    · have hv := zb_0.mp hc28; replace hK0 := hK0 hv
      refine r_iconst (v := nI 0) qX4_mark_31 (by decide) ?_
      refine r_iret qX4_mark_32 rfl rfl rfl rfl ?_
      exact hK0 _ ex eo
  refine r_aload_n qX4_mark_0 rfl ?_
  refine r_iload_n qX4_mark_1 rfl ?_
  refine r_cv1 (cu2 := 0) (su2 := 0) qX4_mark_2 kX4_396 rfl (by decide +kernel) (c := 4) (by assumption) (by decide) rfl rfl rfl rfl rfl rfl ?_
  refine c_X4_hasTube (by first | assumption | omega | rfl | decide) (by first | assumption | omega | rfl | decide) (by first | assumption | omega | rfl | decide) ?_
  show zR E _ _ X 5 _ _ _ _ _ _ _
  refine r_is_3_2 qX4_mark_5 rfl rfl ?_
  refine r_aload_n qX4_mark_6 rfl ?_
  refine r_iload_n qX4_mark_7 rfl ?_
  refine r_iload_n qX4_mark_8 rfl ?_
  refine r_if_eq (t := 24) qX4_mark_9 (by decide) (fun hc9 => ?_) (fun hc9 => ?_)
  · refine r_iconst (v := nI 0) qX4_mark_24 (by decide) ?_
    first | (rw [zb_f (p := kB (i n) t) (fun h => zb_0.mp hc9 h.1)] at KP; exact KP) | (rw [zb_f (p := kB (i n) t) (fun h => hc17 h.2)] at KP; exact KP) | (rw [zb_t (p := kB (i n) t) ⟨zb_ne.mp hc9, hc17⟩] at KP; exact KP)
  · refine r_aload_n qX4_mark_12 rfl ?_
    refine r_iload_n qX4_mark_13 rfl ?_
    refine r_cv1 (cu2 := 0) (su2 := 0) qX4_mark_14 kX4_317 rfl (by decide +kernel) (c := 4) (by assumption) (by decide) rfl rfl rfl rfl rfl rfl ?_
    refine cT_mark hM' hO (zb_ne.mp hc9) ?_
    show zR E _ _ X 17 _ _ _ _ _ _ _
    refine r_if_ne (t := 24) qX4_mark_17 (by decide) (fun hc17 => ?_) (fun hc17 => ?_)
    · refine r_iconst (v := nI 0) qX4_mark_24 (by decide) ?_
      first | (rw [zb_f (p := kB (i n) t) (fun h => zb_0.mp hc9 h.1)] at KP; exact KP) | (rw [zb_f (p := kB (i n) t) (fun h => hc17 h.2)] at KP; exact KP) | (rw [zb_t (p := kB (i n) t) ⟨zb_ne.mp hc9, hc17⟩] at KP; exact KP)
    · refine r_iconst (v := nI 1) qX4_mark_20 (by decide) ?_
      refine r_goto (t := 25) qX4_mark_21 (by decide) ?_
      first | (rw [zb_f (p := kB (i n) t) (fun h => zb_0.mp hc9 h.1)] at KP; exact KP) | (rw [zb_f (p := kB (i n) t) (fun h => hc17 h.2)] at KP; exact KP) | (rw [zb_t (p := kB (i n) t) ⟨zb_ne.mp hc9, hc17⟩] at KP; exact KP)
set_option maxHeartbeats 4000000 in
set_option maxRecDepth 20000 in
theorem c_X4_topUp {E : Ev} {g : Sh} {i : Ni} {j : Nj} {K : Kp} {x n d b p s o c : Nat} {t a : Int32} (hB : zB g i x n d b p s o) (hc : i x 29 = nI c) (hcl : c ≤ 6) (hK0 : ¬ (tv (i n 5) t ∧ (1 ≤ a.toInt ∧ a.toInt ≤ 999) ∧ fB (i n) t a) → ∀ i' : Ni, i' x = upd (i x) 0 (c3 (tv (i n 5) t) (1 ≤ a.toInt ∧ a.toInt ≤ 999) (fB (i n) t a)) → (∀ r, r ≠ x → i' r = i r) → K (.inl (some (.int (nI 0)))) g i' j) (hK1 : (tv (i n 5) t ∧ (1 ≤ a.toInt ∧ a.toInt ≤ 999) ∧ fB (i n) t a) → ∀ i' : Ni, i' x = upd (upd (i x) 0 (nI 0)) 29 (nI (if c = 6 then 6 else c + 1)) → i' p = sRem (i p) (i n) c → i' n = aPour (i n) (zn t) a → (∀ r, r ≠ x → r ≠ p → r ≠ n → i' r = i r) → K (.inl (some (.int (i n (42 + 21 * zn t + 4) + a)))) g i' j) : zCon E mX4_topUp [.ref x, .int t, .int a] g i j K := by
  refine zcon_of (by decide +kernel) rfl rfl (lo := [.ref x, .int t, .int a, zJ, zJ]) rfl (fun X => ?_)
  have hB' := hB
  obtain ⟨hW, hR3, hO⟩ := hB
  have w1 := hW.1
  have w2 := hW.2.1
  have nx := hW.nx
  have xn := Ne.symm nx
  have hM' := hW.m hR3
  obtain ⟨px, np⟩ := hW.pp
  have pn := Ne.symm np
  have xp := Ne.symm px
  obtain ⟨w8, w9⟩ := hW.2.2.2.2.2.2.2.1
  obtain ⟨hT, hT8⟩ := hO.T8
  obtain ⟨hBt, hB4⟩ := hO.B4
  have KP : zR E mX4_topUp (zZ E mX4_topUp K) X 49 [.ref x, .int t, .int a, .int (zb (tv (i n 5) t)), .int (zb (1 ≤ a.toInt ∧ a.toInt ≤ 999))] [.int (zb (fB (i n) t a)), .int (zb (1 ≤ a.toInt ∧ a.toInt ≤ 999)), .int (zb (tv (i n 5) t)), .ref x] g i j 0 0 := by
    refine r_cv3 (cu2 := 0) (su2 := 0) qX4_topUp_49 kX4_7 rfl (by decide +kernel) (c := 4) (by assumption) (by decide) rfl rfl rfl rfl rfl rfl ?_
    refine c_X4_passes3 (by first | assumption | omega | rfl | decide) ?_
    show zR E _ _ X 52 _ _ _ _ _ _ _
    generalize hi : wA i x (upd (i x) 0 (c3 (tv (i n 5) t) (1 ≤ a.toInt ∧ a.toInt ≤ 999) (fB (i n) t a))) = i'
    have ex : i' x = upd (i x) 0 (c3 (tv (i n 5) t) (1 ≤ a.toInt ∧ a.toInt ≤ 999) (fB (i n) t a)) := by rw [← hi, wA_s]
    have eo : ∀ r, r ≠ x → i' r = i r := fun r hr => by rw [← hi]; exact wA_n hr
    clear hi
    refine r_if_ne (t := 57) qX4_topUp_52 (by decide) (fun hc52 => ?_) (fun hc52 => ?_)
    · have hv := zb_ne.mp hc52; clear hc52 hK0; replace hK1 := hK1 hv; rw [c3_0 hv.1 hv.2.1 hv.2.2] at ex
      have hv1 := hv.1; clear hv
      obtain ⟨ek, hk⟩ := tv_nat hv1; generalize zn t = k at *; subst ek; have h8 := hO.k8 hk; have e4 : aPour (i n) k a (42 + 21 * k + 4) = i n (42 + 21 * k + 4) + a := by (rw [aPour, pk_un (by omega), pk_us])
      refine r_aload_n qX4_topUp_57 rfl ?_
      refine r_cv0 (cu2 := 0) (su2 := 0) qX4_topUp_58 kX4_384 rfl (by decide +kernel) (c := 4) (by assumption) (by decide) rfl rfl rfl rfl rfl rfl ?_
      refine c_X4_remember hW (c := c) (by rw [ex, pk_un (by decide)]; exact hc) hcl (fun i2 r1 r2 r3 => ?_)
      show zR E _ _ X 61 _ _ _ _ _ _ _
      rw [ex] at r1; rw [eo p px, eo n nx] at r2; have rn : i2 n = i n := by rw [r3 n nx np, eo n nx]
      have ro : ∀ r, r ≠ x → r ≠ p → i2 r = i r := fun r h1 h2 => by rw [r3 r h1 h2]; exact eo r h1
      refine r_aload_n qX4_topUp_61 rfl ?_
      refine r_iload_n qX4_topUp_62 rfl ?_
      refine r_iload_n qX4_topUp_63 rfl ?_
      refine r_cv2 (cu2 := 0) (su2 := 0) qX4_topUp_64 kX4_320 rfl (by decide +kernel) (c := 4) (by assumption) (by decide) rfl rfl rfl rfl rfl rfl ?_
      refine c_X4_pour hM' h8 ?_
      show zR E _ _ X 67 _ _ _ _ _ _ _
      rw [rn]
      refine r_aload_n qX4_topUp_67 rfl ?_
      refine r_iload_n qX4_topUp_68 rfl ?_
      refine r_iconst (v := nI 4) qX4_topUp_69 (by decide) ?_
      refine r_cv2 (cu2 := 0) (su2 := 0) qX4_topUp_70 kX4_148 rfl (by decide +kernel) (c := 4) (by assumption) (by decide) rfl rfl rfl rfl rfl rfl ?_
      refine c_X4_of (by first | assumption | omega | rfl | decide) (by first | assumption | omega | rfl | decide) ?_
      show zR E _ _ X 73 _ _ _ _ _ _ _
      rw [wA_s, e4]
      refine r_iret qX4_topUp_73 rfl rfl rfl rfl ?_
      exact hK1 _ (by first | exact r1 | (rw [wA_n xn]; exact r1)) (by first | exact r2 | (rw [wA_n pn]; exact r2)) (by first | exact rn | rw [wA_s]) (fun r h1 h2 h3 => by first | (rw [wA_n h3]; exact ro r h1 h2) | exact ro r h1 h2)
    · have hv := zb_0.mp hc52; replace hK0 := hK0 hv
      refine r_iconst (v := nI 0) qX4_topUp_55 (by decide) ?_
      refine r_iret qX4_topUp_56 rfl rfl rfl rfl ?_
      exact hK0 _ ex eo
  refine r_aload_n qX4_topUp_0 rfl ?_
  refine r_iload_n qX4_topUp_1 rfl ?_
  refine r_cv1 (cu2 := 0) (su2 := 0) qX4_topUp_2 kX4_396 rfl (by decide +kernel) (c := 4) (by assumption) (by decide) rfl rfl rfl rfl rfl rfl ?_
  refine c_X4_hasTube (by first | assumption | omega | rfl | decide) (by first | assumption | omega | rfl | decide) (by first | assumption | omega | rfl | decide) ?_
  show zR E _ _ X 5 _ _ _ _ _ _ _
  refine r_is_5_3 qX4_topUp_5 rfl rfl ?_
  refine r_iload_n qX4_topUp_6 rfl ?_
  refine r_i2l qX4_topUp_7 ?_
  refine r_lconst (v := 1) qX4_topUp_8 (by decide) ?_
  refine r_ldc2 qX4_topUp_9 lX4_425 ?_
  refine r_cs3 (cu2 := 0) (su2 := 0) qX4_topUp_12 kX4_276 rfl (by decide +kernel) rfl rfl rfl rfl rfl ?_
  refine c_X4_in ?_
  show zR E _ _ X 15 _ _ _ _ _ _ _
  rw [zb_c (show ((1 : Int64).toInt ≤ a.toInt64.toInt ∧ a.toInt64.toInt ≤ (999 : Int64).toInt) ↔ (1 ≤ a.toInt ∧ a.toInt ≤ 999) by rw [Int32.toInt_toInt64]; exact Iff.rfl)]
  refine r_is_5_4 qX4_topUp_15 rfl rfl ?_
  refine r_aload_n qX4_topUp_17 rfl ?_
  refine r_iload_n qX4_topUp_18 rfl ?_
  refine r_iload qX4_topUp_19 rfl ?_
  refine r_iload_n qX4_topUp_21 rfl ?_
  refine r_if_eq (t := 48) qX4_topUp_22 (by decide) (fun hc22 => ?_) (fun hc22 => ?_)
  · refine r_iconst (v := nI 0) qX4_topUp_48 (by decide) ?_
    first | (rw [zb_f (p := fB (i n) t a) (fun h => zb_0.mp hc22 h.1)] at KP; exact KP) | (rw [zb_f (p := fB (i n) t a) (fun h => zb_0.mp hc27 h.2.1)] at KP; exact KP) | (rw [zb_f (p := fB (i n) t a) (fun h => h.2.2 hc41)] at KP; exact KP) | (rw [zb_t (p := fB (i n) t a) ⟨zb_ne.mp hc22, zb_ne.mp hc27, hc41⟩] at KP; exact KP)
  · refine r_iload qX4_topUp_25 rfl ?_
    refine r_if_eq (t := 48) qX4_topUp_27 (by decide) (fun hc27 => ?_) (fun hc27 => ?_)
    · refine r_iconst (v := nI 0) qX4_topUp_48 (by decide) ?_
      first | (rw [zb_f (p := fB (i n) t a) (fun h => zb_0.mp hc22 h.1)] at KP; exact KP) | (rw [zb_f (p := fB (i n) t a) (fun h => zb_0.mp hc27 h.2.1)] at KP; exact KP) | (rw [zb_f (p := fB (i n) t a) (fun h => h.2.2 hc41)] at KP; exact KP) | (rw [zb_t (p := fB (i n) t a) ⟨zb_ne.mp hc22, zb_ne.mp hc27, hc41⟩] at KP; exact KP)
    · refine r_aload_n qX4_topUp_30 rfl ?_
      refine r_iload_n qX4_topUp_31 rfl ?_
      refine r_iconst (v := nI 4) qX4_topUp_32 (by decide) ?_
      refine r_cv2 (cu2 := 0) (su2 := 0) qX4_topUp_33 kX4_148 rfl (by decide +kernel) (c := 4) (by assumption) (by decide) rfl rfl rfl rfl rfl rfl ?_
      refine cT_of hM' (zb_ne.mp hc22) hT8 (by omega) ?_
      show zR E _ _ X 36 _ _ _ _ _ _ _
      refine r_iload_n qX4_topUp_36 rfl ?_
      first | with_reducible refine r_iaddN qX4_topUp_37 ?_ | refine r_iadd qX4_topUp_37 ?_
      refine r_sipush (v := nI 999) qX4_topUp_38 (by decide) ?_
      refine r_icmp_gt (t := 48) qX4_topUp_41 (by decide) (fun hc41 => ?_) (fun hc41 => ?_)
      · refine r_iconst (v := nI 0) qX4_topUp_48 (by decide) ?_
        first | (rw [zb_f (p := fB (i n) t a) (fun h => zb_0.mp hc22 h.1)] at KP; exact KP) | (rw [zb_f (p := fB (i n) t a) (fun h => zb_0.mp hc27 h.2.1)] at KP; exact KP) | (rw [zb_f (p := fB (i n) t a) (fun h => h.2.2 hc41)] at KP; exact KP) | (rw [zb_t (p := fB (i n) t a) ⟨zb_ne.mp hc22, zb_ne.mp hc27, hc41⟩] at KP; exact KP)
      · refine r_iconst (v := nI 1) qX4_topUp_44 (by decide) ?_
        refine r_goto (t := 49) qX4_topUp_45 (by decide) ?_
        first | (rw [zb_f (p := fB (i n) t a) (fun h => zb_0.mp hc22 h.1)] at KP; exact KP) | (rw [zb_f (p := fB (i n) t a) (fun h => zb_0.mp hc27 h.2.1)] at KP; exact KP) | (rw [zb_f (p := fB (i n) t a) (fun h => h.2.2 hc41)] at KP; exact KP) | (rw [zb_t (p := fB (i n) t a) ⟨zb_ne.mp hc22, zb_ne.mp hc27, hc41⟩] at KP; exact KP)

