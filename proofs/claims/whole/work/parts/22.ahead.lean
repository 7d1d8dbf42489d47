/-! ===== THE MODEL'S FORECASTS ===== -/
theorem nn_nat {v : Int32} {b : Nat} (h : 0 ≤ v.toInt ∧ v.toInt ≤ (b : Int)) : v = nI (zn v) ∧ zn v ≤ b := by
  obtain ⟨h1, h2⟩ := h
  have h3 := Int32.toInt_lt v
  have e : (zn v : Int) = v.toInt := by
    rw [zn, Int32.toNatClampNeg]
    exact Int.toNat_of_nonneg h1
  refine ⟨Int32.toInt_inj.mp ?_, by omega⟩
  rw [nI_toInt (by omega), e]
theorem zW.dr {g : Sh} {x n d b p s o : Nat} (h : zW g x n d b p s o) : zM (wR g x 3 d) x d := by
  obtain ⟨w1, -, -, -, -, -, -, -, ⟨w10, w11⟩, -⟩ := h
  exact ⟨w1, by rw [gR_wR, if_pos rfl, if_pos rfl], w10, w11⟩
theorem zW.d1 {g : Sh} {x n d b p s o v : Nat} (h : zW g x n d b p s o) : gR (wR g x 3 v) x 1 = n := by
  rw [gR_wR, if_pos rfl, if_neg (by decide)]
  exact h.2.1
theorem zW.bk {g : Sh} {x n d b p s o : Nat} (h : zW g x n d b p s o) (hR : gR g x 3 = n) : wR (wR g x 3 d) x 3 n = g := by
  rw [wR_wR]
  subst hR
  exact wR_self
theorem zW.dx {g : Sh} {x n d b p s o : Nat} (h : zW g x n d b p s o) : d ≠ x := by
  obtain ⟨w1, -, -, -, -, -, -, -, ⟨w8, -⟩, -⟩ := h
  rintro rfl
  omega
theorem sWalk_f {N : Nat → Int32} (h : zOk N) {k : Nat} (hk : k < zn (N 5)) (q : Nat) : k < zn (sWalk N q 5) ∧ zTf (sWalk N q) k := by
  have h2 := sWalk_ok h q
  have h3 : k < zn (sWalk N q 5) := by rw [h2.2]; exact hk
  exact ⟨h3, h2.1.f h3⟩
def sUntil (f : Nat → Bool) (p : Nat) : Nat → Int32
  | 0 => -1
  | q + 1 => if f p = true then nI p else sUntil f (p + 1) q
def fStill (N : Nat → Int32) (k p : Nat) : Bool := decide (sWalk N p (42 + 21 * k + 5) = sAround (sWalk N p) k)
def fSpill (N : Nat → Int32) (k p : Nat) : Bool := decide ((sWalk N p 9 >>> (nI k &&& 31)) &&& nI 1 = nI 1)
def fHigh (N : Nat → Int32) (k : Nat) (h : Int32) (p : Nat) : Bool := decide (h ≤ sHigh (sWalk N p) k)
theorem sUntil_y {f : Nat → Bool} {p q : Nat} (h : f p = true) : sUntil f p (q + 1) = nI p := if_pos h
theorem sUntil_n {f : Nat → Bool} {p q : Nat} (h : ¬ f p = true) : sUntil f p (q + 1) = sUntil f (p + 1) q := if_neg h
-- BEGIN
theorem sTube_3 {N : Nat → Int32} (h : zOk N) {k : Nat} (hk : k < zn (N 5)) : sTube N k 3 = N 3 := by
  obtain ⟨s, hs, hs3, h5⟩ := h.S hk
  exact sTube_n hs h5 (by omega) (by omega) (by omega) (by omega) (by omega) (by omega)
theorem sTubes_3 {N : Nat → Int32} (h : zOk N) {p : Nat} (hp : p ≤ zn (N 5)) : sTubes N p 3 = N 3 := by
  induction p with
  | zero => rfl
  | succ p ih =>
    obtain ⟨i1, i2⟩ := sTubes_ok h (p := p) (by omega)
    exact (sTube_3 i1 (by rw [i2]; omega)).trans (ih (by omega))
theorem sWalk_3 {N : Nat → Int32} (h : zOk N) (q : Nat) : sWalk N q 3 = N 3 := by
  induction q with
  | zero => rfl
  | succ q ih =>
    have h1 := (sWalk_ok h q).1
    have h2 : zOk (upd (sWalk N q) 2 (sWalk N q 2 + nI 1)) := h1.up (Or.inl rfl)
    have e5 : upd (sWalk N q) 2 (sWalk N q 2 + nI 1) 5 = sWalk N q 5 := pk_un (by omega)
    rw [sWalk, sOne, sTubes_3 h2 (by rw [e5]; exact Nat.le_refl _), pk_un (by omega), ih]
set_option maxHeartbeats 4000000 in
set_option maxRecDepth 20000 in
theorem c_X4_heightAfter {E : Ev} {g : Sh} {i : Ni} {j : Nj} {K : Kp} {x n d b p s o : Nat} {t m : Int32} (hB : zB g i x n d b p s o) (hK : ∀ i' : Ni, i' x = upd (i x) 0 (c3 (tv (i n 5) t) (0 ≤ m.toInt ∧ m.toInt ≤ 300) True) → (∀ r, r ≠ x → r ≠ d → i' r = i r) → K (.inl (some (.int (if tv (i n 5) t ∧ 0 ≤ m.toInt ∧ m.toInt ≤ 300 then sHigh (sWalk (i n) (zn m)) (zn t) else nI 0)))) g i' j) : zCon E mX4_heightAfter [.ref x, .int t, .int m] g i j K := by
  refine zcon_of (by decide +kernel) rfl rfl (lo := [.ref x, .int t, .int m]) rfl (fun X => ?_)
  have hB' := hB
  obtain ⟨hW, hR3, hO⟩ := hB
  have w1 := hW.1
  have w2 := hW.2.1
  have w8 := hW.2.2.2.2.2.2.2.1.1
  have w9 := hW.2.2.2.2.2.2.2.1.2
  have nx := hW.nx
  have dx := hW.dx
  have hM' := hW.m hR3
  have hD := hW.dr
  obtain ⟨hd1, hd2, hd3, hd4⟩ := id hD
  have hD1 := hW.d1 (v := d)
  have hbk := hW.bk hR3
  obtain ⟨hT, hT8⟩ := hO.T8
  refine r_aload_n qX4_heightAfter_0 rfl ?_
  refine r_aload_n qX4_heightAfter_1 rfl ?_
  refine r_iload_n qX4_heightAfter_2 rfl ?_
  refine r_cv1 (cu2 := 0) (su2 := 0) qX4_heightAfter_3 kX4_396 rfl (by decide +kernel) (c := 4) (by assumption) (by decide) rfl rfl rfl rfl rfl rfl ?_
  refine c_X4_hasTube (by first | assumption | omega | rfl | decide) (by first | assumption | omega | rfl | decide) (by first | assumption | omega | rfl | decide) ?_
  show zR E _ _ X 6 _ _ _ _ _ _ _
  refine r_iload_n qX4_heightAfter_6 rfl ?_
  refine r_cs1 (cu2 := 0) (su2 := 0) qX4_heightAfter_7 kX4_442 rfl (by decide +kernel) rfl rfl rfl rfl rfl ?_
  refine c_X4_isAhead ?_
  show zR E _ _ X 10 _ _ _ _ _ _ _
  refine r_cv2 (cu2 := 0) (su2 := 0) qX4_heightAfter_10 kX4_409 rfl (by decide +kernel) (c := 4) (by assumption) (by decide) rfl rfl rfl rfl rfl rfl ?_
  refine c_X4_passes2 (by first | assumption | omega | rfl | decide) ?_
  show zR E _ _ X 13 _ _ _ _ _ _ _
  generalize hi : wA i x (upd (i x) 0 (c3 (tv (i n 5) t) (0 ≤ m.toInt ∧ m.toInt ≤ 300) True)) = i'
  have ex : i' x = upd (i x) 0 (c3 (tv (i n 5) t) (0 ≤ m.toInt ∧ m.toInt ≤ 300) True) := by rw [← hi, wA_s]
  have eo : ∀ r, r ≠ x → i' r = i r := fun r hr => by rw [← hi]; exact wA_n hr
  clear hi
  refine r_if_ne (t := 18) qX4_heightAfter_13 (by decide) (fun hc13 => ?_) (fun hc13 => ?_)
  · have hv := zb_ne.mp hc13; clear hc13; rw [if_pos hv] at hK
    obtain ⟨et, hk⟩ := tv_nat hv.1; obtain ⟨eq, hq⟩ := nn_nat (b := 300) hv.2; generalize zn t = k at *; subst et; generalize zn m = q at *; subst eq; have h8 := hO.k8 hk
    refine r_aload_n qX4_heightAfter_18 rfl ?_
    refine r_cv0 (cu2 := 0) (su2 := 0) qX4_heightAfter_19 kX4_445 rfl (by decide +kernel) (c := 4) (by assumption) (by decide) rfl rfl rfl rfl rfl rfl ?_
    refine c_X4_startDraft hW ?_
    show zR E _ _ X 22 _ _ _ _ _ _ _
    rw [eo n nx]
    refine r_aload_n qX4_heightAfter_22 rfl ?_
    refine r_iload_n qX4_heightAfter_23 rfl ?_
    refine r_cv1 (cu2 := 0) (su2 := 0) qX4_heightAfter_24 kX4_140 rfl (by decide +kernel) (c := 4) (by assumption) (by decide) rfl rfl rfl rfl rfl rfl ?_
    refine c_X4_walk hD (by rw [wA_s]; exact hO) (by omega) ?_
    show zR E _ _ X 27 _ _ _ _ _ _ _
    simp only [wA_s, wA_wA]
    refine r_aload_n qX4_heightAfter_27 rfl ?_
    refine r_aload_n qX4_heightAfter_28 rfl ?_
    refine r_iload_n qX4_heightAfter_29 rfl ?_
    refine r_cv1 (cu2 := 0) (su2 := 0) qX4_heightAfter_30 kX4_186 rfl (by decide +kernel) (c := 4) (by assumption) (by decide) rfl rfl rfl rfl rfl rfl ?_
    refine c_X4_heightNow hD (by rw [wA_s]; exact (sWalk_f hO hk q).2) ?_
    show zR E _ _ X 33 _ _ _ _ _ _ _
    rw [wA_s]
    refine r_cv1 (cu2 := 0) (su2 := 0) qX4_heightAfter_33 kX4_448 rfl (by decide +kernel) (c := 4) (by assumption) (by decide) rfl rfl rfl rfl rfl rfl ?_
    refine c_X4_endDraft w1 hD1 ?_
    show zR E _ _ X 36 _ _ _ _ _ _ _
    rw [hbk]
    refine r_iret qX4_heightAfter_36 rfl rfl rfl rfl ?_
    exact hK _ (by rw [wA_n (Ne.symm dx)]; exact ex) (fun r h1 h2 => by rw [wA_n h2]; exact eo r h1)
  · rw [if_neg (zb_0.mp hc13)] at hK
    refine r_iconst (v := nI 0) qX4_heightAfter_16 (by decide) ?_
    refine r_iret qX4_heightAfter_17 rfl rfl rfl rfl ?_
    exact hK _ ex (fun r h1 h2 => eo r h1)
set_option maxHeartbeats 4000000 in
set_option maxRecDepth 20000 in
theorem c_X4_temperatureAfter {E : Ev} {g : Sh} {i : Ni} {j : Nj} {K : Kp} {x n d b p s o : Nat} {t m : Int32} (hB : zB g i x n d b p s o) (hK : ∀ i' : Ni, i' x = upd (i x) 0 (c3 (tv (i n 5) t) (0 ≤ m.toInt ∧ m.toInt ≤ 300) True) → (∀ r, r ≠ x → r ≠ d → i' r = i r) → K (.inl (some (.int (if tv (i n 5) t ∧ 0 ≤ m.toInt ∧ m.toInt ≤ 300 then sWalk (i n) (zn m) (42 + 21 * zn t + 5) else nI 0)))) g i' j) : zCon E mX4_temperatureAfter [.ref x, .int t, .int m] g i j K := by
  refine zcon_of (by decide +kernel) rfl rfl (lo := [.ref x, .int t, .int m]) rfl (fun X => ?_)
  have hB' := hB
  obtain ⟨hW, hR3, hO⟩ := hB
  have w1 := hW.1
  have w2 := hW.2.1
  have w8 := hW.2.2.2.2.2.2.2.1.1
  have w9 := hW.2.2.2.2.2.2.2.1.2
  have nx := hW.nx
  have dx := hW.dx
  have hM' := hW.m hR3
  have hD := hW.dr
  obtain ⟨hd1, hd2, hd3, hd4⟩ := id hD
  have hD1 := hW.d1 (v := d)
  have hbk := hW.bk hR3
  obtain ⟨hT, hT8⟩ := hO.T8
  refine r_aload_n qX4_temperatureAfter_0 rfl ?_
  refine r_aload_n qX4_temperatureAfter_1 rfl ?_
  refine r_iload_n qX4_temperatureAfter_2 rfl ?_
  refine r_cv1 (cu2 := 0) (su2 := 0) qX4_temperatureAfter_3 kX4_396 rfl (by decide +kernel) (c := 4) (by assumption) (by decide) rfl rfl rfl rfl rfl rfl ?_
  refine c_X4_hasTube (by first | assumption | omega | rfl | decide) (by first | assumption | omega | rfl | decide) (by first | assumption | omega | rfl | decide) ?_
  show zR E _ _ X 6 _ _ _ _ _ _ _
  refine r_iload_n qX4_temperatureAfter_6 rfl ?_
  refine r_cs1 (cu2 := 0) (su2 := 0) qX4_temperatureAfter_7 kX4_442 rfl (by decide +kernel) rfl rfl rfl rfl rfl ?_
  refine c_X4_isAhead ?_
  show zR E _ _ X 10 _ _ _ _ _ _ _
  refine r_cv2 (cu2 := 0) (su2 := 0) qX4_temperatureAfter_10 kX4_409 rfl (by decide +kernel) (c := 4) (by assumption) (by decide) rfl rfl rfl rfl rfl rfl ?_
  refine c_X4_passes2 (by first | assumption | omega | rfl | decide) ?_
  show zR E _ _ X 13 _ _ _ _ _ _ _
  generalize hi : wA i x (upd (i x) 0 (c3 (tv (i n 5) t) (0 ≤ m.toInt ∧ m.toInt ≤ 300) True)) = i'
  have ex : i' x = upd (i x) 0 (c3 (tv (i n 5) t) (0 ≤ m.toInt ∧ m.toInt ≤ 300) True) := by rw [← hi, wA_s]
  have eo : ∀ r, r ≠ x → i' r = i r := fun r hr => by rw [← hi]; exact wA_n hr
  clear hi
  refine r_if_ne (t := 18) qX4_temperatureAfter_13 (by decide) (fun hc13 => ?_) (fun hc13 => ?_)
  · have hv := zb_ne.mp hc13; clear hc13; rw [if_pos hv] at hK
    obtain ⟨et, hk⟩ := tv_nat hv.1; obtain ⟨eq, hq⟩ := nn_nat (b := 300) hv.2; generalize zn t = k at *; subst et; generalize zn m = q at *; subst eq; have h8 := hO.k8 hk
    refine r_aload_n qX4_temperatureAfter_18 rfl ?_
    refine r_cv0 (cu2 := 0) (su2 := 0) qX4_temperatureAfter_19 kX4_445 rfl (by decide +kernel) (c := 4) (by assumption) (by decide) rfl rfl rfl rfl rfl rfl ?_
    refine c_X4_startDraft hW ?_
    show zR E _ _ X 22 _ _ _ _ _ _ _
    rw [eo n nx]
    refine r_aload_n qX4_temperatureAfter_22 rfl ?_
    refine r_iload_n qX4_temperatureAfter_23 rfl ?_
    refine r_cv1 (cu2 := 0) (su2 := 0) qX4_temperatureAfter_24 kX4_140 rfl (by decide +kernel) (c := 4) (by assumption) (by decide) rfl rfl rfl rfl rfl rfl ?_
    refine c_X4_walk hD (by rw [wA_s]; exact hO) (by omega) ?_
    show zR E _ _ X 27 _ _ _ _ _ _ _
    simp only [wA_s, wA_wA]
    refine r_aload_n qX4_temperatureAfter_27 rfl ?_
    refine r_aload_n qX4_temperatureAfter_28 rfl ?_
    refine r_iload_n qX4_temperatureAfter_29 rfl ?_
    refine r_iconst (v := nI 5) qX4_temperatureAfter_30 (by decide) ?_
    refine r_cv2 (cu2 := 0) (su2 := 0) qX4_temperatureAfter_31 kX4_148 rfl (by decide +kernel) (c := 4) (by assumption) (by decide) rfl rfl rfl rfl rfl rfl ?_
    refine c_X4_of hD (by omega) ?_
    show zR E _ _ X 34 _ _ _ _ _ _ _
    rw [wA_s]
    refine r_cv1 (cu2 := 0) (su2 := 0) qX4_temperatureAfter_34 kX4_448 rfl (by decide +kernel) (c := 4) (by assumption) (by decide) rfl rfl rfl rfl rfl rfl ?_
    refine c_X4_endDraft w1 hD1 ?_
    show zR E _ _ X 37 _ _ _ _ _ _ _
    rw [hbk]
    refine r_iret qX4_temperatureAfter_37 rfl rfl rfl rfl ?_
    exact hK _ (by rw [wA_n (Ne.symm dx)]; exact ex) (fun r h1 h2 => by rw [wA_n h2]; exact eo r h1)
  · rw [if_neg (zb_0.mp hc13)] at hK
    refine r_iconst (v := nI 0) qX4_temperatureAfter_16 (by decide) ?_
    refine r_iret qX4_temperatureAfter_17 rfl rfl rfl rfl ?_
    exact hK _ ex (fun r h1 h2 => eo r h1)
set_option maxHeartbeats 4000000 in
set_option maxRecDepth 20000 in
theorem c_X4_minutesUntilSettled {E : Ev} {g : Sh} {i : Ni} {j : Nj} {K : Kp} {x n d b p s o : Nat} {t : Int32} (hB : zB g i x n d b p s o) (hK : ∀ i' : Ni, i' x = upd (i x) 0 (c3 (tv (i n 5) t) True True) → (∀ r, r ≠ x → r ≠ d → i' r = i r) → K (.inl (some (.int (if tv (i n 5) t then sUntil (fStill (i n) (zn t)) 0 301 else nI 0)))) g i' j) : zCon E mX4_minutesUntilSettled [.ref x, .int t] g i j K := by
  refine zcon_of (by decide +kernel) rfl rfl (lo := [.ref x, .int t, zJ]) rfl (fun X => ?_)
  have hB' := hB
  obtain ⟨hW, hR3, hO⟩ := hB
  have w1 := hW.1
  have w2 := hW.2.1
  have w8 := hW.2.2.2.2.2.2.2.1.1
  have w9 := hW.2.2.2.2.2.2.2.1.2
  have nx := hW.nx
  have dx := hW.dx
  have hM' := hW.m hR3
  have hD := hW.dr
  obtain ⟨hd1, hd2, hd3, hd4⟩ := id hD
  have hD1 := hW.d1 (v := d)
  have hbk := hW.bk hR3
  obtain ⟨hT, hT8⟩ := hO.T8
  have KL : ∀ (i' : Ni) (k : Nat), k < zn (i n 5) → (∀ v f, v = sUntil (fStill (i n) k) 0 301 → K (.inl (some (.int v))) g (wA i' d f) j) → ∀ q p : Nat, p + q = 301 → 0 ≤ p → (∀ v, v = sUntil (fStill (i n) k) p q → v = sUntil (fStill (i n) k) 0 301) → zR E mX4_minutesUntilSettled (zZ E mX4_minutesUntilSettled K) X 20 [.ref x, .int (nI k), .int (nI p)] [] (wR g x 3 d) (wA i' d (sWalk (i n) p)) j 0 0 := by
    intro i' k hk hK2 q
    have h8 := hO.k8 hk
    clear hK
    induction q with
    | zero =>
      intro p hp hp0 hu
      obtain rfl : p = 301 := by omega
      refine r_iload_n qX4_minutesUntilSettled_20 rfl ?_
      refine r_sipush (v := nI 300) qX4_minutesUntilSettled_21 (by decide) ?_
      refine r_icmp_gt (t := 52) qX4_minutesUntilSettled_24 (by decide) (fun hc24 => ?_) (fun hc24 => absurd hc24 (fun h => h (nI_lt (by omega) (by omega))))
      refine r_aload_n qX4_minutesUntilSettled_52 rfl ?_
      refine r_iconst (v := (-1)) qX4_minutesUntilSettled_53 (by decide) ?_
      refine r_cv1 (cu2 := 0) (su2 := 0) qX4_minutesUntilSettled_54 kX4_448 rfl (by decide +kernel) (c := 4) (by assumption) (by decide) rfl rfl rfl rfl rfl rfl ?_
      refine c_X4_endDraft w1 hD1 ?_
      show zR E _ _ X 57 _ _ _ _ _ _ _
      refine r_iret qX4_minutesUntilSettled_57 rfl rfl rfl rfl ?_
      rw [hbk]; exact hK2 _ _ (hu _ rfl)
    | succ q ih =>
      intro p hp hp0 hu
      refine r_iload_n qX4_minutesUntilSettled_20 rfl ?_
      refine r_sipush (v := nI 300) qX4_minutesUntilSettled_21 (by decide) ?_
      refine r_icmp_gt (t := 52) qX4_minutesUntilSettled_24 (by decide) (fun hc24 => absurd hc24 (nI_nlt (by omega) (by omega))) (fun hc24 => ?_)
      refine r_aload_n qX4_minutesUntilSettled_27 rfl ?_
      refine r_iload_n qX4_minutesUntilSettled_28 rfl ?_
      refine r_cv1 (cu2 := 0) (su2 := 0) qX4_minutesUntilSettled_29 kX4_178 rfl (by decide +kernel) (c := 4) (by assumption) (by decide) rfl rfl rfl rfl rfl rfl ?_
      refine c_X4_isStill hD (by rw [wA_s]; exact (sWalk_ok hO p).1) (by rw [wA_s]; exact (sWalk_f hO hk p).1) ?_
      show zR E _ _ X 32 _ _ _ _ _ _ _
      rw [wA_s]
      refine r_if_eq (t := 41) qX4_minutesUntilSettled_32 (by decide) (fun hc32 => ?_) (fun hc32 => ?_)
      · refine r_aload_n qX4_minutesUntilSettled_41 rfl ?_
        refine r_iconst (v := nI 1) qX4_minutesUntilSettled_42 (by decide) ?_
        refine r_cv1 (cu2 := 0) (su2 := 0) qX4_minutesUntilSettled_43 kX4_140 rfl (by decide +kernel) (c := 4) (by assumption) (by decide) rfl rfl rfl rfl rfl rfl ?_
        refine c_X4_walk (n := 1) hD (by rw [wA_s]; exact (sWalk_ok hO p).1) (by omega) ?_
        show zR E _ _ X 46 _ _ _ _ _ _ _
        simp only [wA_s, wA_wA]; change zR E _ _ X 46 _ _ _ (wA i' d (sWalk (i n) (p + 1))) _ _ _
        refine r_ii_3_2 qX4_minutesUntilSettled_46 rfl rfl (nI_inc p) ?_
        refine r_goto (t := 20) qX4_minutesUntilSettled_49 (by decide) ?_
        have z := ih (p + 1) (by omega) (by omega) (fun v hv => hu v (hv.trans (sUntil_n (fun h => (zb_0.mp hc32) (of_decide_eq_true h))).symm)); exact z
      · refine r_aload_n qX4_minutesUntilSettled_35 rfl ?_
        refine r_iload_n qX4_minutesUntilSettled_36 rfl ?_
        refine r_cv1 (cu2 := 0) (su2 := 0) qX4_minutesUntilSettled_37 kX4_448 rfl (by decide +kernel) (c := 4) (by assumption) (by decide) rfl rfl rfl rfl rfl rfl ?_
        refine c_X4_endDraft w1 hD1 ?_
        show zR E _ _ X 40 _ _ _ _ _ _ _
        refine r_iret qX4_minutesUntilSettled_40 rfl rfl rfl rfl ?_
        rw [hbk]; exact hK2 _ _ (hu _ (sUntil_y (decide_eq_true (zb_ne.mp hc32))).symm)
  refine r_aload_n qX4_minutesUntilSettled_0 rfl ?_
  refine r_aload_n qX4_minutesUntilSettled_1 rfl ?_
  refine r_iload_n qX4_minutesUntilSettled_2 rfl ?_
  refine r_cv1 (cu2 := 0) (su2 := 0) qX4_minutesUntilSettled_3 kX4_396 rfl (by decide +kernel) (c := 4) (by assumption) (by decide) rfl rfl rfl rfl rfl rfl ?_
  refine c_X4_hasTube (by first | assumption | omega | rfl | decide) (by first | assumption | omega | rfl | decide) (by first | assumption | omega | rfl | decide) ?_
  show zR E _ _ X 6 _ _ _ _ _ _ _
  refine r_cv1 (cu2 := 0) (su2 := 0) qX4_minutesUntilSettled_6 kX4_371 rfl (by decide +kernel) (c := 4) (by assumption) (by decide) rfl rfl rfl rfl rfl rfl ?_
  refine c_X4_passes1 (by first | assumption | omega | rfl | decide) ?_
  show zR E _ _ X 9 _ _ _ _ _ _ _
  generalize hi : wA i x (upd (i x) 0 (c3 (tv (i n 5) t) True True)) = i'
  have ex : i' x = upd (i x) 0 (c3 (tv (i n 5) t) True True) := by rw [← hi, wA_s]
  have eo : ∀ r, r ≠ x → i' r = i r := fun r hr => by rw [← hi]; exact wA_n hr
  clear hi
  refine r_if_ne (t := 14) qX4_minutesUntilSettled_9 (by decide) (fun hc9 => ?_) (fun hc9 => ?_)
  · have hv := zb_ne.mp hc9; clear hc9; rw [if_pos hv] at hK
    obtain ⟨et, hk⟩ := tv_nat hv; generalize zn t = k at *; subst et; have h8 := hO.k8 hk
    refine r_aload_n qX4_minutesUntilSettled_14 rfl ?_
    refine r_cv0 (cu2 := 0) (su2 := 0) qX4_minutesUntilSettled_15 kX4_445 rfl (by decide +kernel) (c := 4) (by assumption) (by decide) rfl rfl rfl rfl rfl rfl ?_
    refine c_X4_startDraft hW ?_
    show zR E _ _ X 18 _ _ _ _ _ _ _
    rw [eo n nx]
    refine r_iconst (v := nI 0) qX4_minutesUntilSettled_18 (by decide) ?_
    refine r_is_3_2 qX4_minutesUntilSettled_19 rfl rfl ?_
    exact KL i' k hk (fun v f hv => by rw [hv]; exact hK _ (by rw [wA_n (Ne.symm dx)]; exact ex) (fun r h1 h2 => by rw [wA_n h2]; exact eo r h1)) 301 0 (by omega) (by omega) (fun v hv => hv)
  · rw [if_neg (zb_0.mp hc9)] at hK
    refine r_iconst (v := nI 0) qX4_minutesUntilSettled_12 (by decide) ?_
    refine r_iret qX4_minutesUntilSettled_13 rfl rfl rfl rfl ?_
    exact hK _ ex (fun r h1 h2 => eo r h1)
set_option maxHeartbeats 4000000 in
set_option maxRecDepth 20000 in
theorem c_X4_minutesUntilHeight {E : Ev} {g : Sh} {i : Ni} {j : Nj} {K : Kp} {x n d b p s o : Nat} {t h : Int32} (hB : zB g i x n d b p s o) (hK : ∀ i' : Ni, i' x = upd (i x) 0 (c3 (tv (i n 5) t) (0 ≤ h.toInt ∧ h.toInt ≤ 999) True) → (∀ r, r ≠ x → r ≠ d → i' r = i r) → K (.inl (some (.int (if tv (i n 5) t ∧ 0 ≤ h.toInt ∧ h.toInt ≤ 999 then sUntil (fHigh (i n) (zn t) h) 0 301 else nI 0)))) g i' j) : zCon E mX4_minutesUntilHeight [.ref x, .int t, .int h] g i j K := by
  refine zcon_of (by decide +kernel) rfl rfl (lo := [.ref x, .int t, .int h, zJ]) rfl (fun X => ?_)
  have hB' := hB
  obtain ⟨hW, hR3, hO⟩ := hB
  have w1 := hW.1
  have w2 := hW.2.1
  have w8 := hW.2.2.2.2.2.2.2.1.1
  have w9 := hW.2.2.2.2.2.2.2.1.2
  have nx := hW.nx
  have dx := hW.dx
  have hM' := hW.m hR3
  have hD := hW.dr
  obtain ⟨hd1, hd2, hd3, hd4⟩ := id hD
  have hD1 := hW.d1 (v := d)
  have hbk := hW.bk hR3
  obtain ⟨hT, hT8⟩ := hO.T8
  have KL : ∀ (i' : Ni) (k : Nat), k < zn (i n 5) → (∀ v f, v = sUntil (fHigh (i n) k h) 0 301 → K (.inl (some (.int v))) g (wA i' d f) j) → ∀ q p : Nat, p + q = 301 → 0 ≤ p → (∀ v, v = sUntil (fHigh (i n) k h) p q → v = sUntil (fHigh (i n) k h) 0 301) → zR E mX4_minutesUntilHeight (zZ E mX4_minutesUntilHeight K) X 24 [.ref x, .int (nI k), .int h, .int (nI p)] [] (wR g x 3 d) (wA i' d (sWalk (i n) p)) j 0 0 := by
    intro i' k hk hK2 q
    have h8 := hO.k8 hk
    clear hK
    induction q with
    | zero =>
      intro p hp hp0 hu
      obtain rfl : p = 301 := by omega
      refine r_iload_n qX4_minutesUntilHeight_24 rfl ?_
      refine r_sipush (v := nI 300) qX4_minutesUntilHeight_25 (by decide) ?_
      refine r_icmp_gt (t := 57) qX4_minutesUntilHeight_28 (by decide) (fun hc28 => ?_) (fun hc28 => absurd hc28 (fun h => h (nI_lt (by omega) (by omega))))
      refine r_aload_n qX4_minutesUntilHeight_57 rfl ?_
      refine r_iconst (v := (-1)) qX4_minutesUntilHeight_58 (by decide) ?_
      refine r_cv1 (cu2 := 0) (su2 := 0) qX4_minutesUntilHeight_59 kX4_448 rfl (by decide +kernel) (c := 4) (by assumption) (by decide) rfl rfl rfl rfl rfl rfl ?_
      refine c_X4_endDraft w1 hD1 ?_
      show zR E _ _ X 62 _ _ _ _ _ _ _
      refine r_iret qX4_minutesUntilHeight_62 rfl rfl rfl rfl ?_
      rw [hbk]; exact hK2 _ _ (hu _ rfl)
    | succ q ih =>
      intro p hp hp0 hu
      refine r_iload_n qX4_minutesUntilHeight_24 rfl ?_
      refine r_sipush (v := nI 300) qX4_minutesUntilHeight_25 (by decide) ?_
      refine r_icmp_gt (t := 57) qX4_minutesUntilHeight_28 (by decide) (fun hc28 => absurd hc28 (nI_nlt (by omega) (by omega))) (fun hc28 => ?_)
      refine r_aload_n qX4_minutesUntilHeight_31 rfl ?_
      refine r_iload_n qX4_minutesUntilHeight_32 rfl ?_
      refine r_cv1 (cu2 := 0) (su2 := 0) qX4_minutesUntilHeight_33 kX4_186 rfl (by decide +kernel) (c := 4) (by assumption) (by decide) rfl rfl rfl rfl rfl rfl ?_
      refine c_X4_heightNow hD (by rw [wA_s]; exact (sWalk_f hO hk p).2) ?_
      show zR E _ _ X 36 _ _ _ _ _ _ _
      rw [wA_s]
      refine r_iload_n qX4_minutesUntilHeight_36 rfl ?_
      refine r_icmp_lt (t := 46) qX4_minutesUntilHeight_37 (by decide) (fun hc37 => ?_) (fun hc37 => ?_)
      · refine r_aload_n qX4_minutesUntilHeight_46 rfl ?_
        refine r_iconst (v := nI 1) qX4_minutesUntilHeight_47 (by decide) ?_
        refine r_cv1 (cu2 := 0) (su2 := 0) qX4_minutesUntilHeight_48 kX4_140 rfl (by decide +kernel) (c := 4) (by assumption) (by decide) rfl rfl rfl rfl rfl rfl ?_
        refine c_X4_walk (n := 1) hD (by rw [wA_s]; exact (sWalk_ok hO p).1) (by omega) ?_
        show zR E _ _ X 51 _ _ _ _ _ _ _
        simp only [wA_s, wA_wA]; change zR E _ _ X 51 _ _ _ (wA i' d (sWalk (i n) (p + 1))) _ _ _
        refine r_ii_4_3 qX4_minutesUntilHeight_51 rfl rfl (nI_inc p) ?_
        refine r_goto (t := 24) qX4_minutesUntilHeight_54 (by decide) ?_
        have z := ih (p + 1) (by omega) (by omega) (fun v hv => hu v (hv.trans (sUntil_n (fun h => (Int32.not_le.mpr hc37) (of_decide_eq_true h))).symm)); exact z
      · refine r_aload_n qX4_minutesUntilHeight_40 rfl ?_
        refine r_iload_n qX4_minutesUntilHeight_41 rfl ?_
        refine r_cv1 (cu2 := 0) (su2 := 0) qX4_minutesUntilHeight_42 kX4_448 rfl (by decide +kernel) (c := 4) (by assumption) (by decide) rfl rfl rfl rfl rfl rfl ?_
        refine c_X4_endDraft w1 hD1 ?_
        show zR E _ _ X 45 _ _ _ _ _ _ _
        refine r_iret qX4_minutesUntilHeight_45 rfl rfl rfl rfl ?_
        rw [hbk]; exact hK2 _ _ (hu _ (sUntil_y (decide_eq_true (Int32.not_lt.mp hc37))).symm)
  refine r_aload_n qX4_minutesUntilHeight_0 rfl ?_
  refine r_aload_n qX4_minutesUntilHeight_1 rfl ?_
  refine r_iload_n qX4_minutesUntilHeight_2 rfl ?_
  refine r_cv1 (cu2 := 0) (su2 := 0) qX4_minutesUntilHeight_3 kX4_396 rfl (by decide +kernel) (c := 4) (by assumption) (by decide) rfl rfl rfl rfl rfl rfl ?_
  refine c_X4_hasTube (by first | assumption | omega | rfl | decide) (by first | assumption | omega | rfl | decide) (by first | assumption | omega | rfl | decide) ?_
  show zR E _ _ X 6 _ _ _ _ _ _ _
  refine r_iload_n qX4_minutesUntilHeight_6 rfl ?_
  refine r_cs1 (cu2 := 0) (su2 := 0) qX4_minutesUntilHeight_7 kX4_427 rfl (by decide +kernel) rfl rfl rfl rfl rfl ?_
  refine c_X4_isHeight ?_
  show zR E _ _ X 10 _ _ _ _ _ _ _
  refine r_cv2 (cu2 := 0) (su2 := 0) qX4_minutesUntilHeight_10 kX4_409 rfl (by decide +kernel) (c := 4) (by assumption) (by decide) rfl rfl rfl rfl rfl rfl ?_
  refine c_X4_passes2 (by first | assumption | omega | rfl | decide) ?_
  show zR E _ _ X 13 _ _ _ _ _ _ _
  generalize hi : wA i x (upd (i x) 0 (c3 (tv (i n 5) t) (0 ≤ h.toInt ∧ h.toInt ≤ 999) True)) = i'
  have ex : i' x = upd (i x) 0 (c3 (tv (i n 5) t) (0 ≤ h.toInt ∧ h.toInt ≤ 999) True) := by rw [← hi, wA_s]
  have eo : ∀ r, r ≠ x → i' r = i r := fun r hr => by rw [← hi]; exact wA_n hr
  clear hi
  refine r_if_ne (t := 18) qX4_minutesUntilHeight_13 (by decide) (fun hc13 => ?_) (fun hc13 => ?_)
  · have hv := zb_ne.mp hc13; clear hc13; rw [if_pos hv] at hK
    obtain ⟨et, hk⟩ := tv_nat hv.1; generalize zn t = k at *; subst et; have h8 := hO.k8 hk
    refine r_aload_n qX4_minutesUntilHeight_18 rfl ?_
    refine r_cv0 (cu2 := 0) (su2 := 0) qX4_minutesUntilHeight_19 kX4_445 rfl (by decide +kernel) (c := 4) (by assumption) (by decide) rfl rfl rfl rfl rfl rfl ?_
    refine c_X4_startDraft hW ?_
    show zR E _ _ X 22 _ _ _ _ _ _ _
    rw [eo n nx]
    refine r_iconst (v := nI 0) qX4_minutesUntilHeight_22 (by decide) ?_
    refine r_is_4_3 qX4_minutesUntilHeight_23 rfl rfl ?_
    exact KL i' k hk (fun v f hv => by rw [hv]; exact hK _ (by rw [wA_n (Ne.symm dx)]; exact ex) (fun r h1 h2 => by rw [wA_n h2]; exact eo r h1)) 301 0 (by omega) (by omega) (fun v hv => hv)
  · rw [if_neg (zb_0.mp hc13)] at hK
    refine r_iconst (v := nI 0) qX4_minutesUntilHeight_16 (by decide) ?_
    refine r_iret qX4_minutesUntilHeight_17 rfl rfl rfl rfl ?_
    exact hK _ ex (fun r h1 h2 => eo r h1)
set_option maxHeartbeats 4000000 in
set_option maxRecDepth 20000 in
theorem c_X4_minutesUntilSpill {E : Ev} {g : Sh} {i : Ni} {j : Nj} {K : Kp} {x n d b p s o : Nat} {t : Int32} (hB : zB g i x n d b p s o) (hK : ∀ i' : Ni, i' x = upd (i x) 0 (c3 (tv (i n 5) t) True True) → (∀ r, r ≠ x → r ≠ d → i' r = i r) → K (.inl (some (.int (if tv (i n 5) t then sUntil (fSpill (i n) (zn t)) 1 300 else nI 0)))) g i' j) : zCon E mX4_minutesUntilSpill [.ref x, .int t] g i j K := by
  refine zcon_of (by decide +kernel) rfl rfl (lo := [.ref x, .int t, zJ]) rfl (fun X => ?_)
  have hB' := hB
  obtain ⟨hW, hR3, hO⟩ := hB
  have w1 := hW.1
  have w2 := hW.2.1
  have w8 := hW.2.2.2.2.2.2.2.1.1
  have w9 := hW.2.2.2.2.2.2.2.1.2
  have nx := hW.nx
  have dx := hW.dx
  have hM' := hW.m hR3
  have hD := hW.dr
  obtain ⟨hd1, hd2, hd3, hd4⟩ := id hD
  have hD1 := hW.d1 (v := d)
  have hbk := hW.bk hR3
  obtain ⟨hT, hT8⟩ := hO.T8
  have KL : ∀ (i' : Ni) (k : Nat), k < zn (i n 5) → (∀ v f, v = sUntil (fSpill (i n) k) 1 300 → K (.inl (some (.int v))) g (wA i' d f) j) → ∀ q p : Nat, p + q = 301 → 1 ≤ p → (∀ v, v = sUntil (fSpill (i n) k) p q → v = sUntil (fSpill (i n) k) 1 300) → zR E mX4_minutesUntilSpill (zZ E mX4_minutesUntilSpill K) X 20 [.ref x, .int (nI k), .int (nI p)] [] (wR g x 3 d) (wA i' d (sWalk (i n) (p - 1))) j 0 0 := by
    intro i' k hk hK2 q
    have h8 := hO.k8 hk
    clear hK
    induction q with
    | zero =>
      intro p hp hp0 hu
      obtain rfl : p = 301 := by omega
      refine r_iload_n qX4_minutesUntilSpill_20 rfl ?_
      refine r_sipush (v := nI 300) qX4_minutesUntilSpill_21 (by decide) ?_
      refine r_icmp_gt (t := 59) qX4_minutesUntilSpill_24 (by decide) (fun hc24 => ?_) (fun hc24 => absurd hc24 (fun h => h (nI_lt (by omega) (by omega))))
      refine r_aload_n qX4_minutesUntilSpill_59 rfl ?_
      refine r_iconst (v := (-1)) qX4_minutesUntilSpill_60 (by decide) ?_
      refine r_cv1 (cu2 := 0) (su2 := 0) qX4_minutesUntilSpill_61 kX4_448 rfl (by decide +kernel) (c := 4) (by assumption) (by decide) rfl rfl rfl rfl rfl rfl ?_
      refine c_X4_endDraft w1 hD1 ?_
      show zR E _ _ X 64 _ _ _ _ _ _ _
      refine r_iret qX4_minutesUntilSpill_64 rfl rfl rfl rfl ?_
      rw [hbk]; exact hK2 _ _ (hu _ rfl)
    | succ q ih =>
      intro p hp hp0 hu
      refine r_iload_n qX4_minutesUntilSpill_20 rfl ?_
      refine r_sipush (v := nI 300) qX4_minutesUntilSpill_21 (by decide) ?_
      refine r_icmp_gt (t := 59) qX4_minutesUntilSpill_24 (by decide) (fun hc24 => absurd hc24 (nI_nlt (by omega) (by omega))) (fun hc24 => ?_)
      refine r_aload_n qX4_minutesUntilSpill_27 rfl ?_
      refine r_iconst (v := nI 1) qX4_minutesUntilSpill_28 (by decide) ?_
      refine r_cv1 (cu2 := 0) (su2 := 0) qX4_minutesUntilSpill_29 kX4_140 rfl (by decide +kernel) (c := 4) (by assumption) (by decide) rfl rfl rfl rfl rfl rfl ?_
      refine c_X4_walk (n := 1) hD (by rw [wA_s]; exact (sWalk_ok hO (p - 1)).1) (by omega) ?_
      show zR E _ _ X 32 _ _ _ _ _ _ _
      simp only [wA_s, wA_wA]; change zR E _ _ X 32 _ _ _ (wA i' d (sWalk (i n) (p - 1 + 1))) _ _ _; rw [show p - 1 + 1 = p by omega]
      refine r_aload_n qX4_minutesUntilSpill_32 rfl ?_
      refine r_getr qX4_minutesUntilSpill_33 fX4_24 rfl (by assumption) (by first | assumption | rfl) ?_
      refine r_bipush (v := nI 9) qX4_minutesUntilSpill_36 (by decide) ?_
      refine r_ialdN qX4_minutesUntilSpill_38 (by assumption) (by assumption) (by omega) rfl ?_
      rw [wA_s]
      refine r_iload_n qX4_minutesUntilSpill_39 rfl ?_
      refine r_ishr qX4_minutesUntilSpill_40 ?_
      refine r_iconst (v := nI 1) qX4_minutesUntilSpill_41 (by decide) ?_
      refine r_iand qX4_minutesUntilSpill_42 ?_
      refine r_iconst (v := nI 1) qX4_minutesUntilSpill_43 (by decide) ?_
      refine r_icmp_ne (t := 53) qX4_minutesUntilSpill_44 (by decide) (fun hc44 => ?_) (fun hc44 => ?_)
      · refine r_ii_3_2 qX4_minutesUntilSpill_53 rfl rfl (nI_inc p) ?_
        refine r_goto (t := 20) qX4_minutesUntilSpill_56 (by decide) ?_
        have z := ih (p + 1) (by omega) (by omega) (fun v hv => hu v (hv.trans (sUntil_n (fun h => hc44 (of_decide_eq_true h))).symm)); exact z
      · refine r_aload_n qX4_minutesUntilSpill_47 rfl ?_
        refine r_iload_n qX4_minutesUntilSpill_48 rfl ?_
        refine r_cv1 (cu2 := 0) (su2 := 0) qX4_minutesUntilSpill_49 kX4_448 rfl (by decide +kernel) (c := 4) (by assumption) (by decide) rfl rfl rfl rfl rfl rfl ?_
        refine c_X4_endDraft w1 hD1 ?_
        show zR E _ _ X 52 _ _ _ _ _ _ _
        refine r_iret qX4_minutesUntilSpill_52 rfl rfl rfl rfl ?_
        rw [hbk]; exact hK2 _ _ (hu _ (sUntil_y (decide_eq_true hc44)).symm)
  refine r_aload_n qX4_minutesUntilSpill_0 rfl ?_
  refine r_aload_n qX4_minutesUntilSpill_1 rfl ?_
  refine r_iload_n qX4_minutesUntilSpill_2 rfl ?_
  refine r_cv1 (cu2 := 0) (su2 := 0) qX4_minutesUntilSpill_3 kX4_396 rfl (by decide +kernel) (c := 4) (by assumption) (by decide) rfl rfl rfl rfl rfl rfl ?_
  refine c_X4_hasTube (by first | assumption | omega | rfl | decide) (by first | assumption | omega | rfl | decide) (by first | assumption | omega | rfl | decide) ?_
  show zR E _ _ X 6 _ _ _ _ _ _ _
  refine r_cv1 (cu2 := 0) (su2 := 0) qX4_minutesUntilSpill_6 kX4_371 rfl (by decide +kernel) (c := 4) (by assumption) (by decide) rfl rfl rfl rfl rfl rfl ?_
  refine c_X4_passes1 (by first | assumption | omega | rfl | decide) ?_
  show zR E _ _ X 9 _ _ _ _ _ _ _
  generalize hi : wA i x (upd (i x) 0 (c3 (tv (i n 5) t) True True)) = i'
  have ex : i' x = upd (i x) 0 (c3 (tv (i n 5) t) True True) := by rw [← hi, wA_s]
  have eo : ∀ r, r ≠ x → i' r = i r := fun r hr => by rw [← hi]; exact wA_n hr
  clear hi
  refine r_if_ne (t := 14) qX4_minutesUntilSpill_9 (by decide) (fun hc9 => ?_) (fun hc9 => ?_)
  · have hv := zb_ne.mp hc9; clear hc9; rw [if_pos hv] at hK
    obtain ⟨et, hk⟩ := tv_nat hv; generalize zn t = k at *; subst et; have h8 := hO.k8 hk
    refine r_aload_n qX4_minutesUntilSpill_14 rfl ?_
    refine r_cv0 (cu2 := 0) (su2 := 0) qX4_minutesUntilSpill_15 kX4_445 rfl (by decide +kernel) (c := 4) (by assumption) (by decide) rfl rfl rfl rfl rfl rfl ?_
    refine c_X4_startDraft hW ?_
    show zR E _ _ X 18 _ _ _ _ _ _ _
    rw [eo n nx]
    refine r_iconst (v := nI 1) qX4_minutesUntilSpill_18 (by decide) ?_
    refine r_is_3_2 qX4_minutesUntilSpill_19 rfl rfl ?_
    exact KL i' k hk (fun v f hv => by rw [hv]; exact hK _ (by rw [wA_n (Ne.symm dx)]; exact ex) (fun r h1 h2 => by rw [wA_n h2]; exact eo r h1)) 300 1 (by omega) (by omega) (fun v hv => hv)
  · rw [if_neg (zb_0.mp hc9)] at hK
    refine r_iconst (v := nI 0) qX4_minutesUntilSpill_12 (by decide) ?_
    refine r_iret qX4_minutesUntilSpill_13 rfl rfl rfl rfl ?_
    exact hK _ ex (fun r h1 h2 => eo r h1)
set_option maxHeartbeats 4000000 in
set_option maxRecDepth 20000 in
theorem c_X4_lossAfter {E : Ev} {g : Sh} {i : Ni} {j : Nj} {K : Kp} {x n d b p s o : Nat} {m : Int32} (hB : zB g i x n d b p s o) (hK : ∀ i' : Ni, i' x = upd (i x) 0 (c3 (0 ≤ m.toInt ∧ m.toInt ≤ 300) True True) → (∀ r, r ≠ x → r ≠ d → i' r = i r) → K (.inl (some (.int (if 0 ≤ m.toInt ∧ m.toInt ≤ 300 then sLost (sWalk (i n) (zn m)) (zn (i n 3)) - sLost (i n) (zn (i n 3)) else nI 0)))) g i' j) : zCon E mX4_lossAfter [.ref x, .int m] g i j K := by
  refine zcon_of (by decide +kernel) rfl rfl (lo := [.ref x, .int m, zJ]) rfl (fun X => ?_)
  have hB' := hB
  obtain ⟨hW, hR3, hO⟩ := hB
  have w1 := hW.1
  have w2 := hW.2.1
  have w8 := hW.2.2.2.2.2.2.2.1.1
  have w9 := hW.2.2.2.2.2.2.2.1.2
  have nx := hW.nx
  have dx := hW.dx
  have hM' := hW.m hR3
  have hD := hW.dr
  obtain ⟨hd1, hd2, hd3, hd4⟩ := id hD
  have hD1 := hW.d1 (v := d)
  have hbk := hW.bk hR3
  obtain ⟨hT, hT8⟩ := hO.T8
  refine r_aload_n qX4_lossAfter_0 rfl ?_
  refine r_iload_n qX4_lossAfter_1 rfl ?_
  refine r_cs1 (cu2 := 0) (su2 := 0) qX4_lossAfter_2 kX4_442 rfl (by decide +kernel) rfl rfl rfl rfl rfl ?_
  refine c_X4_isAhead ?_
  show zR E _ _ X 5 _ _ _ _ _ _ _
  refine r_cv1 (cu2 := 0) (su2 := 0) qX4_lossAfter_5 kX4_371 rfl (by decide +kernel) (c := 4) (by assumption) (by decide) rfl rfl rfl rfl rfl rfl ?_
  refine c_X4_passes1 (by first | assumption | omega | rfl | decide) ?_
  show zR E _ _ X 8 _ _ _ _ _ _ _
  generalize hi : wA i x (upd (i x) 0 (c3 (0 ≤ m.toInt ∧ m.toInt ≤ 300) True True)) = i'
  have ex : i' x = upd (i x) 0 (c3 (0 ≤ m.toInt ∧ m.toInt ≤ 300) True True) := by rw [← hi, wA_s]
  have eo : ∀ r, r ≠ x → i' r = i r := fun r hr => by rw [← hi]; exact wA_n hr
  clear hi
  refine r_if_ne (t := 13) qX4_lossAfter_8 (by decide) (fun hc8 => ?_) (fun hc8 => ?_)
  · have hv := zb_ne.mp hc8; clear hc8; rw [if_pos hv] at hK
    obtain ⟨eq, hq⟩ := nn_nat (b := 300) hv; generalize zn m = q at *; subst eq
    refine r_aload_n qX4_lossAfter_13 rfl ?_
    refine r_cv0 (cu2 := 0) (su2 := 0) qX4_lossAfter_14 kX4_451 rfl (by decide +kernel) (c := 4) (by assumption) (by decide) rfl rfl rfl rfl rfl rfl ?_
    refine c_X4_lostAll hM' (by rw [eo n nx]; exact hO.S5.1) (by rw [eo n nx]; exact hO.S5.2) ?_
    show zR E _ _ X 17 _ _ _ _ _ _ _
    rw [eo n nx]
    refine r_is_3_2 qX4_lossAfter_17 rfl rfl ?_
    refine r_aload_n qX4_lossAfter_18 rfl ?_
    refine r_cv0 (cu2 := 0) (su2 := 0) qX4_lossAfter_19 kX4_445 rfl (by decide +kernel) (c := 4) (by assumption) (by decide) rfl rfl rfl rfl rfl rfl ?_
    refine c_X4_startDraft hW ?_
    show zR E _ _ X 22 _ _ _ _ _ _ _
    rw [eo n nx]
    refine r_aload_n qX4_lossAfter_22 rfl ?_
    refine r_iload_n qX4_lossAfter_23 rfl ?_
    refine r_cv1 (cu2 := 0) (su2 := 0) qX4_lossAfter_24 kX4_140 rfl (by decide +kernel) (c := 4) (by assumption) (by decide) rfl rfl rfl rfl rfl rfl ?_
    refine c_X4_walk hD (by rw [wA_s]; exact hO) (by omega) ?_
    show zR E _ _ X 27 _ _ _ _ _ _ _
    simp only [wA_s, wA_wA]
    refine r_aload_n qX4_lossAfter_27 rfl ?_
    refine r_aload_n qX4_lossAfter_28 rfl ?_
    refine r_cv0 (cu2 := 0) (su2 := 0) qX4_lossAfter_29 kX4_451 rfl (by decide +kernel) (c := 4) (by assumption) (by decide) rfl rfl rfl rfl rfl rfl ?_
    refine c_X4_lostAll hD (by rw [wA_s]; exact (sWalk_ok hO q).1.S5.1) (by rw [wA_s]; exact (sWalk_ok hO q).1.S5.2) ?_
    show zR E _ _ X 32 _ _ _ _ _ _ _
    rw [wA_s, sWalk_3 hO q]
    refine r_iload_n qX4_lossAfter_32 rfl ?_
    refine r_isub qX4_lossAfter_33 ?_
    refine r_cv1 (cu2 := 0) (su2 := 0) qX4_lossAfter_34 kX4_448 rfl (by decide +kernel) (c := 4) (by assumption) (by decide) rfl rfl rfl rfl rfl rfl ?_
    refine c_X4_endDraft w1 hD1 ?_
    show zR E _ _ X 37 _ _ _ _ _ _ _
    rw [hbk]
    refine r_iret qX4_lossAfter_37 rfl rfl rfl rfl ?_
    exact hK _ (by rw [wA_n (Ne.symm dx)]; exact ex) (fun r h1 h2 => by rw [wA_n h2]; exact eo r h1)
  · rw [if_neg (zb_0.mp hc8)] at hK
    refine r_iconst (v := nI 0) qX4_lossAfter_11 (by decide) ?_
    refine r_iret qX4_lossAfter_12 rfl rfl rfl rfl ?_
    exact hK _ ex (fun r h1 h2 => eo r h1)

