/-! ===== THE CLASS: TESTS OF PARAMETERS ===== -/
def zX3 (g : Sh) (c : Nat) (a : Nat → Nat) : Prop := gT g c = 4 ∧ gR g c 1 = a 0 ∧ zC g a
/-- a call's end: the first test that fails throws -/
def oc3 (A B C : Prop) [Decidable A] [Decidable B] [Decidable C] (e1 e2 e3 : Nat) (v : Value) : Rs := if ¬ A then .inr e1 else if ¬ B then .inr e2 else if ¬ C then .inr e3 else .inl (some v)
section
variable {A B C : Prop} {dA : Decidable A} {dB : Decidable B} {dC : Decidable C} {e1 e2 e3 : Nat} {v : Value}
theorem oc3_a (h : ¬ A) : oc3 A B C e1 e2 e3 v = .inr e1 := if_pos h
theorem oc3_b (h : A) (h2 : ¬ B) : oc3 A B C e1 e2 e3 v = .inr e2 := by rw [oc3, if_neg (fun z => z h), if_pos h2]
theorem oc3_c (h : A) (h2 : B) (h3 : ¬ C) : oc3 A B C e1 e2 e3 v = .inr e3 := by rw [oc3, if_neg (fun z => z h), if_neg (fun z => z h2), if_pos h3]
theorem oc3_v (h : A) (h2 : B) (h3 : C) : oc3 A B C e1 e2 e3 v = .inl (some v) := by rw [oc3, if_neg (fun z => z h), if_neg (fun z => z h2), if_neg (fun z => z h3)]
end
theorem tv_lt {n t : Int32} (h : t < 0) : ¬ tv n t := fun h2 => by
  rw [Int32.lt_iff_toInt_lt, show (0 : Int32).toInt = 0 by decide] at h
  have := h2.1
  omega
theorem tv_ge {n t : Int32} {T : Nat} (hn : n = nI T) (hT : T < 1000) (h : ¬ t < n) : ¬ tv n t := fun h2 => by
  rw [hn, Int32.lt_iff_toInt_lt, nI_toInt (by omega)] at h
  have := h2.2
  rw [hn, zn_nI (by omega)] at this
  omega
theorem tv_ok {n t : Int32} {T : Nat} (hn : n = nI T) (hT : T < 1000) (h0 : ¬ t < 0) (h : t < n) : tv n t := by
  rw [Int32.lt_iff_toInt_lt, show (0 : Int32).toInt = 0 by decide] at h0
  rw [hn, Int32.lt_iff_toInt_lt, nI_toInt (by omega)] at h
  refine ⟨by omega, ?_⟩
  rw [hn, zn_nI (by omega)]
  exact h
theorem tv_mk {n : Int32} {k : Nat} (hk : k < zn n) (h : k < 2 ^ 31) : tv n (nI k) := by
  rw [tv, nI_toInt h]
  exact ⟨by omega, by omega⟩
set_option maxHeartbeats 4000000 in
set_option maxRecDepth 20000 in
theorem c_X3_checkedTube {E : Ev} {g : Sh} {i : Ni} {j : Nj} {K : Kp} {c : Nat} {a : Nat → Nat} {N : Nat → Int32} {t : Int32} (hX : zX3 g c a) (hH : zH i a N) (hX0 : ¬ tv (N 5) t → K (.inr 2) g i j) (hK : ∀ k, t = nI k → k < zn (N 5) → K (.inl (some (.ref (a (6 + 3 * k))))) g i j) : zCon E mX3_checkedTube [.ref c, .int t] g i j K := by
  refine zcon_of (by decide +kernel) rfl rfl (lo := [.ref c, .int t]) rfl (fun X => ?_)
  obtain ⟨x1, x2, hC⟩ := id hX
  have hO := hH.1
  obtain ⟨a1, a2, a3, a4, a5, a6, a7, a8, a9, a10, a11, a12, a13, a14, a15, a16, -⟩ := id hC
  obtain ⟨c5, c6, c7, c8, c9, c10, c11, c12⟩ := hH.cnt
  obtain ⟨hT, hT8⟩ := hO.T8
  obtain ⟨hS, hS5⟩ := hO.S5
  obtain ⟨hBt, hB4⟩ := hO.B4
  refine r_iload_n qX3_checkedTube_0 rfl ?_
  refine r_if_lt (t := 15) qX3_checkedTube_1 (by decide) (fun hc1 => ?_) (fun hc1 => ?_)
  · refine r_throww qX3_checkedTube_15 qX3_checkedTube_18 qX3_checkedTube_19 qX3_checkedTube_22 qX3_checkedTube_25 tX3_304_306 rfl rfl rfl rfl rfl ?_
    first | exact hX0 (tv_lt hc1) | exact hX0 (tv_ge hT (by omega) hc12)
  · refine r_iload_n qX3_checkedTube_4 rfl ?_
    refine r_aload_n qX3_checkedTube_5 rfl ?_
    refine r_getr qX3_checkedTube_6 fX3_40 rfl (by assumption) (by first | assumption | rfl) ?_
    refine r_geti qX3_checkedTube_9 fX3_104 rfl (by assumption) ?_
    rw [c7]
    refine r_icmp_lt (t := 26) qX3_checkedTube_12 (by decide) (fun hc12 => ?_) (fun hc12 => ?_)
    · have hv := tv_ok hT (by omega) hc1 hc12; obtain ⟨ek, hk⟩ := tv_nat hv; replace hK := hK _ ek hk; clear hv hX0 hc1 hc12; generalize zn t = k at *; subst ek; obtain ⟨tb1, hT3⟩ := hC.tb (show k < 8 by omega)
      refine r_aload_n qX3_checkedTube_26 rfl ?_
      refine r_getr qX3_checkedTube_27 fX3_40 rfl (by assumption) (by first | assumption | rfl) ?_
      refine r_getr qX3_checkedTube_30 fX3_120 rfl (by assumption) (by first | assumption | rfl) ?_
      refine r_iload_n qX3_checkedTube_33 rfl ?_
      refine r_aaldN qX3_checkedTube_34 (by first | exact Or.inl (by assumption) | exact Or.inr (by assumption)) (by assumption) (by omega) rfl (by first | assumption | rfl) ?_
      refine r_aret qX3_checkedTube_35 rfl rfl rfl rfl ?_
      exact hK
    · refine r_throww qX3_checkedTube_15 qX3_checkedTube_18 qX3_checkedTube_19 qX3_checkedTube_22 qX3_checkedTube_25 tX3_304_306 rfl rfl rfl rfl rfl ?_
      first | exact hX0 (tv_lt hc1) | exact hX0 (tv_ge hT (by omega) hc12)
set_option maxHeartbeats 4000000 in
set_option maxRecDepth 20000 in
theorem c_X3_checkBath {E : Ev} {g : Sh} {i : Ni} {j : Nj} {K : Kp} {c : Nat} {a : Nat → Nat} {N : Nat → Int32} {t : Int32} (hX : zX3 g c a) (hH : zH i a N) (hX0 : ¬ tv (N 4) t → K (.inr 2) g i j) (hK : ∀ k, t = nI k → k < zn (N 4) → K (.inl none) g i j) : zCon E mX3_checkBath [.ref c, .int t] g i j K := by
  refine zcon_of (by decide +kernel) rfl rfl (lo := [.ref c, .int t]) rfl (fun X => ?_)
  obtain ⟨x1, x2, hC⟩ := id hX
  have hO := hH.1
  obtain ⟨a1, a2, a3, a4, a5, a6, a7, a8, a9, a10, a11, a12, a13, a14, a15, a16, -⟩ := id hC
  obtain ⟨c5, c6, c7, c8, c9, c10, c11, c12⟩ := hH.cnt
  obtain ⟨hT, hT8⟩ := hO.T8
  obtain ⟨hS, hS5⟩ := hO.S5
  obtain ⟨hBt, hB4⟩ := hO.B4
  refine r_iload_n qX3_checkBath_0 rfl ?_
  refine r_if_lt (t := 15) qX3_checkBath_1 (by decide) (fun hc1 => ?_) (fun hc1 => ?_)
  · refine r_throww qX3_checkBath_15 qX3_checkBath_18 qX3_checkBath_19 qX3_checkBath_22 qX3_checkBath_25 tX3_304_309 rfl rfl rfl rfl rfl ?_
    first | exact hX0 (tv_lt hc1) | exact hX0 (tv_ge hBt (by omega) hc12)
  · refine r_iload_n qX3_checkBath_4 rfl ?_
    refine r_aload_n qX3_checkBath_5 rfl ?_
    refine r_getr qX3_checkBath_6 fX3_40 rfl (by assumption) (by first | assumption | rfl) ?_
    refine r_geti qX3_checkBath_9 fX3_228 rfl (by assumption) ?_
    rw [c6]
    refine r_icmp_lt (t := 26) qX3_checkBath_12 (by decide) (fun hc12 => ?_) (fun hc12 => ?_)
    · refine r_vret qX3_checkBath_26 rfl rfl rfl ?_
      have hv := tv_ok hBt (by omega) hc1 hc12; obtain ⟨ek, hk⟩ := tv_nat hv; replace hK := hK _ ek hk; exact hK
    · refine r_throww qX3_checkBath_15 qX3_checkBath_18 qX3_checkBath_19 qX3_checkBath_22 qX3_checkBath_25 tX3_304_309 rfl rfl rfl rfl rfl ?_
      first | exact hX0 (tv_lt hc1) | exact hX0 (tv_ge hBt (by omega) hc12)
set_option maxHeartbeats 4000000 in
set_option maxRecDepth 20000 in
theorem c_X3_checkSpirit {E : Ev} {g : Sh} {i : Ni} {j : Nj} {K : Kp} {c : Nat} {a : Nat → Nat} {N : Nat → Int32} {t : Int32} (hX : zX3 g c a) (hH : zH i a N) (hX0 : ¬ tv (N 3) t → K (.inr 2) g i j) (hK : ∀ k, t = nI k → k < zn (N 3) → K (.inl none) g i j) : zCon E mX3_checkSpirit [.ref c, .int t] g i j K := by
  refine zcon_of (by decide +kernel) rfl rfl (lo := [.ref c, .int t]) rfl (fun X => ?_)
  obtain ⟨x1, x2, hC⟩ := id hX
  have hO := hH.1
  obtain ⟨a1, a2, a3, a4, a5, a6, a7, a8, a9, a10, a11, a12, a13, a14, a15, a16, -⟩ := id hC
  obtain ⟨c5, c6, c7, c8, c9, c10, c11, c12⟩ := hH.cnt
  obtain ⟨hT, hT8⟩ := hO.T8
  obtain ⟨hS, hS5⟩ := hO.S5
  obtain ⟨hBt, hB4⟩ := hO.B4
  refine r_iload_n qX3_checkSpirit_0 rfl ?_
  refine r_if_lt (t := 15) qX3_checkSpirit_1 (by decide) (fun hc1 => ?_) (fun hc1 => ?_)
  · refine r_throww qX3_checkSpirit_15 qX3_checkSpirit_18 qX3_checkSpirit_19 qX3_checkSpirit_22 qX3_checkSpirit_25 tX3_304_314 rfl rfl rfl rfl rfl ?_
    first | exact hX0 (tv_lt hc1) | exact hX0 (tv_ge hS (by omega) hc12)
  · refine r_iload_n qX3_checkSpirit_4 rfl ?_
    refine r_aload_n qX3_checkSpirit_5 rfl ?_
    refine r_getr qX3_checkSpirit_6 fX3_40 rfl (by assumption) (by first | assumption | rfl) ?_
    refine r_geti qX3_checkSpirit_9 fX3_311 rfl (by assumption) ?_
    rw [c5]
    refine r_icmp_lt (t := 26) qX3_checkSpirit_12 (by decide) (fun hc12 => ?_) (fun hc12 => ?_)
    · refine r_vret qX3_checkSpirit_26 rfl rfl rfl ?_
      have hv := tv_ok hS (by omega) hc1 hc12; obtain ⟨ek, hk⟩ := tv_nat hv; replace hK := hK _ ek hk; exact hK
    · refine r_throww qX3_checkSpirit_15 qX3_checkSpirit_18 qX3_checkSpirit_19 qX3_checkSpirit_22 qX3_checkSpirit_25 tX3_304_314 rfl rfl rfl rfl rfl ?_
      first | exact hX0 (tv_lt hc1) | exact hX0 (tv_ge hS (by omega) hc12)
set_option maxHeartbeats 4000000 in
set_option maxRecDepth 20000 in
theorem c_X3_checkRange {E : Ev} {g : Sh} {i : Ni} {j : Nj} {K : Kp} {t l h : Int32} {lo hi : Int} (e1 : l.toInt = lo) (e2 : h.toInt = hi) (hX0 : ¬ (lo ≤ t.toInt ∧ t.toInt ≤ hi) → K (.inr 1) g i j) (hK : (lo ≤ t.toInt ∧ t.toInt ≤ hi) → K (.inl none) g i j) : zCon E mX3_checkRange [.int t, .int l, .int h] g i j K := by
  refine zcon_of (by decide +kernel) rfl rfl (lo := [.int t, .int l, .int h]) rfl (fun X => ?_)
  refine r_iload_n qX3_checkRange_0 rfl ?_
  refine r_iload_n qX3_checkRange_1 rfl ?_
  refine r_icmp_lt (t := 10) qX3_checkRange_2 (by decide) (fun hc2 => ?_) (fun hc2 => ?_)
  · refine r_throww qX3_checkRange_10 qX3_checkRange_13 qX3_checkRange_14 qX3_checkRange_17 qX3_checkRange_20 tX3_90_318 rfl rfl rfl rfl rfl ?_
    (try simp only [Int32.lt_iff_toInt_lt, Int32.le_iff_toInt_le, e1, e2] at *); exact hX0 (by omega)
  · refine r_iload_n qX3_checkRange_5 rfl ?_
    refine r_iload_n qX3_checkRange_6 rfl ?_
    refine r_icmp_le (t := 21) qX3_checkRange_7 (by decide) (fun hc7 => ?_) (fun hc7 => ?_)
    · refine r_vret qX3_checkRange_21 rfl rfl rfl ?_
      simp only [Int32.lt_iff_toInt_lt, Int32.le_iff_toInt_le, e1, e2] at *; exact hK (by omega)
    · refine r_throww qX3_checkRange_10 qX3_checkRange_13 qX3_checkRange_14 qX3_checkRange_17 qX3_checkRange_20 tX3_90_318 rfl rfl rfl rfl rfl ?_
      (try simp only [Int32.lt_iff_toInt_lt, Int32.le_iff_toInt_le, e1, e2] at *); exact hX0 (by omega)
set_option maxHeartbeats 4000000 in
set_option maxRecDepth 20000 in
theorem c_X3_checkPoint {E : Ev} {g : Sh} {i : Ni} {j : Nj} {K : Kp} {u d h k : Nat} {N : Nat → Int32} {t : Int32} (hT : zT3 g u d h) (hH : tH (i u) (i d) (i h) N k) (hO : zOk N) (hk : k < zn (N 5)) (hX0 : ¬ tv (N (42 + 21 * k + 8)) t → K (.inr 3) g i j) (hK : ∀ q, t = nI q → q < sMany N k → K (.inl none) g i j) : zCon E mX3_checkPoint [.ref u, .int t] g i j K := by
  refine zcon_of (by decide +kernel) rfl rfl (lo := [.ref u, .int t]) rfl (fun X => ?_)
  have w1 := hT.1
  obtain ⟨f0, f3, f4, f6, f7, f8, f9, f10, f11, f12, f13, fP⟩ := id hH
  obtain ⟨hm, hm6⟩ := hO.many hk
  refine r_iload_n qX3_checkPoint_0 rfl ?_
  refine r_if_lt (t := 12) qX3_checkPoint_1 (by decide) (fun hc1 => ?_) (fun hc1 => ?_)
  · refine r_throwwX nse0 nse1 nse2 nse5 qX3_checkPoint_12 qX3_checkPoint_15 qX3_checkPoint_16 qX3_checkPoint_19 qX3_checkPoint_22 tX3_295_320 rfl rfl rfl rfl rfl ?_
    first | exact hX0 (tv_lt hc1) | exact hX0 (tv_ge hm (by omega) hc9)
  · refine r_iload_n qX3_checkPoint_4 rfl ?_
    refine r_aload_n qX3_checkPoint_5 rfl ?_
    refine r_geti qX3_checkPoint_6 fX3_179 rfl (by assumption) ?_
    rw [f3]
    refine r_icmp_lt (t := 23) qX3_checkPoint_9 (by decide) (fun hc9 => ?_) (fun hc9 => ?_)
    · refine r_vret qX3_checkPoint_23 rfl rfl rfl ?_
      have hv := tv_ok hm (by omega) hc1 hc9; obtain ⟨ek, hq⟩ := tv_nat hv; exact hK _ ek hq
    · refine r_throwwX nse0 nse1 nse2 nse5 qX3_checkPoint_12 qX3_checkPoint_15 qX3_checkPoint_16 qX3_checkPoint_19 qX3_checkPoint_22 tX3_295_320 rfl rfl rfl rfl rfl ?_
      first | exact hX0 (tv_lt hc1) | exact hX0 (tv_ge hm (by omega) hc9)
set_option maxHeartbeats 4000000 in
set_option maxRecDepth 20000 in
theorem c_X3_checkScale {E : Ev} {g : Sh} {i : Ni} {j : Nj} {K : Kp} {u d h k : Nat} {N : Nat → Int32} (hT : zT3 g u d h) (hH : tH (i u) (i d) (i h) N k) (hO : zOk N) (hk : k < zn (N 5)) (hX0 : ¬ 2 ≤ sMany N k → K (.inr 3) g i j) (hK : 2 ≤ sMany N k → K (.inl none) g i j) : zCon E mX3_checkScale [.ref u] g i j K := by
  refine zcon_of (by decide +kernel) rfl rfl (lo := [.ref u]) rfl (fun X => ?_)
  have w1 := hT.1
  refine r_aload_n qX3_checkScale_0 rfl ?_
  refine r_cv0 (cu2 := 0) (su2 := 0) qX3_checkScale_1 kX3_192 rfl (by decide +kernel) (c := 2) (by assumption) (by decide) rfl rfl rfl rfl rfl rfl ?_
  refine c_X2_scaled (by first | assumption | omega | rfl | decide) (by first | assumption | omega | rfl | decide) (by first | assumption | omega | rfl | decide) (by first | assumption | omega | rfl | decide) ?_
  show zR E _ _ X 4 _ _ _ _ _ _ _
  refine r_if_ne (t := 18) qX3_checkScale_4 (by decide) (fun hc4 => ?_) (fun hc4 => ?_)
  · refine r_vret qX3_checkScale_18 rfl rfl rfl ?_
    exact hK (zb_ne.mp hc4)
  · refine r_throwwX nse0 nse1 nse2 nse5 qX3_checkScale_7 qX3_checkScale_10 qX3_checkScale_11 qX3_checkScale_14 qX3_checkScale_17 tX3_295_322 rfl rfl rfl rfl rfl ?_
    exact hX0 (zb_0.mp hc4)


