/-! ===== P67: WHAT THE SCRIPT SAYS ===== -/
def dwv (E : Ev) (k : Nat) : Nat := (if k < eS E 5 then eX E k else nI 0).toBitVec.toNat % 2 ^ 31
def dw (E : Ev) (k n : Nat) : Nat := dwv E k % n
def vRm (E : Ev) : Int32 := nI (dw E 0 60) - nI 20
def vLg (E : Ev) : Nat := 1 + dw E 1 20
def vS (E : Ev) : Nat := dw E 2 4
def vB (E : Ev) : Nat := dw E 3 5
def vT (E : Ev) : Nat := if vS E = 0 then 0 else dw E 4 6
def vEx (E : Ev) (k : Nat) : Nat := 1 + dw E (6 + k) 40
def vDg (E : Ev) (k : Nat) : Int32 := nI (dw E (10 + k) 171) - nI 20
def vSp (E : Ev) (k : Nat) : Nat := dw E (16 + 5 * k) (vS E)
def vBu (E : Ev) (k : Nat) : Nat := 1 + dw E (17 + 5 * k) 50
def vBo (E : Ev) (k : Nat) : Nat := 1 + dw E (18 + 5 * k) 9
def vLe (E : Ev) (k : Nat) : Nat := 10 + dw E (19 + 5 * k) (if dw E 5 2 = 0 then 990 else 200)
def vFi (E : Ev) (k : Nat) : Nat := dw E (20 + 5 * k) 120
theorem dw_lt (E : Ev) (k : Nat) {n : Nat} (h : 0 < n) : dw E k n < n := Nat.mod_lt _ h
theorem vS_lt (E : Ev) : vS E < 4 := dw_lt E 2 (by decide)
theorem vB_lt (E : Ev) : vB E < 5 := dw_lt E 3 (by decide)
theorem vT_lt (E : Ev) : vT E < 6 := by
  rw [vT]
  split
  · decide
  · exact dw_lt E 4 (by decide)
theorem vT_S {E : Ev} {k : Nat} (h : k < vT E) : 0 < vS E := by
  rw [vT] at h
  split at h <;> omega
theorem vSp_lt {E : Ev} {k : Nat} (h : 0 < vS E) : vSp E k < vS E := dw_lt E _ h
theorem vRm_in (E : Ev) : zIn (vRm E) (-20) 39 := by
  have h := dw_lt E 0 (show 0 < 60 by decide)
  have e : (vRm E).toInt = (dw E 0 60 : Int) - 20 := by
    rw [vRm, Int32.toInt_sub, nI_toInt (by omega), nI_toInt (by decide), Int.bmod_eq_of_le] <;> omega
  exact ⟨by omega, by omega⟩
theorem vDg_in (E : Ev) (k : Nat) : zIn (vDg E k) (-20) 150 := by
  have h := dw_lt E (10 + k) (show 0 < 171 by decide)
  have e : (vDg E k).toInt = (dw E (10 + k) 171 : Int) - 20 := by
    rw [vDg, Int32.toInt_sub, nI_toInt (by omega), nI_toInt (by decide), Int.bmod_eq_of_le] <;> omega
  exact ⟨by omega, by omega⟩
theorem vLg_in (E : Ev) : 1 ≤ vLg E ∧ vLg E ≤ 20 := by
  have h := dw_lt E 1 (show 0 < 20 by decide)
  rw [vLg]; omega
theorem vEx_in (E : Ev) (k : Nat) : 1 ≤ vEx E k ∧ vEx E k ≤ 40 := by
  have h := dw_lt E (6 + k) (show 0 < 40 by decide)
  rw [vEx]; omega
theorem vBu_in (E : Ev) (k : Nat) : 1 ≤ vBu E k ∧ vBu E k ≤ 50 := by
  have h := dw_lt E (17 + 5 * k) (show 0 < 50 by decide)
  rw [vBu]; omega
theorem vBo_in (E : Ev) (k : Nat) : 1 ≤ vBo E k ∧ vBo E k ≤ 9 := by
  have h := dw_lt E (18 + 5 * k) (show 0 < 9 by decide)
  rw [vBo]; omega
theorem vLe_in (E : Ev) (k : Nat) : 10 ≤ vLe E k ∧ vLe E k ≤ 999 := by
  rw [vLe]
  split
  · have h := dw_lt E (19 + 5 * k) (show 0 < 990 by decide); omega
  · have h := dw_lt E (19 + 5 * k) (show 0 < 200 by decide); omega
theorem vFi_in (E : Ev) (k : Nat) : vFi E k < 120 := dw_lt E _ (by decide)
set_option maxHeartbeats 4000000 in
set_option maxRecDepth 20000 in
theorem c_L_draw {E : Ev} {g : Sh} {i : Ni} {j : Nj} {K : Kp} {k n : Nat} (hk : k < 1000) (hn : 0 < n) (hn9 : n < 2 ^ 31) (hK : K (.inl (some (.int (nI (dw E k n))))) g i j) : zCon E mL_draw [.ref (eS E 4 + 1), .int (nI k), .int (nI n)] g i j K := by
  refine zcon_of (by decide +kernel) rfl rfl (lo := [.ref (eS E 4 + 1), .int (nI k), .int (nI n)]) rfl (fun X => ?_)
  have hm : dwv E k < 2 ^ 31 := Nat.mod_lt _ (by decide)
  by_cases h : k < eS E 5
  · have e : eX E k &&& 2147483647 = nI (dwv E k) := by rw [dwv, if_pos h]; exact pk_and _ 31 (by decide)
    refine r_iload_n qL_draw_0 rfl ?_
    refine r_aload_n qL_draw_1 rfl ?_
    refine r_xln qL_draw_2 (fun h9 => ?_)
    refine r_icmp_ge (t := 12) qL_draw_3 (by decide) (fun hc3 => absurd hc3 (nI_ge h (by omega))) (fun hc3 => ?_)
    refine r_aload_n qL_draw_6 rfl ?_
    refine r_iload_n qL_draw_7 rfl ?_
    refine r_xld qL_draw_8 h ?_
    refine r_goto (t := 13) qL_draw_9 (by decide) ?_
    refine r_ldci qL_draw_13 lL_7 ?_
    refine r_iand qL_draw_15 ?_
    rw [e]
    refine r_iload_n qL_draw_16 rfl ?_
    refine r_irem qL_draw_17 (nI_ne0 hn hn9) ?_
    rw [pk_rem hm hn hn9]
    refine r_iret qL_draw_18 rfl rfl rfl rfl ?_
    exact hK
  · have e : nI 0 &&& 2147483647 = nI (dwv E k) := by rw [dwv, if_neg h]; exact pk_and _ 31 (by decide)
    refine r_iload_n qL_draw_0 rfl ?_
    refine r_aload_n qL_draw_1 rfl ?_
    refine r_xln qL_draw_2 (fun h9 => ?_)
    refine r_icmp_ge (t := 12) qL_draw_3 (by decide) (fun hc3 => ?_) (fun hc3 => absurd hc3 (fun h2 => h2 (nI_le (by omega) (by omega))))
    refine r_iconst (v := nI 0) qL_draw_12 (by decide) ?_
    refine r_ldci qL_draw_13 lL_7 ?_
    refine r_iand qL_draw_15 ?_
    rw [e]
    refine r_iload_n qL_draw_16 rfl ?_
    refine r_irem qL_draw_17 (nI_ne0 hn hn9) ?_
    rw [pk_rem hm hn hn9]
    refine r_iret qL_draw_18 rfl rfl rfl rfl ?_
    exact hK
set_option maxHeartbeats 4000000 in
set_option maxRecDepth 20000 in
theorem c_L_room {E : Ev} {g : Sh} {i : Ni} {j : Nj} {K : Kp}  (hK : K (.inl (some (.int (vRm E)))) g i j) : zCon E mL_room [.ref (eS E 4 + 1)] g i j K := by
  refine zcon_of (by decide +kernel) rfl rfl (lo := [.ref (eS E 4 + 1)]) rfl (fun X => ?_)
  refine r_aload_n qL_room_0 rfl ?_
  refine r_iconst (v := nI 0) qL_room_1 (by decide) ?_
  refine r_bipush (v := nI 60) qL_room_2 (by decide) ?_
  refine r_cs3 (cu2 := 0) (su2 := 0) qL_room_4 kL_40 rfl (by decide +kernel) rfl rfl rfl rfl rfl ?_
  refine c_L_draw (by decide) (by decide) (by decide) ?_
  show zR E _ _ X 7 _ _ _ _ _ _ _
  refine r_bipush (v := nI 20) qL_room_7 (by decide) ?_
  refine r_isub qL_room_9 ?_
  refine r_iret qL_room_10 rfl rfl rfl rfl ?_
  exact hK
set_option maxHeartbeats 4000000 in
set_option maxRecDepth 20000 in
theorem c_L_lag {E : Ev} {g : Sh} {i : Ni} {j : Nj} {K : Kp}  (hK : K (.inl (some (.int (nI (vLg E))))) g i j) : zCon E mL_lag [.ref (eS E 4 + 1)] g i j K := by
  refine zcon_of (by decide +kernel) rfl rfl (lo := [.ref (eS E 4 + 1)]) rfl (fun X => ?_)
  refine r_iconst (v := nI 1) qL_lag_0 (by decide) ?_
  refine r_aload_n qL_lag_1 rfl ?_
  refine r_iconst (v := nI 1) qL_lag_2 (by decide) ?_
  refine r_bipush (v := nI 20) qL_lag_3 (by decide) ?_
  refine r_cs3 (cu2 := 0) (su2 := 0) qL_lag_5 kL_40 rfl (by decide +kernel) rfl rfl rfl rfl rfl ?_
  refine c_L_draw (by decide) (by decide) (by decide) ?_
  show zR E _ _ X 8 _ _ _ _ _ _ _
  first | with_reducible refine r_iaddN qL_lag_8 ?_ | refine r_iadd qL_lag_8 ?_
  refine r_iret qL_lag_9 rfl rfl rfl rfl ?_
  exact hK
set_option maxHeartbeats 4000000 in
set_option maxRecDepth 20000 in
theorem c_L_spirits {E : Ev} {g : Sh} {i : Ni} {j : Nj} {K : Kp}  (hK : K (.inl (some (.int (nI (vS E))))) g i j) : zCon E mL_spirits [.ref (eS E 4 + 1)] g i j K := by
  refine zcon_of (by decide +kernel) rfl rfl (lo := [.ref (eS E 4 + 1)]) rfl (fun X => ?_)
  refine r_aload_n qL_spirits_0 rfl ?_
  refine r_iconst (v := nI 2) qL_spirits_1 (by decide) ?_
  refine r_iconst (v := nI 4) qL_spirits_2 (by decide) ?_
  refine r_cs3 (cu2 := 0) (su2 := 0) qL_spirits_3 kL_40 rfl (by decide +kernel) rfl rfl rfl rfl rfl ?_
  refine c_L_draw (by decide) (by decide) (by decide) ?_
  show zR E _ _ X 6 _ _ _ _ _ _ _
  refine r_iret qL_spirits_6 rfl rfl rfl rfl ?_
  exact hK
set_option maxHeartbeats 4000000 in
set_option maxRecDepth 20000 in
theorem c_L_baths {E : Ev} {g : Sh} {i : Ni} {j : Nj} {K : Kp}  (hK : K (.inl (some (.int (nI (vB E))))) g i j) : zCon E mL_baths [.ref (eS E 4 + 1)] g i j K := by
  refine zcon_of (by decide +kernel) rfl rfl (lo := [.ref (eS E 4 + 1)]) rfl (fun X => ?_)
  refine r_aload_n qL_baths_0 rfl ?_
  refine r_iconst (v := nI 3) qL_baths_1 (by decide) ?_
  refine r_iconst (v := nI 5) qL_baths_2 (by decide) ?_
  refine r_cs3 (cu2 := 0) (su2 := 0) qL_baths_3 kL_40 rfl (by decide +kernel) rfl rfl rfl rfl rfl ?_
  refine c_L_draw (by decide) (by decide) (by decide) ?_
  show zR E _ _ X 6 _ _ _ _ _ _ _
  refine r_iret qL_baths_6 rfl rfl rfl rfl ?_
  exact hK
set_option maxHeartbeats 4000000 in
set_option maxRecDepth 20000 in
theorem c_L_expansion {E : Ev} {g : Sh} {i : Ni} {j : Nj} {K : Kp} {k : Nat} (hk : k < 100) (hK : K (.inl (some (.int (nI (vEx E k))))) g i j) : zCon E mL_expansion [.ref (eS E 4 + 1), .int (nI k)] g i j K := by
  refine zcon_of (by decide +kernel) rfl rfl (lo := [.ref (eS E 4 + 1), .int (nI k)]) rfl (fun X => ?_)
  refine r_iconst (v := nI 1) qL_expansion_0 (by decide) ?_
  refine r_aload_n qL_expansion_1 rfl ?_
  refine r_bipush (v := nI 6) qL_expansion_2 (by decide) ?_
  refine r_iload_n qL_expansion_4 rfl ?_
  first | with_reducible refine r_iaddN qL_expansion_5 ?_ | refine r_iadd qL_expansion_5 ?_
  refine r_bipush (v := nI 40) qL_expansion_6 (by decide) ?_
  refine r_cs3 (cu2 := 0) (su2 := 0) qL_expansion_8 kL_40 rfl (by decide +kernel) rfl rfl rfl rfl rfl ?_
  refine c_L_draw (by omega) (by decide) (by decide) ?_
  show zR E _ _ X 11 _ _ _ _ _ _ _
  first | with_reducible refine r_iaddN qL_expansion_11 ?_ | refine r_iadd qL_expansion_11 ?_
  refine r_iret qL_expansion_12 rfl rfl rfl rfl ?_
  exact hK
set_option maxHeartbeats 4000000 in
set_option maxRecDepth 20000 in
theorem c_L_degrees {E : Ev} {g : Sh} {i : Ni} {j : Nj} {K : Kp} {k : Nat} (hk : k < 100) (hK : K (.inl (some (.int (vDg E k)))) g i j) : zCon E mL_degrees [.ref (eS E 4 + 1), .int (nI k)] g i j K := by
  refine zcon_of (by decide +kernel) rfl rfl (lo := [.ref (eS E 4 + 1), .int (nI k)]) rfl (fun X => ?_)
  refine r_aload_n qL_degrees_0 rfl ?_
  refine r_bipush (v := nI 10) qL_degrees_1 (by decide) ?_
  refine r_iload_n qL_degrees_3 rfl ?_
  first | with_reducible refine r_iaddN qL_degrees_4 ?_ | refine r_iadd qL_degrees_4 ?_
  refine r_sipush (v := nI 171) qL_degrees_5 (by decide) ?_
  refine r_cs3 (cu2 := 0) (su2 := 0) qL_degrees_8 kL_40 rfl (by decide +kernel) rfl rfl rfl rfl rfl ?_
  refine c_L_draw (by omega) (by decide) (by decide) ?_
  show zR E _ _ X 11 _ _ _ _ _ _ _
  refine r_bipush (v := nI 20) qL_degrees_11 (by decide) ?_
  refine r_isub qL_degrees_13 ?_
  refine r_iret qL_degrees_14 rfl rfl rfl rfl ?_
  exact hK
set_option maxHeartbeats 4000000 in
set_option maxRecDepth 20000 in
theorem c_L_tubes {E : Ev} {g : Sh} {i : Ni} {j : Nj} {K : Kp}  (hK : K (.inl (some (.int (nI (vT E))))) g i j) : zCon E mL_tubes [.ref (eS E 4 + 1)] g i j K := by
  refine zcon_of (by decide +kernel) rfl rfl (lo := [.ref (eS E 4 + 1)]) rfl (fun X => ?_)
  have h4 := vS_lt E
  by_cases h : vS E = 0
  · rw [vT, if_pos h] at hK
    refine r_aload_n qL_tubes_0 rfl ?_
    refine r_cs1 (cu2 := 0) (su2 := 0) qL_tubes_1 kL_44 rfl (by decide +kernel) rfl rfl rfl rfl rfl ?_
    refine c_L_spirits ?_
    rw [h]
    show zR E _ _ X 4 _ _ _ _ _ _ _
    refine r_if_ne (t := 11) qL_tubes_4 (by decide) (fun hc4 => absurd hc4 (fun h => h (by decide))) (fun hc4 => ?_)
    refine r_iconst (v := nI 0) qL_tubes_7 (by decide) ?_
    refine r_goto (t := 18) qL_tubes_8 (by decide) ?_
    refine r_iret qL_tubes_18 rfl rfl rfl rfl ?_
    exact hK
  · rw [vT, if_neg h] at hK
    refine r_aload_n qL_tubes_0 rfl ?_
    refine r_cs1 (cu2 := 0) (su2 := 0) qL_tubes_1 kL_44 rfl (by decide +kernel) rfl rfl rfl rfl rfl ?_
    refine c_L_spirits ?_
    show zR E _ _ X 4 _ _ _ _ _ _ _
    refine r_if_ne (t := 11) qL_tubes_4 (by decide) (fun hc4 => ?_) (fun hc4 => absurd hc4 (nI_ne0 (by omega) (by omega)))
    refine r_aload_n qL_tubes_11 rfl ?_
    refine r_iconst (v := nI 4) qL_tubes_12 (by decide) ?_
    refine r_bipush (v := nI 6) qL_tubes_13 (by decide) ?_
    refine r_cs3 (cu2 := 0) (su2 := 0) qL_tubes_15 kL_40 rfl (by decide +kernel) rfl rfl rfl rfl rfl ?_
    refine c_L_draw (by decide) (by decide) (by decide) ?_
    show zR E _ _ X 18 _ _ _ _ _ _ _
    refine r_iret qL_tubes_18 rfl rfl rfl rfl ?_
    exact hK
set_option maxHeartbeats 4000000 in
set_option maxRecDepth 20000 in
theorem c_L_spirit {E : Ev} {g : Sh} {i : Ni} {j : Nj} {K : Kp} {k : Nat} (hk : k < 100) (h0 : 0 < vS E) (hK : K (.inl (some (.int (nI (vSp E k))))) g i j) : zCon E mL_spirit [.ref (eS E 4 + 1), .int (nI k)] g i j K := by
  refine zcon_of (by decide +kernel) rfl rfl (lo := [.ref (eS E 4 + 1), .int (nI k)]) rfl (fun X => ?_)
  have h4 := vS_lt E
  refine r_aload_n qL_spirit_0 rfl ?_
  refine r_bipush (v := nI 16) qL_spirit_1 (by decide) ?_
  refine r_iconst (v := nI 5) qL_spirit_3 (by decide) ?_
  refine r_iload_n qL_spirit_4 rfl ?_
  first | with_reducible refine r_imulN qL_spirit_5 ?_ | refine r_imul qL_spirit_5 ?_
  first | with_reducible refine r_iaddN qL_spirit_6 ?_ | refine r_iadd qL_spirit_6 ?_
  refine r_aload_n qL_spirit_7 rfl ?_
  refine r_cs1 (cu2 := 0) (su2 := 0) qL_spirit_8 kL_44 rfl (by decide +kernel) rfl rfl rfl rfl rfl ?_
  refine c_L_spirits ?_
  show zR E _ _ X 11 _ _ _ _ _ _ _
  refine r_cs3 (cu2 := 0) (su2 := 0) qL_spirit_11 kL_40 rfl (by decide +kernel) rfl rfl rfl rfl rfl ?_
  refine c_L_draw (by omega) h0 (by omega) ?_
  show zR E _ _ X 14 _ _ _ _ _ _ _
  refine r_iret qL_spirit_14 rfl rfl rfl rfl ?_
  exact hK
set_option maxHeartbeats 4000000 in
set_option maxRecDepth 20000 in
theorem c_L_bulb {E : Ev} {g : Sh} {i : Ni} {j : Nj} {K : Kp} {k : Nat} (hk : k < 100) (hK : K (.inl (some (.int (nI (vBu E k))))) g i j) : zCon E mL_bulb [.ref (eS E 4 + 1), .int (nI k)] g i j K := by
  refine zcon_of (by decide +kernel) rfl rfl (lo := [.ref (eS E 4 + 1), .int (nI k)]) rfl (fun X => ?_)
  refine r_iconst (v := nI 1) qL_bulb_0 (by decide) ?_
  refine r_aload_n qL_bulb_1 rfl ?_
  refine r_bipush (v := nI 17) qL_bulb_2 (by decide) ?_
  refine r_iconst (v := nI 5) qL_bulb_4 (by decide) ?_
  refine r_iload_n qL_bulb_5 rfl ?_
  first | with_reducible refine r_imulN qL_bulb_6 ?_ | refine r_imul qL_bulb_6 ?_
  first | with_reducible refine r_iaddN qL_bulb_7 ?_ | refine r_iadd qL_bulb_7 ?_
  refine r_bipush (v := nI 50) qL_bulb_8 (by decide) ?_
  refine r_cs3 (cu2 := 0) (su2 := 0) qL_bulb_10 kL_40 rfl (by decide +kernel) rfl rfl rfl rfl rfl ?_
  refine c_L_draw (by omega) (by decide) (by decide) ?_
  show zR E _ _ X 13 _ _ _ _ _ _ _
  first | with_reducible refine r_iaddN qL_bulb_13 ?_ | refine r_iadd qL_bulb_13 ?_
  refine r_iret qL_bulb_14 rfl rfl rfl rfl ?_
  exact hK
set_option maxHeartbeats 4000000 in
set_option maxRecDepth 20000 in
theorem c_L_bore {E : Ev} {g : Sh} {i : Ni} {j : Nj} {K : Kp} {k : Nat} (hk : k < 100) (hK : K (.inl (some (.int (nI (vBo E k))))) g i j) : zCon E mL_bore [.ref (eS E 4 + 1), .int (nI k)] g i j K := by
  refine zcon_of (by decide +kernel) rfl rfl (lo := [.ref (eS E 4 + 1), .int (nI k)]) rfl (fun X => ?_)
  refine r_iconst (v := nI 1) qL_bore_0 (by decide) ?_
  refine r_aload_n qL_bore_1 rfl ?_
  refine r_bipush (v := nI 18) qL_bore_2 (by decide) ?_
  refine r_iconst (v := nI 5) qL_bore_4 (by decide) ?_
  refine r_iload_n qL_bore_5 rfl ?_
  first | with_reducible refine r_imulN qL_bore_6 ?_ | refine r_imul qL_bore_6 ?_
  first | with_reducible refine r_iaddN qL_bore_7 ?_ | refine r_iadd qL_bore_7 ?_
  refine r_bipush (v := nI 9) qL_bore_8 (by decide) ?_
  refine r_cs3 (cu2 := 0) (su2 := 0) qL_bore_10 kL_40 rfl (by decide +kernel) rfl rfl rfl rfl rfl ?_
  refine c_L_draw (by omega) (by decide) (by decide) ?_
  show zR E _ _ X 13 _ _ _ _ _ _ _
  first | with_reducible refine r_iaddN qL_bore_13 ?_ | refine r_iadd qL_bore_13 ?_
  refine r_iret qL_bore_14 rfl rfl rfl rfl ?_
  exact hK
set_option maxHeartbeats 4000000 in
set_option maxRecDepth 20000 in
theorem c_L_length {E : Ev} {g : Sh} {i : Ni} {j : Nj} {K : Kp} {k : Nat} (hk : k < 100) (hK : K (.inl (some (.int (nI (vLe E k))))) g i j) : zCon E mL_length [.ref (eS E 4 + 1), .int (nI k)] g i j K := by
  refine zcon_of (by decide +kernel) rfl rfl (lo := [.ref (eS E 4 + 1), .int (nI k)]) rfl (fun X => ?_)
  have h2 := dw_lt E 5 (show 0 < 2 by decide)
  by_cases h : dw E 5 2 = 0
  · rw [vLe, if_pos h] at hK
    refine r_bipush (v := nI 10) qL_length_0 (by decide) ?_
    refine r_aload_n qL_length_2 rfl ?_
    refine r_bipush (v := nI 19) qL_length_3 (by decide) ?_
    refine r_iconst (v := nI 5) qL_length_5 (by decide) ?_
    refine r_iload_n qL_length_6 rfl ?_
    first | with_reducible refine r_imulN qL_length_7 ?_ | refine r_imul qL_length_7 ?_
    first | with_reducible refine r_iaddN qL_length_8 ?_ | refine r_iadd qL_length_8 ?_
    refine r_aload_n qL_length_9 rfl ?_
    refine r_iconst (v := nI 5) qL_length_10 (by decide) ?_
    refine r_iconst (v := nI 2) qL_length_11 (by decide) ?_
    refine r_cs3 (cu2 := 0) (su2 := 0) qL_length_12 kL_40 rfl (by decide +kernel) rfl rfl rfl rfl rfl ?_
    refine c_L_draw (by decide) (by decide) (by decide) ?_
    rw [h]
    show zR E _ _ X 15 _ _ _ _ _ _ _
    refine r_if_ne (t := 24) qL_length_15 (by decide) (fun hc15 => absurd hc15 (fun h => h (by decide))) (fun hc15 => ?_)
    refine r_sipush (v := nI 990) qL_length_18 (by decide) ?_
    refine r_goto (t := 27) qL_length_21 (by decide) ?_
    refine r_cs3 (cu2 := 0) (su2 := 0) qL_length_27 kL_40 rfl (by decide +kernel) rfl rfl rfl rfl rfl ?_
    refine c_L_draw (by omega) (by decide) (by decide) ?_
    show zR E _ _ X 30 _ _ _ _ _ _ _
    first | with_reducible refine r_iaddN qL_length_30 ?_ | refine r_iadd qL_length_30 ?_
    refine r_iret qL_length_31 rfl rfl rfl rfl ?_
    exact hK
  · rw [vLe, if_neg h] at hK
    refine r_bipush (v := nI 10) qL_length_0 (by decide) ?_
    refine r_aload_n qL_length_2 rfl ?_
    refine r_bipush (v := nI 19) qL_length_3 (by decide) ?_
    refine r_iconst (v := nI 5) qL_length_5 (by decide) ?_
    refine r_iload_n qL_length_6 rfl ?_
    first | with_reducible refine r_imulN qL_length_7 ?_ | refine r_imul qL_length_7 ?_
    first | with_reducible refine r_iaddN qL_length_8 ?_ | refine r_iadd qL_length_8 ?_
    refine r_aload_n qL_length_9 rfl ?_
    refine r_iconst (v := nI 5) qL_length_10 (by decide) ?_
    refine r_iconst (v := nI 2) qL_length_11 (by decide) ?_
    refine r_cs3 (cu2 := 0) (su2 := 0) qL_length_12 kL_40 rfl (by decide +kernel) rfl rfl rfl rfl rfl ?_
    refine c_L_draw (by decide) (by decide) (by decide) ?_
    show zR E _ _ X 15 _ _ _ _ _ _ _
    refine r_if_ne (t := 24) qL_length_15 (by decide) (fun hc15 => ?_) (fun hc15 => absurd hc15 (nI_ne0 (by omega) (by omega)))
    refine r_sipush (v := nI 200) qL_length_24 (by decide) ?_
    refine r_cs3 (cu2 := 0) (su2 := 0) qL_length_27 kL_40 rfl (by decide +kernel) rfl rfl rfl rfl rfl ?_
    refine c_L_draw (by omega) (by decide) (by decide) ?_
    show zR E _ _ X 30 _ _ _ _ _ _ _
    first | with_reducible refine r_iaddN qL_length_30 ?_ | refine r_iadd qL_length_30 ?_
    refine r_iret qL_length_31 rfl rfl rfl rfl ?_
    exact hK
set_option maxHeartbeats 4000000 in
set_option maxRecDepth 20000 in
theorem c_L_fill {E : Ev} {g : Sh} {i : Ni} {j : Nj} {K : Kp} {k : Nat} (hk : k < 100) (hK : K (.inl (some (.int (nI (vFi E k))))) g i j) : zCon E mL_fill [.ref (eS E 4 + 1), .int (nI k)] g i j K := by
  refine zcon_of (by decide +kernel) rfl rfl (lo := [.ref (eS E 4 + 1), .int (nI k)]) rfl (fun X => ?_)
  refine r_aload_n qL_fill_0 rfl ?_
  refine r_bipush (v := nI 20) qL_fill_1 (by decide) ?_
  refine r_iconst (v := nI 5) qL_fill_3 (by decide) ?_
  refine r_iload_n qL_fill_4 rfl ?_
  first | with_reducible refine r_imulN qL_fill_5 ?_ | refine r_imul qL_fill_5 ?_
  first | with_reducible refine r_iaddN qL_fill_6 ?_ | refine r_iadd qL_fill_6 ?_
  refine r_bipush (v := nI 120) qL_fill_7 (by decide) ?_
  refine r_cs3 (cu2 := 0) (su2 := 0) qL_fill_9 kL_40 rfl (by decide +kernel) rfl rfl rfl rfl rfl ?_
  refine c_L_draw (by omega) (by decide) (by decide) ?_
  show zR E _ _ X 12 _ _ _ _ _ _ _
  refine r_iret qL_fill_12 rfl rfl rfl rfl ?_
  exact hK
/-- the free height by the script's tubes -/
def vFree (E : Ev) (k : Nat) (f t : Int32) : Int32 := f + nI (vBu E k) * nI (vEx E (vSp E k)) * (t + nI 300) / (nI 1000 * nI (vBo E k))
theorem vBo_nz (E : Ev) (k : Nat) : ¬ nI 1000 * nI (vBo E k) = 0 := by
  have h := vBo_in E k
  rw [pk_mul]
  exact nI_ne0 (by omega) (by omega)
set_option maxHeartbeats 4000000 in
set_option maxRecDepth 20000 in
theorem c_L_free {E : Ev} {g : Sh} {i : Ni} {j : Nj} {K : Kp} {k : Nat} {f t : Int32} (hk : k < 100) (h0 : 0 < vS E) (hK : K (.inl (some (.int (vFree E k f t)))) g i j) : zCon E mL_free [.ref (eS E 4 + 1), .int (nI k), .int f, .int t] g i j K := by
  refine zcon_of (by decide +kernel) rfl rfl (lo := [.ref (eS E 4 + 1), .int (nI k), .int f, .int t]) rfl (fun X => ?_)
  have hs := vSp_lt (k := k) h0
  have h4 := vS_lt E
  have hz := vBo_nz E k
  have e1 : nI (vBu E k) * nI (vEx E (vSp E k)) = nI (vBu E k * vEx E (vSp E k)) := pk_mul _ _
  have e2 : nI 1000 * nI (vBo E k) = nI (1000 * vBo E k) := pk_mul _ _
  rw [vFree, e1, e2] at hK
  rw [e2] at hz
  refine r_iload_n qL_free_0 rfl ?_
  refine r_aload_n qL_free_1 rfl ?_
  refine r_iload_n qL_free_2 rfl ?_
  refine r_cs2 (cu2 := 0) (su2 := 0) qL_free_3 kL_114 rfl (by decide +kernel) rfl rfl rfl rfl rfl ?_
  refine c_L_bulb hk ?_
  show zR E _ _ X 6 _ _ _ _ _ _ _
  refine r_aload_n qL_free_6 rfl ?_
  refine r_aload_n qL_free_7 rfl ?_
  refine r_iload_n qL_free_8 rfl ?_
  refine r_cs2 (cu2 := 0) (su2 := 0) qL_free_9 kL_111 rfl (by decide +kernel) rfl rfl rfl rfl rfl ?_
  refine c_L_spirit hk h0 ?_
  show zR E _ _ X 12 _ _ _ _ _ _ _
  refine r_cs2 (cu2 := 0) (su2 := 0) qL_free_12 kL_89 rfl (by decide +kernel) rfl rfl rfl rfl rfl ?_
  refine c_L_expansion (by omega) ?_
  show zR E _ _ X 15 _ _ _ _ _ _ _
  first | with_reducible refine r_imulN qL_free_15 ?_ | refine r_imul qL_free_15 ?_
  refine r_iload_n qL_free_16 rfl ?_
  refine r_sipush (v := nI 300) qL_free_17 (by decide) ?_
  first | with_reducible refine r_iaddN qL_free_20 ?_ | refine r_iadd qL_free_20 ?_
  first | with_reducible refine r_imulN qL_free_21 ?_ | refine r_imul qL_free_21 ?_
  refine r_sipush (v := nI 1000) qL_free_22 (by decide) ?_
  refine r_aload_n qL_free_25 rfl ?_
  refine r_iload_n qL_free_26 rfl ?_
  refine r_cs2 (cu2 := 0) (su2 := 0) qL_free_27 kL_117 rfl (by decide +kernel) rfl rfl rfl rfl rfl ?_
  refine c_L_bore hk ?_
  show zR E _ _ X 30 _ _ _ _ _ _ _
  first | with_reducible refine r_imulN qL_free_30 ?_ | refine r_imul qL_free_30 ?_
  refine r_idiv qL_free_31 hz ?_
  first | with_reducible refine r_iaddN qL_free_32 ?_ | refine r_iadd qL_free_32 ?_
  refine r_iret qL_free_33 rfl rfl rfl rfl ?_
  exact hK

