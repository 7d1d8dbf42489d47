/-! ===== THE CLASS TELLS A BYTE OF ITS OUTPUT; ITS CONSTRUCTORS ===== -/
theorem zBu.ch {g : Sh} {i : Ni} {r : Nat} {L : List Int32} (h : zBu g i r L) {k : Nat} (hk : k < L.length) : ∃ m : Nat, m < 128 ∧ L.getD k 0 = nI m := by
  obtain ⟨h1, h2, h3, h4, h5, h6, h7, h8⟩ := h
  obtain ⟨m, hm, e⟩ := h8 k (by omega)
  exact ⟨m, hm, by rw [← h7 k hk]; exact e⟩
set_option maxHeartbeats 4000000 in
set_option maxRecDepth 20000 in
theorem c_X3_outputByte {E : Ev} {g : Sh} {i : Ni} {j : Nj} {K : Kp} {c r : Nat} {L : List Int32} {v : Int32} (hT : gT g c = 4) (hO : gR g c 6 = r) (hB : zBu g i r L) (hX0 : ¬ tv (nI L.length) v → K (.inr 3) g i j) (hK : tv (nI L.length) v → K (.inl (some (.int (L.getD (zn v) 0)))) g i j) : zCon E mX3_outputByte [.ref c, .int v] g i j K := by
  refine zcon_of (by decide +kernel) rfl rfl (lo := [.ref c, .int v]) rfl (fun X => ?_)
  have t0 := hB.1
  have hL : L.length < 1000 := by have := hB.2.2.2.2.1; have := hB.2.2.2.2.2.1; omega
  refine r_iload_n qX3_outputByte_0 rfl ?_
  refine r_if_lt (t := 15) qX3_outputByte_1 (by decide) (fun hc1 => ?_) (fun hc1 => ?_)
  · refine r_throwwX nse0 nse1 nse2 nse5 qX3_outputByte_15 qX3_outputByte_18 qX3_outputByte_19 qX3_outputByte_22 qX3_outputByte_25 tX3_295_297 rfl rfl rfl rfl rfl ?_
    first | exact hX0 (tv_lt hc1) | exact hX0 (tv_ge rfl hL hc12)
  · refine r_iload_n qX3_outputByte_4 rfl ?_
    refine r_aload_n qX3_outputByte_5 rfl ?_
    refine r_getr qX3_outputByte_6 fX3_64 rfl (by assumption) (by first | assumption | rfl) ?_
    refine r_cv0 (cu2 := 0) (su2 := 0) qX3_outputByte_9 kX3_293 rfl (by decide +kernel) (c := 5) (by assumption) (by decide) rfl rfl rfl rfl rfl rfl ?_
    refine c_J4_length_8abf5 hB ?_
    show zR E _ _ X 12 _ _ _ _ _ _ _
    refine r_icmp_lt (t := 26) qX3_outputByte_12 (by decide) (fun hc12 => ?_) (fun hc12 => ?_)
    · have hv := tv_ok rfl hL hc1 hc12
      obtain ⟨ek, hk⟩ := tv_nat hv
      replace hK := hK hv
      rw [zn_nI (by omega)] at hk
      obtain ⟨m, hm, em⟩ := hB.ch hk
      rw [em] at hK
      have KK := hk
      clear hX0
      generalize zn v = k at *
      subst ek
      refine r_aload_n qX3_outputByte_26 rfl ?_
      refine r_getr qX3_outputByte_27 fX3_64 rfl (by assumption) (by first | assumption | rfl) ?_
      refine r_iload_n qX3_outputByte_30 rfl ?_
      refine r_cv1 (cu2 := 0) (su2 := 0) qX3_outputByte_31 kX3_300 rfl (by decide +kernel) (c := 5) (by assumption) (by decide) rfl rfl rfl rfl rfl rfl ?_
      refine c_J4_charAt_5068e hB KK em hm ?_
      show zR E _ _ X 34 _ _ _ _ _ _ _
      refine r_iret qX3_outputByte_34 rfl rfl rfl rfl ?_
      exact hK
    · refine r_throwwX nse0 nse1 nse2 nse5 qX3_outputByte_15 qX3_outputByte_18 qX3_outputByte_19 qX3_outputByte_22 qX3_outputByte_25 tX3_295_297 rfl rfl rfl rfl rfl ?_
      first | exact hX0 (tv_lt hc1) | exact hX0 (tv_ge rfl hL hc12)

