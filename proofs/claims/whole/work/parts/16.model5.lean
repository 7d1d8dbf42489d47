/-! ===== THE MODEL'S OBJECT; what is refused ===== -/
/-- the model's cells: object x, net n, draft d, buffer b, past p, slots s, out o -/
def zW (g : Sh) (x n d b p s o : Nat) : Prop :=
  gT g x = 5 ∧ gR g x 1 = n ∧ gR g x 2 = d ∧ gR g x 4 = b ∧ gR g x 28 = p ∧ gR g x 30 = s ∧ gR g x 34 = o ∧
  (gT g n = 11 ∧ gL g n = 210) ∧ (gT g d = 11 ∧ gL g d = 210) ∧ (gT g b = 12 ∧ gL g b = 600) ∧ (gT g p = 11 ∧ gL g p = 1260) ∧ (gT g s = 11 ∧ gL g s = 420) ∧ (gT g o = 11 ∧ gL g o = 100) ∧
  n ≠ d ∧ n ≠ p ∧ n ≠ s ∧ n ≠ o ∧ d ≠ p ∧ d ≠ s ∧ d ≠ o ∧ p ≠ s ∧ p ≠ o ∧ s ≠ o
theorem zW.nx {g : Sh} {x n d b p s o : Nat} (h : zW g x n d b p s o) : n ≠ x := by
  obtain ⟨w1, -, -, -, -, -, -, ⟨w8, -⟩, -⟩ := h
  rintro rfl
  omega
theorem zW.m {g : Sh} {x n d b p s o : Nat} (h : zW g x n d b p s o) (h3 : gR g x 3 = n) : zM g x n := by
  obtain ⟨w1, -, -, -, -, -, -, ⟨w8, w9⟩, -⟩ := h
  exact ⟨w1, h3, w8, w9⟩
abbrev tv (n t : Int32) : Prop := 0 ≤ t.toInt ∧ t.toInt < (zn n : Int)
theorem tv_in {t n : Int32} {T : Nat} (hT : n = nI T) (h8 : T < 1000) : ((0 : Int64).toInt ≤ t.toInt64.toInt ∧ t.toInt64.toInt ≤ (n - nI 1).toInt64.toInt) ↔ tv n t := by
  subst hT
  have e : (nI T - nI 1).toInt = (T : Int) - 1 := by
    rw [Int32.toInt_sub, nI_toInt (by omega), nI_toInt (by omega), Int.bmod_eq_of_le] <;> omega
  rw [Int32.toInt_toInt64, Int32.toInt_toInt64, e, tv, zn_nI (by omega), show (0 : Int64).toInt = 0 by decide]
  omega
theorem tv_nat {n t : Int32} (h : tv n t) : t = nI (zn t) ∧ zn t < zn n := by
  obtain ⟨h1, h2⟩ := h
  have h3 := Int32.toInt_lt t
  have e : (zn t : Int) = t.toInt := by
    rw [zn, Int32.toNatClampNeg]
    exact Int.toNat_of_nonneg h1
  refine ⟨Int32.toInt_inj.mp ?_, by omega⟩
  rw [nI_toInt (by omega), e]
def c3 (a b c : Prop) [Decidable a] [Decidable b] [Decidable c] : Int32 := if ¬ a then nI 1 else if ¬ b then nI 2 else if ¬ c then nI 3 else nI 0
theorem wA_x {i : Ni} {x r : Nat} {f : Nat → Int32} (h : r ≠ x) : wA i x f r = i r := wA_n h
set_option maxHeartbeats 4000000 in
set_option maxRecDepth 20000 in
theorem c_X4_passes3 {E : Ev} {g : Sh} {i : Ni} {j : Nj} {K : Kp} {x : Nat} {a b c : Prop} {da : Decidable a} {db : Decidable b} {dc : Decidable c} (h1 : gT g x = 5) (hK : K (.inl (some (.int (zb (a ∧ b ∧ c))))) g (wA i x (upd (i x) 0 (c3 a b c))) j) : zCon E mX4_passes3 [.ref x, .int (zb a), .int (zb b), .int (zb c)] g i j K := by
  refine zcon_of (by decide +kernel) rfl rfl (lo := [.ref x, .int (zb a), .int (zb b), .int (zb c)]) rfl (fun X => ?_)
  have K26 : ∀ v : Int32, v = c3 a b c → (v = 0 ↔ (a ∧ b ∧ c)) → zR E mX4_passes3 (zZ E mX4_passes3 K) X 26 [.ref x, .int (zb a), .int (zb b), .int (zb c)] [.int v, .ref x] g i j 0 0 := by
    intro v hv hv2
    subst hv
    refine r_puti qX4_passes3_26 fX4_3 (Or.inl rfl) rfl rfl rfl (by assumption) ?_
    refine r_aload_n qX4_passes3_29 rfl ?_
    refine r_geti qX4_passes3_30 fX4_3 rfl (by assumption) ?_
    simp only [wA_s, pk_us]
    refine r_if_ne (t := 40) qX4_passes3_33 (by decide) (fun hc33 => ?_) (fun hc33 => ?_)
    · refine r_iconst (v := nI 0) qX4_passes3_40 (by decide) ?_
      refine r_iret qX4_passes3_41 rfl (by first | decide | exact zb_nar _ | assumption) rfl rfl ?_
      first | (rw [zb_f (fun h => hc33 (hv2.mpr h))] at hK; exact hK) | (rw [zb_t (hv2.mp hc33)] at hK; exact hK)
    · refine r_iconst (v := nI 1) qX4_passes3_36 (by decide) ?_
      refine r_goto (t := 41) qX4_passes3_37 (by decide) ?_
      refine r_iret qX4_passes3_41 rfl (by first | decide | exact zb_nar _ | assumption) rfl rfl ?_
      first | (rw [zb_f (fun h => hc33 (hv2.mpr h))] at hK; exact hK) | (rw [zb_t (hv2.mp hc33)] at hK; exact hK)
  refine r_aload_n qX4_passes3_0 rfl ?_
  refine r_iload_n qX4_passes3_1 rfl ?_
  refine r_if_ne (t := 9) qX4_passes3_2 (by decide) (fun hc2 => ?_) (fun hc2 => ?_)
  · refine r_iload_n qX4_passes3_9 rfl ?_
    refine r_if_ne (t := 17) qX4_passes3_10 (by decide) (fun hc10 => ?_) (fun hc10 => ?_)
    · refine r_iload_n qX4_passes3_17 rfl ?_
      refine r_if_ne (t := 25) qX4_passes3_18 (by decide) (fun hc18 => ?_) (fun hc18 => ?_)
      · refine r_iconst (v := nI 0) qX4_passes3_25 (by decide) ?_
        first | (have ha := zb_0.mp hc2; exact K26 _ (by rw [c3, if_pos ha]) ⟨fun h => absurd h (by decide), fun h => absurd h.1 ha⟩) | (have ha := zb_ne.mp hc2; have hb := zb_0.mp hc10; exact K26 _ (by rw [c3, if_neg (fun h => h ha), if_pos hb]) ⟨fun h => absurd h (by decide), fun h => absurd h.2.1 hb⟩) | (have ha := zb_ne.mp hc2; have hb := zb_ne.mp hc10; have hc := zb_0.mp hc18; exact K26 _ (by rw [c3, if_neg (fun h => h ha), if_neg (fun h => h hb), if_pos hc]) ⟨fun h => absurd h (by decide), fun h => absurd h.2.2 hc⟩) | (have ha := zb_ne.mp hc2; have hb := zb_ne.mp hc10; have hc := zb_ne.mp hc18; exact K26 _ (by rw [c3, if_neg (fun h => h ha), if_neg (fun h => h hb), if_neg (fun h => h hc)]) ⟨fun _ => ⟨ha, hb, hc⟩, fun _ => by decide⟩)
      · refine r_iconst (v := nI 3) qX4_passes3_21 (by decide) ?_
        refine r_goto (t := 26) qX4_passes3_22 (by decide) ?_
        first | (have ha := zb_0.mp hc2; exact K26 _ (by rw [c3, if_pos ha]) ⟨fun h => absurd h (by decide), fun h => absurd h.1 ha⟩) | (have ha := zb_ne.mp hc2; have hb := zb_0.mp hc10; exact K26 _ (by rw [c3, if_neg (fun h => h ha), if_pos hb]) ⟨fun h => absurd h (by decide), fun h => absurd h.2.1 hb⟩) | (have ha := zb_ne.mp hc2; have hb := zb_ne.mp hc10; have hc := zb_0.mp hc18; exact K26 _ (by rw [c3, if_neg (fun h => h ha), if_neg (fun h => h hb), if_pos hc]) ⟨fun h => absurd h (by decide), fun h => absurd h.2.2 hc⟩) | (have ha := zb_ne.mp hc2; have hb := zb_ne.mp hc10; have hc := zb_ne.mp hc18; exact K26 _ (by rw [c3, if_neg (fun h => h ha), if_neg (fun h => h hb), if_neg (fun h => h hc)]) ⟨fun _ => ⟨ha, hb, hc⟩, fun _ => by decide⟩)
    · refine r_iconst (v := nI 2) qX4_passes3_13 (by decide) ?_
      refine r_goto (t := 26) qX4_passes3_14 (by decide) ?_
      first | (have ha := zb_0.mp hc2; exact K26 _ (by rw [c3, if_pos ha]) ⟨fun h => absurd h (by decide), fun h => absurd h.1 ha⟩) | (have ha := zb_ne.mp hc2; have hb := zb_0.mp hc10; exact K26 _ (by rw [c3, if_neg (fun h => h ha), if_pos hb]) ⟨fun h => absurd h (by decide), fun h => absurd h.2.1 hb⟩) | (have ha := zb_ne.mp hc2; have hb := zb_ne.mp hc10; have hc := zb_0.mp hc18; exact K26 _ (by rw [c3, if_neg (fun h => h ha), if_neg (fun h => h hb), if_pos hc]) ⟨fun h => absurd h (by decide), fun h => absurd h.2.2 hc⟩) | (have ha := zb_ne.mp hc2; have hb := zb_ne.mp hc10; have hc := zb_ne.mp hc18; exact K26 _ (by rw [c3, if_neg (fun h => h ha), if_neg (fun h => h hb), if_neg (fun h => h hc)]) ⟨fun _ => ⟨ha, hb, hc⟩, fun _ => by decide⟩)
  · refine r_iconst (v := nI 1) qX4_passes3_5 (by decide) ?_
    refine r_goto (t := 26) qX4_passes3_6 (by decide) ?_
    first | (have ha := zb_0.mp hc2; exact K26 _ (by rw [c3, if_pos ha]) ⟨fun h => absurd h (by decide), fun h => absurd h.1 ha⟩) | (have ha := zb_ne.mp hc2; have hb := zb_0.mp hc10; exact K26 _ (by rw [c3, if_neg (fun h => h ha), if_pos hb]) ⟨fun h => absurd h (by decide), fun h => absurd h.2.1 hb⟩) | (have ha := zb_ne.mp hc2; have hb := zb_ne.mp hc10; have hc := zb_0.mp hc18; exact K26 _ (by rw [c3, if_neg (fun h => h ha), if_neg (fun h => h hb), if_pos hc]) ⟨fun h => absurd h (by decide), fun h => absurd h.2.2 hc⟩) | (have ha := zb_ne.mp hc2; have hb := zb_ne.mp hc10; have hc := zb_ne.mp hc18; exact K26 _ (by rw [c3, if_neg (fun h => h ha), if_neg (fun h => h hb), if_neg (fun h => h hc)]) ⟨fun _ => ⟨ha, hb, hc⟩, fun _ => by decide⟩)
set_option maxHeartbeats 4000000 in
set_option maxRecDepth 20000 in
theorem c_X4_passes2 {E : Ev} {g : Sh} {i : Ni} {j : Nj} {K : Kp} {x : Nat} {a b : Prop} {da : Decidable a} {db : Decidable b} (h1 : gT g x = 5) (hK : K (.inl (some (.int (zb (a ∧ b))))) g (wA i x (upd (i x) 0 (c3 a b True))) j) : zCon E mX4_passes2 [.ref x, .int (zb a), .int (zb b)] g i j K := by
  refine zcon_of (by decide +kernel) rfl rfl (lo := [.ref x, .int (zb a), .int (zb b)]) rfl (fun X => ?_)
  refine r_aload_n qX4_passes2_0 rfl ?_
  refine r_iload_n qX4_passes2_1 rfl ?_
  refine r_iload_n qX4_passes2_2 rfl ?_
  refine r_iconst (v := nI 1) qX4_passes2_3 (by decide) ?_
  refine r_cv3 (cu2 := 0) (su2 := 0) qX4_passes2_4 kX4_7 rfl (by decide +kernel) (c := 4) (by assumption) (by decide) rfl rfl rfl rfl rfl rfl ?_
  refine c_X4_passes3 (a := a) (b := b) (c := True) h1 ?_
  show zR E _ _ X 7 _ _ _ _ _ _ _
  rw [zb_c (show (a ∧ b ∧ True) ↔ (a ∧ b) by simp)]
  refine r_iret qX4_passes2_7 rfl (zb_nar _) rfl rfl ?_
  exact hK
set_option maxHeartbeats 4000000 in
set_option maxRecDepth 20000 in
theorem c_X4_passes1 {E : Ev} {g : Sh} {i : Ni} {j : Nj} {K : Kp} {x : Nat} {a : Prop} {da : Decidable a} (h1 : gT g x = 5) (hK : K (.inl (some (.int (zb a)))) g (wA i x (upd (i x) 0 (c3 a True True))) j) : zCon E mX4_passes1 [.ref x, .int (zb a)] g i j K := by
  refine zcon_of (by decide +kernel) rfl rfl (lo := [.ref x, .int (zb a)]) rfl (fun X => ?_)
  refine r_aload_n qX4_passes1_0 rfl ?_
  refine r_iload_n qX4_passes1_1 rfl ?_
  refine r_iconst (v := nI 1) qX4_passes1_2 (by decide) ?_
  refine r_iconst (v := nI 1) qX4_passes1_3 (by decide) ?_
  refine r_cv3 (cu2 := 0) (su2 := 0) qX4_passes1_4 kX4_7 rfl (by decide +kernel) (c := 4) (by assumption) (by decide) rfl rfl rfl rfl rfl rfl ?_
  refine c_X4_passes3 (a := a) (b := True) (c := True) h1 ?_
  show zR E _ _ X 7 _ _ _ _ _ _ _
  rw [zb_c (show (a ∧ True ∧ True) ↔ a by simp)]
  refine r_iret qX4_passes1_7 rfl (zb_nar _) rfl rfl ?_
  exact hK
set_option maxHeartbeats 4000000 in
set_option maxRecDepth 20000 in
theorem c_X4_hasTube {E : Ev} {g : Sh} {i : Ni} {j : Nj} {K : Kp} {x n d b p s o T : Nat} {t : Int32} (hW : zW g x n d b p s o) (hT : i n 5 = nI T) (h8 : T < 1000) (hK : K (.inl (some (.int (zb (tv (i n 5) t))))) g i j) : zCon E mX4_hasTube [.ref x, .int t] g i j K := by
  refine zcon_of (by decide +kernel) rfl rfl (lo := [.ref x, .int t]) rfl (fun X => ?_)
  obtain ⟨w1, w2, w3, w4, w5, w6, w7, ⟨w8, w9⟩, -⟩ := hW
  refine r_iload_n qX4_hasTube_0 rfl ?_
  refine r_i2l qX4_hasTube_1 ?_
  refine r_lconst (v := 0) qX4_hasTube_2 (by decide) ?_
  refine r_aload_n qX4_hasTube_3 rfl ?_
  refine r_getr qX4_hasTube_4 fX4_17 rfl (by assumption) (by first | assumption | rfl) ?_
  refine r_iconst (v := nI 5) qX4_hasTube_7 (by decide) ?_
  refine r_ialdN qX4_hasTube_8 (by assumption) (by assumption) (by omega) rfl ?_
  refine r_iconst (v := nI 1) qX4_hasTube_9 (by decide) ?_
  refine r_isub qX4_hasTube_10 ?_
  refine r_i2l qX4_hasTube_11 ?_
  refine r_cs3 (cu2 := 0) (su2 := 0) qX4_hasTube_12 kX4_276 rfl (by decide +kernel) rfl rfl rfl rfl rfl ?_
  refine c_X4_in ?_
  show zR E _ _ X 15 _ _ _ _ _ _ _
  rw [zb_c (tv_in hT h8)]
  refine r_iret qX4_hasTube_15 rfl (by first | decide | exact zb_nar _ | assumption) rfl rfl ?_
  exact hK
set_option maxHeartbeats 4000000 in
set_option maxRecDepth 20000 in
theorem c_X4_hasBath {E : Ev} {g : Sh} {i : Ni} {j : Nj} {K : Kp} {x n d b p s o T : Nat} {t : Int32} (hW : zW g x n d b p s o) (hT : i n 4 = nI T) (h8 : T < 1000) (hK : K (.inl (some (.int (zb (tv (i n 4) t))))) g i j) : zCon E mX4_hasBath [.ref x, .int t] g i j K := by
  refine zcon_of (by decide +kernel) rfl rfl (lo := [.ref x, .int t]) rfl (fun X => ?_)
  obtain ⟨w1, w2, w3, w4, w5, w6, w7, ⟨w8, w9⟩, -⟩ := hW
  refine r_iload_n qX4_hasBath_0 rfl ?_
  refine r_i2l qX4_hasBath_1 ?_
  refine r_lconst (v := 0) qX4_hasBath_2 (by decide) ?_
  refine r_aload_n qX4_hasBath_3 rfl ?_
  refine r_getr qX4_hasBath_4 fX4_17 rfl (by assumption) (by first | assumption | rfl) ?_
  refine r_iconst (v := nI 4) qX4_hasBath_7 (by decide) ?_
  refine r_ialdN qX4_hasBath_8 (by assumption) (by assumption) (by omega) rfl ?_
  refine r_iconst (v := nI 1) qX4_hasBath_9 (by decide) ?_
  refine r_isub qX4_hasBath_10 ?_
  refine r_i2l qX4_hasBath_11 ?_
  refine r_cs3 (cu2 := 0) (su2 := 0) qX4_hasBath_12 kX4_276 rfl (by decide +kernel) rfl rfl rfl rfl rfl ?_
  refine c_X4_in ?_
  show zR E _ _ X 15 _ _ _ _ _ _ _
  rw [zb_c (tv_in hT h8)]
  refine r_iret qX4_hasBath_15 rfl (by first | decide | exact zb_nar _ | assumption) rfl rfl ?_
  exact hK
set_option maxHeartbeats 4000000 in
set_option maxRecDepth 20000 in
theorem c_X4_hasSpirit {E : Ev} {g : Sh} {i : Ni} {j : Nj} {K : Kp} {x n d b p s o T : Nat} {t : Int32} (hW : zW g x n d b p s o) (hT : i n 3 = nI T) (h8 : T < 1000) (hK : K (.inl (some (.int (zb (tv (i n 3) t))))) g i j) : zCon E mX4_hasSpirit [.ref x, .int t] g i j K := by
  refine zcon_of (by decide +kernel) rfl rfl (lo := [.ref x, .int t]) rfl (fun X => ?_)
  obtain ⟨w1, w2, w3, w4, w5, w6, w7, ⟨w8, w9⟩, -⟩ := hW
  refine r_iload_n qX4_hasSpirit_0 rfl ?_
  refine r_i2l qX4_hasSpirit_1 ?_
  refine r_lconst (v := 0) qX4_hasSpirit_2 (by decide) ?_
  refine r_aload_n qX4_hasSpirit_3 rfl ?_
  refine r_getr qX4_hasSpirit_4 fX4_17 rfl (by assumption) (by first | assumption | rfl) ?_
  refine r_iconst (v := nI 3) qX4_hasSpirit_7 (by decide) ?_
  refine r_ialdN qX4_hasSpirit_8 (by assumption) (by assumption) (by omega) rfl ?_
  refine r_iconst (v := nI 1) qX4_hasSpirit_9 (by decide) ?_
  refine r_isub qX4_hasSpirit_10 ?_
  refine r_i2l qX4_hasSpirit_11 ?_
  refine r_cs3 (cu2 := 0) (su2 := 0) qX4_hasSpirit_12 kX4_276 rfl (by decide +kernel) rfl rfl rfl rfl rfl ?_
  refine c_X4_in ?_
  show zR E _ _ X 15 _ _ _ _ _ _ _
  rw [zb_c (tv_in hT h8)]
  refine r_iret qX4_hasSpirit_15 rfl (by first | decide | exact zb_nar _ | assumption) rfl rfl ?_
  exact hK
set_option maxHeartbeats 4000000 in
set_option maxRecDepth 20000 in
theorem c_X4_tell {E : Ev} {g : Sh} {i : Ni} {j : Nj} {K : Kp} {x n d b p s o w : Nat} (hW : zW g x n d b p s o) (hw : w < 10) (hK : K (.inl (some (.int (i n w)))) g (wA i x (upd (i x) 0 (nI 0))) j) : zCon E mX4_tell [.ref x, .int (nI w)] g i j K := by
  refine zcon_of (by decide +kernel) rfl rfl (lo := [.ref x, .int (nI w)]) rfl (fun X => ?_)
  have nx := hW.nx
  obtain ⟨w1, w2, w3, w4, w5, w6, w7, ⟨w8, w9⟩, -⟩ := hW
  refine r_aload_n qX4_tell_0 rfl ?_
  refine r_iconst (v := nI 0) qX4_tell_1 (by decide) ?_
  refine r_puti qX4_tell_2 fX4_3 (Or.inl rfl) rfl rfl rfl (by assumption) ?_
  refine r_aload_n qX4_tell_5 rfl ?_
  refine r_getr qX4_tell_6 fX4_17 rfl (by assumption) (by first | assumption | rfl) ?_
  refine r_iload_n qX4_tell_9 rfl ?_
  refine r_ialdN qX4_tell_10 (by assumption) (by assumption) (by omega) rfl ?_
  rw [wA_n nx]
  refine r_iret qX4_tell_11 rfl rfl rfl rfl ?_
  exact hK
set_option maxHeartbeats 4000000 in
set_option maxRecDepth 20000 in
theorem c_X4_minute {E : Ev} {g : Sh} {i : Ni} {j : Nj} {K : Kp} {x n d b p s o : Nat} (hW : zW g x n d b p s o) (hK : K (.inl (some (.int (i n 2)))) g (wA i x (upd (i x) 0 (nI 0))) j) : zCon E mX4_minute [.ref x] g i j K := by
  refine zcon_of (by decide +kernel) rfl rfl (lo := [.ref x]) rfl (fun X => ?_)
  have w1 := hW.1
  refine r_aload_n qX4_minute_0 rfl ?_
  refine r_iconst (v := nI 2) qX4_minute_1 (by decide) ?_
  refine r_cv1 (cu2 := 0) (su2 := 0) qX4_minute_2 kX4_387 rfl (by decide +kernel) (c := 4) (by assumption) (by decide) rfl rfl rfl rfl rfl rfl ?_
  refine c_X4_tell (by first | assumption | omega | rfl | decide) (by first | assumption | omega | rfl | decide) ?_
  show zR E _ _ X 5 _ _ _ _ _ _ _
  refine r_iret qX4_minute_5 rfl rfl rfl rfl ?_
  exact hK
set_option maxHeartbeats 4000000 in
set_option maxRecDepth 20000 in
theorem c_X4_roomDegrees {E : Ev} {g : Sh} {i : Ni} {j : Nj} {K : Kp} {x n d b p s o : Nat} (hW : zW g x n d b p s o) (hK : K (.inl (some (.int (i n 0)))) g (wA i x (upd (i x) 0 (nI 0))) j) : zCon E mX4_roomDegrees [.ref x] g i j K := by
  refine zcon_of (by decide +kernel) rfl rfl (lo := [.ref x]) rfl (fun X => ?_)
  have w1 := hW.1
  refine r_aload_n qX4_roomDegrees_0 rfl ?_
  refine r_iconst (v := nI 0) qX4_roomDegrees_1 (by decide) ?_
  refine r_cv1 (cu2 := 0) (su2 := 0) qX4_roomDegrees_2 kX4_387 rfl (by decide +kernel) (c := 4) (by assumption) (by decide) rfl rfl rfl rfl rfl rfl ?_
  refine c_X4_tell (by first | assumption | omega | rfl | decide) (by first | assumption | omega | rfl | decide) ?_
  show zR E _ _ X 5 _ _ _ _ _ _ _
  refine r_iret qX4_roomDegrees_5 rfl rfl rfl rfl ?_
  exact hK
set_option maxHeartbeats 4000000 in
set_option maxRecDepth 20000 in
theorem c_X4_thumbedTube {E : Ev} {g : Sh} {i : Ni} {j : Nj} {K : Kp} {x n d b p s o : Nat} (hW : zW g x n d b p s o) (hK : K (.inl (some (.int (i n 6)))) g (wA i x (upd (i x) 0 (nI 0))) j) : zCon E mX4_thumbedTube [.ref x] g i j K := by
  refine zcon_of (by decide +kernel) rfl rfl (lo := [.ref x]) rfl (fun X => ?_)
  have w1 := hW.1
  refine r_aload_n qX4_thumbedTube_0 rfl ?_
  refine r_bipush (v := nI 6) qX4_thumbedTube_1 (by decide) ?_
  refine r_cv1 (cu2 := 0) (su2 := 0) qX4_thumbedTube_3 kX4_387 rfl (by decide +kernel) (c := 4) (by assumption) (by decide) rfl rfl rfl rfl rfl rfl ?_
  refine c_X4_tell (by first | assumption | omega | rfl | decide) (by first | assumption | omega | rfl | decide) ?_
  show zR E _ _ X 6 _ _ _ _ _ _ _
  refine r_iret qX4_thumbedTube_6 rfl rfl rfl rfl ?_
  exact hK
set_option maxHeartbeats 4000000 in
set_option maxRecDepth 20000 in
theorem c_X4_thumbLeft {E : Ev} {g : Sh} {i : Ni} {j : Nj} {K : Kp} {x n d b p s o : Nat} (hW : zW g x n d b p s o) (hK : K (.inl (some (.int (i n 7)))) g (wA i x (upd (i x) 0 (nI 0))) j) : zCon E mX4_thumbLeft [.ref x] g i j K := by
  refine zcon_of (by decide +kernel) rfl rfl (lo := [.ref x]) rfl (fun X => ?_)
  have w1 := hW.1
  refine r_aload_n qX4_thumbLeft_0 rfl ?_
  refine r_bipush (v := nI 7) qX4_thumbLeft_1 (by decide) ?_
  refine r_cv1 (cu2 := 0) (su2 := 0) qX4_thumbLeft_3 kX4_387 rfl (by decide +kernel) (c := 4) (by assumption) (by decide) rfl rfl rfl rfl rfl rfl ?_
  refine c_X4_tell (by first | assumption | omega | rfl | decide) (by first | assumption | omega | rfl | decide) ?_
  show zR E _ _ X 6 _ _ _ _ _ _ _
  refine r_iret qX4_thumbLeft_6 rfl rfl rfl rfl ?_
  exact hK

