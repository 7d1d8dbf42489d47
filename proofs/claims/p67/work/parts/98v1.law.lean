/-! ===== P67: THE LAW'S LOOP ===== -/
/-- what stands before each act -/
def jI (E : Ev) (g : Sh) (i : Ni) (c rd tx ur sl sf sb : Nat) (A : Nat → Nat → Nat) (N : Nat → Int32) (u w : Nat) : Prop :=
  zY g c rd tx ur sl sf sb A ∧ zH i (A 0) N ∧ (i c 7 = nI u ∧ u < 6) ∧ (i c 8 = nI w ∧ w ≤ 6) ∧ (∀ m, m < 11 → zNo i (A m)) ∧ dOk E N ∧ jB N
theorem jI.na {E : Ev} {g g' : Sh} {i i' : Ni} {j j' : Nj} {c rd tx ur sl sf sb : Nat} {A : Nat → Nat → Nat} {N : Nat → Int32} {u w : Nat} (h : jI E g i c rd tx ur sl sf sb A N u w) (F : zNa2 g i j g' i' j') : jI E g' i' c rd tx ur sl sf sb A N u w := by
  obtain ⟨hY, hH, ⟨h7, u6⟩, ⟨h8, w6⟩, hN, hD, hB⟩ := h
  have ec : i' c = i c := (F.at (q := c) (by rw [hY.1]; decide)).2.2.2.2
  exact ⟨hY.na2 F, hH.nk (hY.cc (by decide)) F, ⟨by rw [ec]; exact h7, u6⟩, ⟨by rw [ec]; exact h8, w6⟩, fun m hm => (hN m hm).na2 (hY.cc hm) F, hD, hB⟩
theorem jI.act {E : Ev} {g : Sh} {i i' : Ni} {c rd tx ur sl sf sb : Nat} {A : Nat → Nat → Nat} {N N' : Nat → Int32} {u w : Nat} (h : jI E g i c rd tx ur sl sf sb A N u w) (hA : zAc c A u w i' i N N') (hD : dOk E N') (hB : jB N') : jI E g i' c rd tx ur sl sf sb A N' (if u = 5 then 0 else u + 1) (if w = 6 then 6 else w + 1) := by
  obtain ⟨hY, hH, ⟨h7, u6⟩, ⟨h8, w6⟩, hN, -, -⟩ := h
  obtain ⟨a1, a2, a3, a4, a5, a6⟩ := hA
  refine ⟨hY, a1, ⟨a3, by split <;> omega⟩, ⟨a4, by split <;> omega⟩, fun m hm => ?_, hD, hB⟩
  by_cases m0 : m = 0
  · subst m0; exact a1.no
  by_cases mu : m = 3 + u
  · subst mu; exact a2.no
  intro z hz
  rw [a6 _ (hY.cn hm (by omega)) (fun q hq => hY.ne hm (by decide) m0 (by omega) hq) (fun q hq => hY.ne hm (by omega) mu (by omega) hq)]
  exact hN m hm z hz
theorem un_u {u : Nat} (h : u < 6) : (if (if u = 5 then 0 else u + 1) = 0 then 5 else (if u = 5 then 0 else u + 1) - 1) = u := by
  by_cases e : u = 5
  · subst e; rfl
  · rw [if_neg e, if_neg (by omega)]; omega
theorem lcmp_s (a : Int64) : lg_cmp a a = nI 0 := by
  have h : ¬ a > a := Int64.lt_irrefl
  rw [lg_cmp, if_neg h, if_pos rfl]
  rfl
section
variable {E : Ev} {Z : Fx → State → Prop} {X : Fx} {c rd tx ur sl sf sb : Nat} {A : Nat → Nat → Nat}
set_option maxHeartbeats 4000000 in
set_option maxRecDepth 400000 in
theorem law_turns (KE : ∀ (g : Sh) (i : Ni) (j : Nj) (cu su : Nat) (lo : List Value), cu ≤ 600086 → su ≤ 7301442 → zR E mL_law Z X 121 lo [] g i j cu su) : ∀ n k : Nat, k + 3 * n = 170 → ∀ (g : Sh) (i : Ni) (j : Nj) (N : Nat → Int32) (u w : Nat), jI E g i c rd tx ur sl sf sb A N u w → ∀ (z3 z4 z5 : Value) (CU SU : Nat), CU + 5500 * n ≤ 230000 → SU + 33000 * n ≤ 1500000 → zR E mL_law Z X 29 [.ref (eS E 4 + 1), .ref c, .int (nI k), z3, z4, z5] [] g i j CU SU := by
  intro n
  induction n with
  | zero =>
    intro k hk g i j N u w hJ z3 z4 z5 CU SU hCU hSU
    obtain rfl : k = 170 := by omega
    refine r_iload_n qL_law_29 rfl ?_
    refine r_iconst (v := nI 2) qL_law_30 (by decide) ?_
    first | with_reducible refine r_iaddN qL_law_31 ?_ | refine r_iadd qL_law_31 ?_
    refine r_sipush (v := nI 170) qL_law_32 (by decide) ?_
    refine r_icmp_ge (t := 121) qL_law_35 (by decide) (fun hc35 => ?_) (fun hc35 => absurd hc35 (fun h => h (by decide)))
    exact KE _ _ _ _ _ _ (by omega) (by omega)
  | succ n ih =>
    intro k hk g i j N u w hJ z3 z4 z5 CU SU hCU hSU
    have hX := hJ.1.x
    have hO := hJ.2.1.1
    have K115 : ∀ (g : Sh) (i : Ni) (j : Nj) (N : Nat → Int32) (u w : Nat), jI E g i c rd tx ur sl sf sb A N u w → ∀ (z3 z4 z5 : Value) (CU SU : Nat), CU + 5500 * n ≤ 230000 → SU + 33000 * n ≤ 1500000 → zR E mL_law Z X 115 [.ref (eS E 4 + 1), .ref c, .int (nI k), z3, z4, z5] [] g i j CU SU := by
      intro g i j N u w hJ z3 z4 z5 CU SU hCU hSU
      refine r_ii_6_2 qL_law_115 rfl rfl (show nI k + Int32.ofInt 3 = nI (k + 3) by rw [show Int32.ofInt 3 = nI 3 by decide]; exact nI_add k 3) ?_
      refine r_goto (t := 29) qL_law_118 (by decide) ?_
      exact ih (k + 3) (by omega) _ _ _ _ _ _ hJ _ _ _ _ _ (by omega) (by omega)
    have K50a : zR E mL_law Z X 50 [.ref (eS E 4 + 1), .ref c, .int (nI k), .long (hAll E N), zJ, z5] [.int (-9999)] g i j (CU + 220) (SU + 1320) := by
      refine r_is_6_5 qL_law_50 rfl rfl ?_
      refine r_iload qL_law_52 rfl ?_
      refine r_sipush (v := (-9999)) qL_law_54 (by decide) ?_
      refine r_icmp_ne (t := 72) qL_law_57 (by decide) (fun hc57 => absurd hc57 (fun h => h rfl)) (fun hc57 => ?_)
      refine r_aload_n qL_law_60 rfl ?_
      refine r_aload_n qL_law_61 rfl ?_
      refine r_cs2 (cu2 := CU + 420) (su2 := SU + 2520) qL_law_62 kL_350 rfl (by decide +kernel) rfl rfl rfl (lbx (m := 600086) rfl (by omega)) (lbx (m := 7301442) rfl (by omega)) ?_
      refine c_L_all hX hJ.2.1 hJ.2.2.2.2.2.1 ?_
      show zR E _ _ X 65 _ _ _ _ _ _ _
      refine r_lload_n qL_law_65 rfl ?_
      refine r_lcmp qL_law_66 ?_
      rw [lcmp_s]
      refine r_if_eq (t := 115) qL_law_67 (by decide) (fun hc67 => ?_) (fun hc67 => absurd hc67 (fun h => h rfl))
      exact K115 _ _ _ _ _ _ hJ _ _ _ _ _ (by omega) (by omega)
    have K50b : ∀ (v : Int32) (N1 : Nat → Int32) (i1 : Ni), ¬ v = -9999 → zAc c A u w i1 i N N1 → dOk E N1 → jB N1 → zR E mL_law Z X 50 [.ref (eS E 4 + 1), .ref c, .int (nI k), .long (hAll E N), zJ, z5] [.int v] g i1 j (CU + 220) (SU + 1320) := by
      intro v N1 i1 hv hA hD1 hB1
      have hJ1 := hJ.act hA hD1 hB1
      have hd4 := dw_lt E (k + 1) (show 0 < 4 by decide)
      have K96 : ∀ (g2 : Sh) (i2 : Ni) (j2 : Nj), zNa2 g i1 j g2 i2 j2 → zR E mL_law Z X 96 [.ref (eS E 4 + 1), .ref c, .int (nI k), .long (hAll E N), zJ, .int v] [] g2 i2 j2 (CU + 5220) (SU + 31320) := by
        intro g2 i2 j2 F
        have hJ2 := hJ1.na F
        have h3u := hA.2.1.nk (hJ.1.cc (show 3 + u < 11 by have := hJ.2.2.1.2; omega)) F
        have u6 := hJ.2.2.1.2
        have w6 := hJ.2.2.2.1.2
        have hw0 : ¬ (if w = 6 then 6 else w + 1) = 0 := by split <;> omega
        refine r_aload_n qL_law_96 rfl ?_
        refine r_cv0 (cu2 := CU + 5221) (su2 := SU + 31326) qL_law_97 kL_358 rfl (by decide +kernel) (c := 3) hJ2.1.1 (by decide) rfl rfl rfl rfl (lbx (m := 600086) rfl (by omega)) (lbx (m := 7301442) rfl (by omega)) ?_
        refine c_X3_undo (N2 := N) hJ2.1 hJ2.2.1 hJ2.2.2.1.1 hJ2.2.2.1.2 hJ2.2.2.2.1.1 hJ2.2.2.2.1.2 (fun _ => by rw [un_u u6]; exact h3u) (fun h => absurd h hw0) (fun _ i3 b1 b2 b3 b4 b5 => ?_)
        have hN3 : ∀ m, m < 11 → zNo i3 (A m) := fun m hm => by
          by_cases m0 : m = 0
          · subst m0; exact b1.no
          intro z hz
          rw [b5 _ (hJ2.1.cn hm (by omega)) (fun q hq => hJ2.1.ne hm (by decide) m0 (by omega) hq)]
          exact hJ2.2.2.2.2.1 m hm z hz
        rw [un_u u6] at b2
        have hJ3 : jI E g2 i3 c rd tx ur sl sf sb A N u ((if w = 6 then 6 else w + 1) - 1) := ⟨hJ2.1, b1, ⟨b2, u6⟩, ⟨b3, by have := hJ2.2.2.2.1.2; omega⟩, hN3, hJ.2.2.2.2.2.1, hJ.2.2.2.2.2.2⟩
        have hw7 := hJ2.2.2.2.1.2
        have hX3 := hJ3.1.x
        show zR E _ _ X 100 _ _ _ _ _ _ _
        refine r_if_lt (t := 113) qL_law_100 (by decide) (fun hc100 => absurd hc100 (not_neg (by omega))) (fun hc100 => ?_)
        refine r_aload_n qL_law_103 rfl ?_
        refine r_aload_n qL_law_104 rfl ?_
        refine r_cs2 (cu2 := CU + 5421) (su2 := SU + 32526) qL_law_105 kL_350 rfl (by decide +kernel) rfl rfl rfl (lbx (m := 600086) rfl (by omega)) (lbx (m := 7301442) rfl (by omega)) ?_
        refine c_L_all hX3 b1 hJ.2.2.2.2.2.1 ?_
        show zR E _ _ X 108 _ _ _ _ _ _ _
        refine r_lload_n qL_law_108 rfl ?_
        refine r_lcmp qL_law_109 ?_
        rw [lcmp_s]
        refine r_if_eq (t := 115) qL_law_110 (by decide) (fun hc110 => ?_) (fun hc110 => absurd hc110 (fun h => h rfl))
        exact K115 _ _ _ _ _ _ hJ3 _ _ _ _ _ (by omega) (by omega)
      have hO1 := hJ1.2.1.1
      refine r_is_6_5 qL_law_50 rfl rfl ?_
      refine r_iload qL_law_52 rfl ?_
      refine r_sipush (v := (-9999)) qL_law_54 (by decide) ?_
      refine r_icmp_ne (t := 72) qL_law_57 (by decide) (fun hc57 => ?_) (fun hc57 => absurd hc57 (hv))
      refine r_aload_n qL_law_72 rfl ?_
      refine r_aload_n qL_law_73 rfl ?_
      refine r_cs2 (cu2 := CU + 5220) (su2 := SU + 31320) qL_law_74 kL_347 rfl (by decide +kernel) rfl rfl rfl (lbx (m := 600086) rfl (by omega)) (lbx (m := 7301442) rfl (by omega)) ?_
      refine c_L_holds hJ1.1.x hJ1.2.1 hJ1.2.2.2.2.2.1 (sMissed_0 hO1 _ (Nat.le_refl _)) hJ1.2.2.2.2.2.2.rest (fun g2 i2 j2 F => ?_)
      show zR E _ _ X 77 _ _ _ _ _ _ _
      refine r_if_ne (t := 82) qL_law_77 (by decide) (fun hc77 => ?_) (fun hc77 => absurd hc77 (by decide))
      refine r_aload_n qL_law_82 rfl ?_
      refine r_iload_n qL_law_83 rfl ?_
      refine r_iconst (v := nI 1) qL_law_84 (by decide) ?_
      first | with_reducible refine r_iaddN qL_law_85 ?_ | refine r_iadd qL_law_85 ?_
      refine r_iconst (v := nI 4) qL_law_86 (by decide) ?_
      refine r_cs3 (cu2 := CU + 5220) (su2 := SU + 31320) qL_law_87 kL_40 rfl (by decide +kernel) rfl rfl rfl (lbx (m := 600086) rfl (by omega)) (lbx (m := 7301442) rfl (by omega)) ?_
      refine c_L_draw (by omega) (by decide) (by decide) ?_
      show zR E _ _ X 90 _ _ _ _ _ _ _
      refine r_if_le (t := 96) qL_law_90 (by decide) (fun hc90 => ?_) (fun hc90 => ?_)
      · exact K96 _ _ _ F
      · refine r_goto (t := 115) qL_law_93 (by decide) ?_
        exact K115 _ _ _ _ _ _ (hJ1.na F) _ _ _ _ _ (by omega) (by omega)
    refine r_iload_n qL_law_29 rfl ?_
    refine r_iconst (v := nI 2) qL_law_30 (by decide) ?_
    first | with_reducible refine r_iaddN qL_law_31 ?_ | refine r_iadd qL_law_31 ?_
    refine r_sipush (v := nI 170) qL_law_32 (by decide) ?_
    refine r_icmp_ge (t := 121) qL_law_35 (by decide) (fun hc35 => absurd hc35 (nI_ge (show k + 2 < 170 by omega) (by omega))) (fun hc35 => ?_)
    refine r_aload_n qL_law_38 rfl ?_
    refine r_aload_n qL_law_39 rfl ?_
    refine r_cs2 (cu2 := CU + 200) (su2 := SU + 1200) qL_law_40 kL_350 rfl (by decide +kernel) rfl rfl rfl (lbx (m := 600086) rfl (by omega)) (lbx (m := 7301442) rfl (by omega)) ?_
    refine c_L_all hX hJ.2.1 hJ.2.2.2.2.2.1 ?_
    show zR E _ _ X 43 _ _ _ _ _ _ _
    refine r_ls_6_3 qL_law_43 rfl rfl ?_
    refine r_aload_n qL_law_44 rfl ?_
    refine r_aload_n qL_law_45 rfl ?_
    refine r_iload_n qL_law_46 rfl ?_
    refine r_cs3 (cu2 := CU + 220) (su2 := SU + 1320) qL_law_47 kL_354 rfl (by decide +kernel) rfl rfl rfl (lbx (m := 600086) rfl (by omega)) (lbx (m := 7301442) rfl (by omega)) ?_
    refine c_L_act hJ.1 hJ.2.1 hJ.2.2.1.1 hJ.2.2.1.2 hJ.2.2.2.1.1 hJ.2.2.2.1.2 (hJ.2.2.2.2.1 (3 + u) (by have := hJ.2.2.1.2; omega)) (by omega) hJ.2.2.2.2.2.1 hJ.2.2.2.2.2.2 ?_ (fun v N1 i1 hv hA hD1 hB1 => ?_)
    · show zR E _ _ X 50 _ _ _ _ _ _ _
      exact K50a
    · show zR E _ _ X 50 _ _ _ _ _ _ _
      exact K50b v N1 i1 hv hA hD1 hB1
set_option maxHeartbeats 4000000 in
set_option maxRecDepth 400000 in
theorem law_main {g : Sh} {i : Ni} {j : Nj} (KE : ∀ (g : Sh) (i : Ni) (j : Nj) (cu su : Nat) (lo : List Value), cu ≤ 600086 → su ≤ 7301442 → zR E mL_law Z X 121 lo [] g i j cu su) : zR E mL_law Z X 0 [.ref (eS E 4 + 1), zJ, zJ, zJ, zJ, zJ] [] g i j 0 0 := by
  refine r_new qL_law_0 nL_25 rfl rfl (fun c c0 cf => ?_)
  refine r_dup qL_law_3 rfl ?_
  refine r_ci0 (cu2 := 501) (su2 := 6011) qL_law_4 kL_343 rfl (by decide +kernel) (by assumption) rfl rfl rfl rfl rfl ?_
  refine c_X3_init c0 (by rw [gT_wN, if_pos rfl]) (fun rd tx ur sl sf sb A g1 i1 j1 y1 y2 y3 y4 y5 y6 y7 y8 y9 y10 y11 y12 F1 => ?_)
  show zR E _ _ X 7 _ _ _ _ _ _ _
  refine r_as_6_1 qL_law_7 rfl rfl ?_
  refine r_aload_n qL_law_8 rfl ?_
  refine r_aload_n qL_law_9 rfl ?_
  refine r_cs2 (cu2 := 751) (su2 := 86011) qL_law_10 kL_344 rfl (by decide +kernel) rfl rfl rfl rfl rfl ?_
  refine c_L_load y1 y2 y4 y5 y3 y8 y9 (fun g2 i2 j2 l1 l2 l3 l4 l5 => ?_)
  have hJ : jI E g2 i2 c rd tx ur sl sf sb A (rowL E) 1 1 := ⟨l1, l2, ⟨l3, by decide⟩, ⟨l4, by decide⟩, l5, rowL_d E, rowL_b E⟩
  have hO := l2.1
  show zR E _ _ X 13 _ _ _ _ _ _ _
  refine r_if_eq (t := 24) qL_law_13 (by decide) (fun hc13 => absurd hc13 (by decide)) (fun hc13 => ?_)
  refine r_aload_n qL_law_16 rfl ?_
  refine r_aload_n qL_law_17 rfl ?_
  refine r_cs2 (cu2 := 5751) (su2 := 116011) qL_law_18 kL_347 rfl (by decide +kernel) rfl rfl rfl rfl rfl ?_
  refine c_L_holds l1.x l2 (rowL_d E) (sMissed_0 hO _ (Nat.le_refl _)) (rowL_b E).rest (fun g3 i3 j3 F => ?_)
  show zR E _ _ X 21 _ _ _ _ _ _ _
  refine r_if_ne (t := 26) qL_law_21 (by decide) (fun hc21 => ?_) (fun hc21 => absurd hc21 (by decide))
  refine r_bipush (v := nI 50) qL_law_26 (by decide) ?_
  refine r_is_6_2 qL_law_28 rfl rfl ?_
  exact law_turns KE 40 50 (by decide) _ _ _ _ _ _ (hJ.na F) _ _ _ _ _ (by decide) (by decide)
end

