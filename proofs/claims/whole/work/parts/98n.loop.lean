/-! ===== THE LAW'S LOOP ===== -/
theorem and63 (v : Int32) : ∃ k : Nat, k < 64 ∧ v &&& nI 63 = nI k := by
  refine ⟨v.toBitVec.toNat % 64, Nat.mod_lt _ (by decide), ?_⟩
  apply Int32.toBitVec_inj.mp
  apply BitVec.eq_of_toNat_eq
  have e1 : (nI 63).toBitVec.toNat = 2 ^ 6 - 1 := by decide
  have e2 : (nI (v.toBitVec.toNat % 64)).toBitVec.toNat = v.toBitVec.toNat % 64 := by
    show (BitVec.ofNat 32 (v.toBitVec.toNat % 64)).toNat = _
    rw [BitVec.toNat_ofNat, Nat.mod_eq_of_lt (by omega)]
  rw [Int32.toBitVec_and, BitVec.toNat_and, e1, Nat.and_two_pow_sub_one_eq_mod, e2]
theorem lim_toInt {L0 : Nat} (h : L0 ≤ 3072) : (nI L0 - nI 6).toInt = (L0 : Int) - 6 := by
  rw [Int32.toInt_sub, nI_toInt (by omega), nI_toInt (by omega), Int.bmod_eq_of_le] <;> omega
section
variable {E : Ev} {Z : Fx → State → Prop} {X : Fx} {bb L0 : Nat} {xs : Nat → Int32} {c rd tx ur sl sf sb : Nat} {A : Nat → Nat → Nat} {x n d b p s o ol : Nat}
theorem law_case {g : Sh} {i : Ni} {j : Nj} {CU SU q : Nat} (hX : zScr E X bb L0 xs) (hq : q + 6 ≤ L0) (hL : L0 ≤ 3072) (hCU : CU + 14 ≤ 601024) (hSU : SU + 1046 ≤ 7293034) (hI : iInv g i j c rd tx ur sl sf sb A x n d b p s o ol) (KN : lawN E Z X CU SU q bb c rd tx ur sl sf sb A x n d b p s o ol) (k : Nat) (hk : k < 64) : zR E mL_law Z X 40 [.ref (bb + 1), .ref c, .ref x, .ref ol, .int (nI q), zJ, zJ, zJ, zJ] [.int (nI k)] g i j CU SU := by
  match k, hk with
  | 0, _ => refine r_table (off := 272) (t := 312) qL_law_40 (by decide) (by decide) (by decide +kernel) (by decide) (lc_0 hX hq hL hCU hSU hI KN)
  | 1, _ => refine r_table (off := 376) (t := 416) qL_law_40 (by decide) (by decide) (by decide +kernel) (by decide) (lc_1 hX hq hL hCU hSU hI KN)
  | 2, _ => refine r_table (off := 432) (t := 472) qL_law_40 (by decide) (by decide) (by decide +kernel) (by decide) (lc_2 hX hq hL hCU hSU hI KN)
  | 3, _ => refine r_table (off := 445) (t := 485) qL_law_40 (by decide) (by decide) (by decide +kernel) (by decide) (lc_3 hX hq hL hCU hSU hI KN)
  | 4, _ => refine r_table (off := 458) (t := 498) qL_law_40 (by decide) (by decide) (by decide +kernel) (by decide) (lc_4 hX hq hL hCU hSU hI KN)
  | 5, _ => refine r_table (off := 471) (t := 511) qL_law_40 (by decide) (by decide) (by decide +kernel) (by decide) (lc_5 hX hq hL hCU hSU hI KN)
  | 6, _ => refine r_table (off := 484) (t := 524) qL_law_40 (by decide) (by decide) (by decide +kernel) (by decide) (lc_6 hX hq hL hCU hSU hI KN)
  | 7, _ => refine r_table (off := 497) (t := 537) qL_law_40 (by decide) (by decide) (by decide +kernel) (by decide) (lc_7 hX hq hL hCU hSU hI KN)
  | 8, _ => refine r_table (off := 553) (t := 593) qL_law_40 (by decide) (by decide) (by decide +kernel) (by decide) (lc_8 hX hq hL hCU hSU hI KN)
  | 9, _ => refine r_table (off := 609) (t := 649) qL_law_40 (by decide) (by decide) (by decide +kernel) (by decide) (lc_9 hX hq hL hCU hSU hI KN)
  | 10, _ => refine r_table (off := 665) (t := 705) qL_law_40 (by decide) (by decide) (by decide +kernel) (by decide) (lc_10 hX hq hL hCU hSU hI KN)
  | 11, _ => refine r_table (off := 721) (t := 761) qL_law_40 (by decide) (by decide) (by decide +kernel) (by decide) (lc_11 hX hq hL hCU hSU hI KN)
  | 12, _ => refine r_table (off := 777) (t := 817) qL_law_40 (by decide) (by decide) (by decide +kernel) (by decide) (lc_12 hX hq hL hCU hSU hI KN)
  | 13, _ => refine r_table (off := 833) (t := 873) qL_law_40 (by decide) (by decide) (by decide +kernel) (by decide) (lc_13 hX hq hL hCU hSU hI KN)
  | 14, _ => refine r_table (off := 889) (t := 929) qL_law_40 (by decide) (by decide) (by decide +kernel) (by decide) (lc_14 hX hq hL hCU hSU hI KN)
  | 15, _ => refine r_table (off := 945) (t := 985) qL_law_40 (by decide) (by decide) (by decide +kernel) (by decide) (lc_15 hX hq hL hCU hSU hI KN)
  | 16, _ => refine r_table (off := 1008) (t := 1048) qL_law_40 (by decide) (by decide) (by decide +kernel) (by decide) (lc_16 hX hq hL hCU hSU hI KN)
  | 17, _ => refine r_table (off := 1071) (t := 1111) qL_law_40 (by decide) (by decide) (by decide +kernel) (by decide) (lc_17 hX hq hL hCU hSU hI KN)
  | 18, _ => refine r_table (off := 1127) (t := 1167) qL_law_40 (by decide) (by decide) (by decide +kernel) (by decide) (lc_18 hX hq hL hCU hSU hI KN)
  | 19, _ => refine r_table (off := 1183) (t := 1223) qL_law_40 (by decide) (by decide) (by decide +kernel) (by decide) (lc_19 hX hq hL hCU hSU hI KN)
  | 20, _ => refine r_table (off := 1251) (t := 1291) qL_law_40 (by decide) (by decide) (by decide +kernel) (by decide) (lc_20 hX hq hL hCU hSU hI KN)
  | 21, _ => refine r_table (off := 1307) (t := 1347) qL_law_40 (by decide) (by decide) (by decide +kernel) (by decide) (lc_21 hX hq hL hCU hSU hI KN)
  | 22, _ => refine r_table (off := 1320) (t := 1360) qL_law_40 (by decide) (by decide) (by decide +kernel) (by decide) (lc_22 hX hq hL hCU hSU hI KN)
  | 23, _ => refine r_table (off := 1333) (t := 1373) qL_law_40 (by decide) (by decide) (by decide +kernel) (by decide) (lc_23 hX hq hL hCU hSU hI KN)
  | 24, _ => refine r_table (off := 1389) (t := 1429) qL_law_40 (by decide) (by decide) (by decide +kernel) (by decide) (lc_24 hX hq hL hCU hSU hI KN)
  | 25, _ => refine r_table (off := 1457) (t := 1497) qL_law_40 (by decide) (by decide) (by decide +kernel) (by decide) (lc_25 hX hq hL hCU hSU hI KN)
  | 26, _ => refine r_table (off := 1525) (t := 1565) qL_law_40 (by decide) (by decide) (by decide +kernel) (by decide) (lc_26 hX hq hL hCU hSU hI KN)
  | 27, _ => refine r_table (off := 1588) (t := 1628) qL_law_40 (by decide) (by decide) (by decide +kernel) (by decide) (lc_27 hX hq hL hCU hSU hI KN)
  | 28, _ => refine r_table (off := 1644) (t := 1684) qL_law_40 (by decide) (by decide) (by decide +kernel) (by decide) (lc_28 hX hq hL hCU hSU hI KN)
  | 29, _ => refine r_table (off := 1700) (t := 1740) qL_law_40 (by decide) (by decide) (by decide +kernel) (by decide) (lc_29 hX hq hL hCU hSU hI KN)
  | 30, _ => refine r_table (off := 1768) (t := 1808) qL_law_40 (by decide) (by decide) (by decide +kernel) (by decide) (lc_30 hX hq hL hCU hSU hI KN)
  | 31, _ => refine r_table (off := 1824) (t := 1864) qL_law_40 (by decide) (by decide) (by decide +kernel) (by decide) (lc_31 hX hq hL hCU hSU hI KN)
  | 32, _ => refine r_table (off := 1880) (t := 1920) qL_law_40 (by decide) (by decide) (by decide +kernel) (by decide) (lc_32 hX hq hL hCU hSU hI KN)
  | 33, _ => refine r_table (off := 1948) (t := 1988) qL_law_40 (by decide) (by decide) (by decide +kernel) (by decide) (lc_33 hX hq hL hCU hSU hI KN)
  | 34, _ => refine r_table (off := 2004) (t := 2044) qL_law_40 (by decide) (by decide) (by decide +kernel) (by decide) (lc_34 hX hq hL hCU hSU hI KN)
  | 35, _ => refine r_table (off := 2017) (t := 2057) qL_law_40 (by decide) (by decide) (by decide +kernel) (by decide) (lc_35 hX hq hL hCU hSU hI KN)
  | 36, _ => refine r_table (off := 2030) (t := 2070) qL_law_40 (by decide) (by decide) (by decide +kernel) (by decide) (lc_36 hX hq hL hCU hSU hI KN)
  | 37, _ => refine r_table (off := 2043) (t := 2083) qL_law_40 (by decide) (by decide) (by decide +kernel) (by decide) (lc_37 hX hq hL hCU hSU hI KN)
  | 38, _ => refine r_table (off := 2111) (t := 2151) qL_law_40 (by decide) (by decide) (by decide +kernel) (by decide) (lc_38 hX hq hL hCU hSU hI KN)
  | 39, _ => refine r_table (off := 2179) (t := 2219) qL_law_40 (by decide) (by decide) (by decide +kernel) (by decide) (lc_39 hX hq hL hCU hSU hI KN)
  | 40, _ => refine r_table (off := 2235) (t := 2275) qL_law_40 (by decide) (by decide) (by decide +kernel) (by decide) (lc_40 hX hq hL hCU hSU hI KN)
  | 41, _ => refine r_table (off := 2291) (t := 2331) qL_law_40 (by decide) (by decide) (by decide +kernel) (by decide) (lc_41 hX hq hL hCU hSU hI KN)
  | 42, _ => refine r_table (off := 2359) (t := 2399) qL_law_40 (by decide) (by decide) (by decide +kernel) (by decide) (lc_42 hX hq hL hCU hSU hI KN)
  | 43, _ => refine r_table (off := 2427) (t := 2467) qL_law_40 (by decide) (by decide) (by decide +kernel) (by decide) (lc_43 hX hq hL hCU hSU hI KN)
  | 44, _ => refine r_table (off := 2440) (t := 2480) qL_law_40 (by decide) (by decide) (by decide +kernel) (by decide) (lc_44 hX hq hL hCU hSU hI KN)
  | 45, _ => refine r_table (off := 2496) (t := 2536) qL_law_40 (by decide) (by decide) (by decide +kernel) (by decide) (lc_45 hX hq hL hCU hSU hI KN)
  | 46, _ => refine r_table (off := 2552) (t := 2592) qL_law_40 (by decide) (by decide) (by decide +kernel) (by decide) (lc_46 hX hq hL hCU hSU hI KN)
  | 47, _ => refine r_table (off := 2565) (t := 2605) qL_law_40 (by decide) (by decide) (by decide +kernel) (by decide) (lc_47 hX hq hL hCU hSU hI KN)
  | 48, _ => refine r_table (off := 2578) (t := 2618) qL_law_40 (by decide) (by decide) (by decide +kernel) (by decide) (lc_48 hX hq hL hCU hSU hI KN)
  | 49, _ => refine r_table (off := 2621) (t := 2661) qL_law_40 (by decide) (by decide) (by decide +kernel) (by decide) (lc_49 hX hq hL hCU hSU hI KN)
  | 50, _ => refine r_table (off := 2662) (t := 2702) qL_law_40 (by decide) (by decide) (by decide +kernel) (by decide) (lc_50 hX hq hL hCU hSU hI KN)
  | 51, _ => refine r_table (off := 2730) (t := 2770) qL_law_40 (by decide) (by decide) (by decide +kernel) (by decide) (lc_51 hX hq hL hCU hSU hI KN)
  | 52, _ => refine r_table (off := 2786) (t := 2826) qL_law_40 (by decide) (by decide) (by decide +kernel) (by decide) (lc_52 hX hq hL hCU hSU hI KN)
  | 53, _ => refine r_table (off := 2842) (t := 2882) qL_law_40 (by decide) (by decide) (by decide +kernel) (by decide) (lc_53 hX hq hL hCU hSU hI KN)
  | 54, _ => refine r_table (off := 2910) (t := 2950) qL_law_40 (by decide) (by decide) (by decide +kernel) (by decide) (lc_54 hX hq hL hCU hSU hI KN)
  | 55, _ => refine r_table (off := 2978) (t := 3018) qL_law_40 (by decide) (by decide) (by decide +kernel) (by decide) (lc_55 hX hq hL hCU hSU hI KN)
  | 56, _ => refine r_table (off := 3046) (t := 3086) qL_law_40 (by decide) (by decide) (by decide +kernel) (by decide) (lc_56 hX hq hL hCU hSU hI KN)
  | 57, _ => refine r_table (off := 3102) (t := 3142) qL_law_40 (by decide) (by decide) (by decide +kernel) (by decide) (lc_57 hX hq hL hCU hSU hI KN)
  | 58, _ => refine r_table (off := 3193) (t := 3233) qL_law_40 (by decide) (by decide) (by decide +kernel) (by decide) (lc_58 hX hq hL hCU hSU hI KN)
  | 59, _ => refine r_table (off := 3249) (t := 3289) qL_law_40 (by decide) (by decide) (by decide +kernel) (by decide) (lc_59 hX hq hL hCU hSU hI KN)
  | 60, _ => refine r_table (off := 3305) (t := 3345) qL_law_40 (by decide) (by decide) (by decide +kernel) (by decide) (lc_60 hX hq hL hCU hSU hI KN)
  | 61, _ => refine r_table (off := 3361) (t := 3401) qL_law_40 (by decide) (by decide) (by decide +kernel) (by decide) (lc_61 hX hq hL hCU hSU hI KN)
  | 62, _ => refine r_table (off := 3405) (t := 3445) qL_law_40 (by decide) (by decide) (by decide +kernel) (by decide) (lc_62 hX hq hL hCU hSU hI KN)
  | 63, _ => refine r_table (off := 3461) (t := 3501) qL_law_40 (by decide) (by decide) (by decide +kernel) (by decide) (lc_63 hX hq hL hCU hSU hI KN)
  | k + 64, h => exact absurd h (by omega)
set_option maxRecDepth 20000 in
set_option maxHeartbeats 4000000 in
theorem law_loop (hX : zScr E X bb L0 xs) (hL : L0 ≤ 3072) (KE : ∀ (g : Sh) (i : Ni) (j : Nj) (cu su : Nat) (lo : List Value), cu ≤ 601024 → su ≤ 7293034 → zR E mL_law Z X 3563 lo [] g i j cu su) : ∀ (f q : Nat), L0 < q + 6 * (f + 1) → q ≤ L0 → ∀ (g : Sh) (i : Ni) (j : Nj) (CU SU : Nat) (z5 z6 z7 z8 : Value), CU + 14 * f ≤ 601024 → SU + 1046 * f ≤ 7293034 → iInv g i j c rd tx ur sl sf sb A x n d b p s o ol → zR E mL_law Z X 23 [.ref (bb + 1), .ref c, .ref x, .ref ol, .int (nI q), z5, z6, z7, z8] [] g i j CU SU := by
  intro f
  induction f with
  | zero =>
    intro q h1 h2 g i j CU SU z5 z6 z7 z8 hCU hSU hI
    have hgt : nI L0 - nI 6 < nI q := by
      rw [Int32.lt_iff_toInt_lt, lim_toInt hL, nI_toInt (by omega)]; omega
    refine r_iload qL_law_23 rfl ?_
    refine r_aload_n qL_law_25 rfl ?_
    refine r_scl hX qL_law_26 ?_
    refine r_bipush (v := nI 6) qL_law_27 (by decide) ?_
    refine r_isub qL_law_29 ?_
    refine r_icmp_gt (t := 3563) qL_law_30 (by decide) (fun hc30 => ?_) (fun hc30 => absurd hc30 (fun h => h hgt))
    exact KE _ _ _ _ _ _ (by omega) (by omega)
  | succ f ih =>
    intro q h1 h2 g i j CU SU z5 z6 z7 z8 hCU hSU hI
    by_cases hq : q + 6 ≤ L0
    · have hng : ¬ nI L0 - nI 6 < nI q := by
        rw [Int32.lt_iff_toInt_lt, lim_toInt hL, nI_toInt (by omega)]; omega
      have KN : lawN E Z X CU SU q bb c rd tx ur sl sf sb A x n d b p s o ol := by
        intro g' i' j' cu' su' y5 y6 y7 y8 hcu hsu hI'
        refine r_ii_9_4 qL_law_3557 rfl rfl (show nI q + Int32.ofInt 6 = nI (q + 6) from nI_add q 6) ?_
        refine r_goto (t := 23) qL_law_3560 (by decide) ?_
        exact r_widen hcu hsu (ih (q + 6) (by omega) hq g' i' j' (CU + 14) (SU + 1046) y5 y6 y7 y8 (by omega) (by omega) hI')
      refine r_weak9 ?_
      refine r_iload qL_law_23 rfl ?_
      refine r_aload_n qL_law_25 rfl ?_
      refine r_scl hX qL_law_26 ?_
      refine r_bipush (v := nI 6) qL_law_27 (by decide) ?_
      refine r_isub qL_law_29 ?_
      refine r_icmp_gt (t := 3563) qL_law_30 (by decide) (fun hc30 => absurd hc30 (hng)) (fun hc30 => ?_)
      refine r_aload_n qL_law_33 rfl ?_
      refine r_iload qL_law_34 rfl ?_
      refine r_sld hX qL_law_36 (by omega) hL ?_
      refine r_bipush (v := nI 63) qL_law_37 (by decide) ?_
      refine r_iand qL_law_39 ?_
      obtain ⟨k, hk, ek⟩ := and63 (xs q)
      rw [ek]
      show zR E mL_law Z X 40 _ _ _ _ _ _ _
      exact law_case hX hq hL (by omega) (by omega) hI KN k hk
    · have hgt : nI L0 - nI 6 < nI q := by
        rw [Int32.lt_iff_toInt_lt, lim_toInt hL, nI_toInt (by omega)]; omega
      refine r_iload qL_law_23 rfl ?_
      refine r_aload_n qL_law_25 rfl ?_
      refine r_scl hX qL_law_26 ?_
      refine r_bipush (v := nI 6) qL_law_27 (by decide) ?_
      refine r_isub qL_law_29 ?_
      refine r_icmp_gt (t := 3563) qL_law_30 (by decide) (fun hc30 => ?_) (fun hc30 => absurd hc30 (fun h => h hgt))
      exact KE _ _ _ _ _ _ (by omega) (by omega)
end

