/-! ===== A NUMBER INTO BYTES ===== -/
theorem byt_all : ∀ m : Fin 128, (nI m.val).toInt8.toInt32 = nI m.val := by decide +kernel
theorem byt_nI {m : Nat} (h : m < 128) : (nI m).toInt8.toInt32 = nI m := byt_all ⟨m, h⟩
theorem nn_toInt {a : Nat} (h : a < 2 ^ 31) : (-nI a).toInt = -(a : Int) := by
  rw [Int32.toInt_neg, nI_toInt h]
  apply Int.bmod_eq_of_le <;> omega
theorem nn_lt {a b : Nat} (ha : a < 2 ^ 31) (hb : b < 2 ^ 31) : -nI a < -nI b ↔ b < a := by
  rw [Int32.lt_iff_toInt_lt, nn_toInt ha, nn_toInt hb]; omega
theorem nn_le {a b : Nat} (ha : a < 2 ^ 31) (hb : b < 2 ^ 31) : -nI a ≤ -nI b ↔ b ≤ a := by
  rw [Int32.le_iff_toInt_le, nn_toInt ha, nn_toInt hb]; omega
theorem nn_div {a : Nat} (ha : a < 2 ^ 31) : -nI a / nI 100 = -nI (a / 100) := by
  have h1 : a / 100 < 2 ^ 31 := by omega
  refine Int32.toInt_inj.mp ?_
  rw [Int32.toInt_div_of_ne_right _ _ (by decide), nn_toInt ha, nn_toInt h1, nI_toInt (show (100 : Nat) < 2 ^ 31 by decide), Int.neg_tdiv]
  exact congrArg (fun z : Int => -z) (Int.ofNat_tdiv a 100).symm
theorem nn_rem {a : Nat} : -nI (a / 100) * nI 100 - -nI a = nI (a % 100) := by
  rw [Int32.neg_mul, nI_mulN, Int32.sub_neg, Int32.add_comm, ← Int32.sub_eq_add_neg, nI_sub (Nat.div_mul_le_self a 100)]
  congr 1
  omega
theorem nn_mul {a : Nat} : nI 10 * -nI a = -nI (10 * a) := by rw [Int32.mul_neg, nI_mulN]
set_option maxHeartbeats 4000000 in
set_option maxRecDepth 20000 in
theorem c_J6_stringSize_0f7a4 {E : Ev} {g : Sh} {i : Ni} {j : Nj} {K : Kp} {w : Nat} {v : Int32} {m : Bool} (hw : w < 1000000000) (hv : v = if m then -nI w else nI w) (h0 : m = true → 0 < w) (hK : K (.inl (some (.int (nI (ndg w + (if m then 1 else 0)))))) g i j) : zCon E mJ6_stringSize_0f7a4 [.int v] g i j K := by
  refine zcon_of (by decide +kernel) rfl rfl (lo := [.int v, zJ, zJ, zJ]) rfl (fun X => ?_)
  have K16 : ∀ q e : Nat, q + e = 9 → (10 ^ e ≤ w ∨ e = 0) → ∀ s : Nat, s = (if m then 1 else 0) → zR E mJ6_stringSize_0f7a4 (zZ E mJ6_stringSize_0f7a4 K) X 16 [.int (-nI w), .int (nI s), .int (-nI (10 ^ (e + 1))), .int (nI (e + 1))] [] g i j 0 0 := by
    intro q
    induction q with
    | zero =>
      intro e he h2 s hs
      obtain rfl : e = 9 := by omega
      omega
    | succ q ih =>
      intro e he h2 s hs
      have hp := p10 (e := e + 1) (by omega)
      by_cases hd : w < 10 ^ (e + 1)
      · skip
        refine r_iload_n qJ6_stringSize_0f7a4_16 rfl ?_
        refine r_bipush (v := nI 10) qJ6_stringSize_0f7a4_17 (by decide) ?_
        refine r_icmp_ge (t := 42) qJ6_stringSize_0f7a4_19 (by decide) (fun hc19 => absurd hc19 (nI_ge (by omega) (by omega))) (fun hc19 => ?_)
        refine r_iload_n qJ6_stringSize_0f7a4_22 rfl ?_
        refine r_iload_n qJ6_stringSize_0f7a4_23 rfl ?_
        refine r_icmp_le (t := 31) qJ6_stringSize_0f7a4_24 (by decide) (fun hc24 => absurd hc24 (fun h => absurd ((nn_le (by omega) (by omega)).mp h) (by omega))) (fun hc24 => ?_)
        refine r_iload_n qJ6_stringSize_0f7a4_27 rfl ?_
        refine r_iload_n qJ6_stringSize_0f7a4_28 rfl ?_
        first | with_reducible refine r_iaddN qJ6_stringSize_0f7a4_29 ?_ | refine r_iadd qJ6_stringSize_0f7a4_29 ?_
        refine r_iret qJ6_stringSize_0f7a4_30 rfl rfl rfl rfl ?_
        rw [← hs, ndg_of (by omega) (Or.inl hd) h2] at hK; exact hK
      · skip
        refine r_iload_n qJ6_stringSize_0f7a4_16 rfl ?_
        refine r_bipush (v := nI 10) qJ6_stringSize_0f7a4_17 (by decide) ?_
        refine r_icmp_ge (t := 42) qJ6_stringSize_0f7a4_19 (by decide) (fun hc19 => absurd hc19 (nI_ge (by omega) (by omega))) (fun hc19 => ?_)
        refine r_iload_n qJ6_stringSize_0f7a4_22 rfl ?_
        refine r_iload_n qJ6_stringSize_0f7a4_23 rfl ?_
        refine r_icmp_le (t := 31) qJ6_stringSize_0f7a4_24 (by decide) (fun hc24 => ?_) (fun hc24 => absurd hc24 (fun h => h ((nn_le (by omega) (by omega)).mpr (by omega))))
        refine r_bipush (v := nI 10) qJ6_stringSize_0f7a4_31 (by decide) ?_
        refine r_iload_n qJ6_stringSize_0f7a4_33 rfl ?_
        first | with_reducible refine r_imulN qJ6_stringSize_0f7a4_34 ?_ | refine r_imul qJ6_stringSize_0f7a4_34 ?_
        rw [nn_mul, show 10 * 10 ^ (e + 1) = 10 ^ (e + 1 + 1) by rw [Nat.pow_succ 10 (e + 1)]; omega]
        refine r_is_4_2 qJ6_stringSize_0f7a4_35 rfl rfl ?_
        refine r_ii_4_3 qJ6_stringSize_0f7a4_36 rfl rfl (nI_inc (e + 1)) ?_
        refine r_goto (t := 16) qJ6_stringSize_0f7a4_39 (by decide) ?_
        exact ih (e + 1) (by omega) (Or.inl (Nat.not_lt.mp hd)) s hs
  cases m with
  | true =>
    simp only [if_true] at hv hK
    subst hv
    have hw0 : 0 < w := h0 rfl
    refine r_iconst (v := nI 1) qJ6_stringSize_0f7a4_0 (by decide) ?_
    refine r_is_4_1 qJ6_stringSize_0f7a4_1 rfl rfl ?_
    refine r_iload_n qJ6_stringSize_0f7a4_2 rfl ?_
    refine r_if_lt (t := 11) qJ6_stringSize_0f7a4_3 (by decide) (fun hc3 => ?_) (fun hc3 => absurd hc3 (fun h => h (by rw [show (0 : Int32) = -nI 0 by decide]; exact (nn_lt (by omega) (by decide)).mpr hw0)))
    refine r_bipush (v := (-10)) qJ6_stringSize_0f7a4_11 (by decide) ?_
    refine r_is_4_2 qJ6_stringSize_0f7a4_13 rfl rfl ?_
    refine r_iconst (v := nI 1) qJ6_stringSize_0f7a4_14 (by decide) ?_
    refine r_is_4_3 qJ6_stringSize_0f7a4_15 rfl rfl ?_
    exact K16 9 0 rfl (Or.inr rfl) 1 rfl
  | false =>
    have hv2 : v = nI w := hv
    subst hv2
    refine r_iconst (v := nI 1) qJ6_stringSize_0f7a4_0 (by decide) ?_
    refine r_is_4_1 qJ6_stringSize_0f7a4_1 rfl rfl ?_
    refine r_iload_n qJ6_stringSize_0f7a4_2 rfl ?_
    refine r_if_lt (t := 11) qJ6_stringSize_0f7a4_3 (by decide) (fun hc3 => absurd hc3 (not_neg (by omega))) (fun hc3 => ?_)
    refine r_iconst (v := nI 0) qJ6_stringSize_0f7a4_6 (by decide) ?_
    refine r_is_4_1 qJ6_stringSize_0f7a4_7 rfl rfl ?_
    refine r_iload_n qJ6_stringSize_0f7a4_8 rfl ?_
    refine r_ineg qJ6_stringSize_0f7a4_9 ?_
    refine r_is_4_0 qJ6_stringSize_0f7a4_10 rfl ?_
    refine r_bipush (v := (-10)) qJ6_stringSize_0f7a4_11 (by decide) ?_
    refine r_is_4_2 qJ6_stringSize_0f7a4_13 rfl rfl ?_
    refine r_iconst (v := nI 1) qJ6_stringSize_0f7a4_14 (by decide) ?_
    refine r_is_4_3 qJ6_stringSize_0f7a4_15 rfl rfl ?_
    exact K16 9 0 rfl (Or.inr rfl) 0 rfl
theorem dgs_at (w : Nat) : ∀ (e k : Nat), k < e → (dgs w e).getD k 0 = nI (48 + w / 10 ^ (e - 1 - k) % 10)
  | 0, k, h => absurd h (Nat.not_lt_zero k)
  | e + 1, 0, _ => by rw [dgs, List.getD_cons_zero, show e + 1 - 1 - 0 = e by omega]
  | e + 1, k + 1, h => by rw [dgs, List.getD_cons_succ, dgs_at w e k (by omega), show e + 1 - 1 - (k + 1) = e - 1 - k by omega]
theorem ndg_100 {w : Nat} (h : 100 ≤ w) (h9 : w < 1000000000) : ndg w = ndg (w / 100) + 2 := by
  unfold ndg
  repeat (first | omega | (split <;> try omega))
theorem ndg_lo {w : Nat} (h : w < 100) : ndg w = if w < 10 then 1 else 2 := by
  unfold ndg
  by_cases h1 : w < 10
  · simp [h1]
  · simp [h1, h]
theorem p100 (w e k : Nat) (h : k < e) : w / 10 ^ (e + 2 - 1 - k) = w / 100 / 10 ^ (e - 1 - k) := by
  rw [Nat.div_div_eq_div_mul, show e + 2 - 1 - k = e - 1 - k + 2 by omega, Nat.pow_add, Nat.mul_comm]
set_option maxHeartbeats 4000000 in
set_option maxHeartbeats 4000000 in
set_option maxRecDepth 20000 in
theorem c_J6_getChars_ba4f3 {E : Ev} {g : Sh} {i : Ni} {j : Nj} {K : Kp} {w b L s : Nat} {v : Int32} {m : Bool} (hw : w < 1000000000) (hv : v = if m then -nI w else nI w) (h0 : m = true → 0 < w) (hb : gT g b = 12) (hL : gL g b = L) (hs : s + (if m then 1 else 0) + ndg w ≤ L) (hL9 : Nat.ble L 1000 = true) (hK : ∀ f : Nat → Int32, (∀ k, k < s → f k = i b k) → (∀ k, k < ndg w → f (s + (if m then 1 else 0) + k) = (dig w).getD k 0) → (m = true → f s = nI 45) → (∀ k, s + (if m then 1 else 0) + ndg w ≤ k → f k = i b k) → K (.inl (some (.int (nI s)))) g (wA i b f) j) : zCon E mJ6_getChars_ba4f3 [.int v, .int (nI (s + (if m then 1 else 0) + ndg w)), .ref b] g i j K := by
  refine zcon_of (by decide +kernel) rfl rfl (lo := [.int v, .int (nI (s + (if m then 1 else 0) + ndg w)), .ref b, zJ, zJ, zJ, zJ]) rfl (fun X => ?_)
  have h9 := Nat.le_of_ble_eq_true hL9
  have hbb : Nat.ble L 2147483647 = true := Nat.ble_eq.mpr (by omega)
  generalize hc : (if m then 1 else 0 : Nat) = c at hs hK ⊢
  have hc2 : c ≤ 1 := by cases m <;> simp at hc <;> omega
  have K22 : ∀ n w2 : Nat, w2 < 100 ^ (n + 1) → w2 < 1000000000 → ∀ (a3 a4 : Value) (z1 z6 : Int32) (f0 : Nat → Int32), a3.category = 1 → a4.category = 1 → s + c + ndg w2 ≤ L →
      (∀ (a3 a4 : Value) (z0 : Int32) (f : Nat → Int32), a3.category = 1 → a4.category = 1 → (∀ k, k < s + c → f k = f0 k) → (∀ k, k < ndg w2 → f (s + c + k) = nI (48 + w2 / 10 ^ (ndg w2 - 1 - k) % 10)) → (∀ k, s + c + ndg w2 ≤ k → f k = f0 k) → zR E mJ6_getChars_ba4f3 (zZ E mJ6_getChars_ba4f3 K) X 104 [.int z0, .int z1, .ref b, a3, a4, .int (nI (s + c)), .int z6] [] g (wA i b f) j 0 0) →
      zR E mJ6_getChars_ba4f3 (zZ E mJ6_getChars_ba4f3 K) X 22 [.int (-nI w2), .int z1, .ref b, a3, a4, .int (nI (s + c + ndg w2)), .int z6] [] g (wA i b f0) j 0 0 := by
    intro n
    induction n with
    | zero =>
      intro w2 h1 h2 a3 a4 z1 z6 f0 h3 h4 h5 hQ
      have h1 : w2 < 100 := h1
      rw [ndg_lo h1] at hQ h5 ⊢
      by_cases hd : w2 < 10
      · rw [if_pos hd] at hQ h5 ⊢
        refine r_iload_n qJ6_getChars_ba4f3_22 rfl ?_
        refine r_bipush (v := (-100)) qJ6_getChars_ba4f3_23 (by decide) ?_
        rw [show (-100 : Int32) = -nI 100 by decide]
        refine r_icmp_gt (t := 72) qJ6_getChars_ba4f3_25 (by decide) (fun hc25 => ?_) (fun hc25 => absurd hc25 (fun h => h ((nn_lt (by decide) (by omega)).mpr (by omega))))
        refine r_aload_n qJ6_getChars_ba4f3_72 rfl ?_
        refine r_ii_7_5 qJ6_getChars_ba4f3_73 rfl h4 (nI_dec (s + c)) ?_
        refine r_iload qJ6_getChars_ba4f3_76 rfl ?_
        refine r_gdo qJ6_getChars_ba4f3_78 fI_83 ?_
        refine r_iload_n qJ6_getChars_ba4f3_81 rfl ?_
        refine r_ineg qJ6_getChars_ba4f3_82 ?_
        rw [Int32.neg_neg]
        refine r_bdo qJ6_getChars_ba4f3_83 (by omega) ?_
        refine r_bastN qJ6_getChars_ba4f3_84 hb hL (by omega) hbb ?_
        rw [wA_s, wA_wA, byt_nI (by omega)]
        refine r_iload_n qJ6_getChars_ba4f3_85 rfl ?_
        refine r_bipush (v := (-9)) qJ6_getChars_ba4f3_86 (by decide) ?_
        rw [show (-9 : Int32) = -nI 9 by decide]
        refine r_icmp_ge (t := 104) qJ6_getChars_ba4f3_88 (by decide) (fun hc88 => ?_) (fun hc88 => absurd hc88 (fun h => h ((nn_le (by decide) (by omega)).mpr (by omega))))
        exact hQ a3 a4 _ _ h3 h4 (fun k hk => pk_un (by omega)) (fun k hk => by obtain rfl : k = 0 := (by omega); rw [show s + c + 0 = s + c from rfl, pk_us]; congr 1; simp) (fun k hk => pk_un (by omega))
      · rw [if_neg hd] at hQ h5 ⊢
        refine r_iload_n qJ6_getChars_ba4f3_22 rfl ?_
        refine r_bipush (v := (-100)) qJ6_getChars_ba4f3_23 (by decide) ?_
        rw [show (-100 : Int32) = -nI 100 by decide]
        refine r_icmp_gt (t := 72) qJ6_getChars_ba4f3_25 (by decide) (fun hc25 => ?_) (fun hc25 => absurd hc25 (fun h => h ((nn_lt (by decide) (by omega)).mpr (by omega))))
        refine r_aload_n qJ6_getChars_ba4f3_72 rfl ?_
        refine r_ii_7_5 qJ6_getChars_ba4f3_73 rfl h4 (nI_dec (s + c + 1)) ?_
        refine r_iload qJ6_getChars_ba4f3_76 rfl ?_
        refine r_gdo qJ6_getChars_ba4f3_78 fI_83 ?_
        refine r_iload_n qJ6_getChars_ba4f3_81 rfl ?_
        refine r_ineg qJ6_getChars_ba4f3_82 ?_
        rw [Int32.neg_neg]
        refine r_bdo qJ6_getChars_ba4f3_83 (by omega) ?_
        refine r_bastN qJ6_getChars_ba4f3_84 hb hL (by omega) hbb ?_
        rw [wA_s, wA_wA, byt_nI (by omega)]
        refine r_iload_n qJ6_getChars_ba4f3_85 rfl ?_
        refine r_bipush (v := (-9)) qJ6_getChars_ba4f3_86 (by decide) ?_
        rw [show (-9 : Int32) = -nI 9 by decide]
        refine r_icmp_ge (t := 104) qJ6_getChars_ba4f3_88 (by decide) (fun hc88 => absurd hc88 (fun h => absurd ((nn_le (by decide) (by omega)).mp h) (by omega))) (fun hc88 => ?_)
        refine r_aload_n qJ6_getChars_ba4f3_91 rfl ?_
        refine r_ii_7_5 qJ6_getChars_ba4f3_92 rfl h4 (nI_dec (s + c)) ?_
        refine r_iload qJ6_getChars_ba4f3_95 rfl ?_
        refine r_gdt qJ6_getChars_ba4f3_97 fI_87 ?_
        refine r_iload_n qJ6_getChars_ba4f3_100 rfl ?_
        refine r_ineg qJ6_getChars_ba4f3_101 ?_
        rw [Int32.neg_neg]
        refine r_bdt qJ6_getChars_ba4f3_102 (by omega) ?_
        refine r_bastN qJ6_getChars_ba4f3_103 hb hL (by omega) hbb ?_
        rw [wA_s, wA_wA, byt_nI (by omega)]
        exact hQ a3 a4 _ _ h3 h4 (fun k hk => by rw [pk_un (by omega), pk_un (by omega)]) (fun k hk => by
          rcases (show k = 0 ∨ k = 1 by omega) with rfl | rfl
          · rw [show s + c + 0 = s + c from rfl, pk_us]; congr 1; simp; omega
          · rw [pk_un (by omega), pk_us]; congr 1; simp) (fun k hk => by rw [pk_un (by omega), pk_un (by omega)])
    | succ n ih =>
      intro w2 h1 h2 a3 a4 z1 z6 f0 h3 h4 h5 hQ
      by_cases hd : w2 < 100
      · exact ih w2 (Nat.lt_of_lt_of_le hd (by rw [Nat.pow_succ]; exact Nat.le_mul_of_pos_left 100 (Nat.pow_pos (by decide)))) h2 a3 a4 z1 z6 f0 h3 h4 h5 hQ
      · have hn := ndg_100 (Nat.not_lt.mp hd) h2
        rw [hn] at hQ h5 ⊢
        rw [show s + c + (ndg (w2 / 100) + 2) = s + c + ndg (w2 / 100) + 1 + 1 by omega]
        refine r_iload_n qJ6_getChars_ba4f3_22 rfl ?_
        refine r_bipush (v := (-100)) qJ6_getChars_ba4f3_23 (by decide) ?_
        rw [show (-100 : Int32) = -nI 100 by decide]
        refine r_icmp_gt (t := 72) qJ6_getChars_ba4f3_25 (by decide) (fun hc25 => absurd hc25 (fun h => absurd ((nn_lt (by decide) (by omega)).mp h) (by omega))) (fun hc25 => ?_)
        refine r_iload_n qJ6_getChars_ba4f3_28 rfl ?_
        refine r_bipush (v := nI 100) qJ6_getChars_ba4f3_29 (by decide) ?_
        refine r_idiv qJ6_getChars_ba4f3_31 (by decide) ?_
        rw [nn_div (by omega)]
        refine r_is_7_3 qJ6_getChars_ba4f3_32 rfl rfl ?_
        refine r_iload_n qJ6_getChars_ba4f3_33 rfl ?_
        refine r_bipush (v := nI 100) qJ6_getChars_ba4f3_34 (by decide) ?_
        first | with_reducible refine r_imulN qJ6_getChars_ba4f3_36 ?_ | refine r_imul qJ6_getChars_ba4f3_36 ?_
        refine r_iload_n qJ6_getChars_ba4f3_37 rfl ?_
        refine r_isub qJ6_getChars_ba4f3_38 ?_
        rw [nn_rem]
        refine r_is_7_4 qJ6_getChars_ba4f3_39 rfl rfl ?_
        refine r_iload_n qJ6_getChars_ba4f3_41 rfl ?_
        refine r_is_7_0 qJ6_getChars_ba4f3_42 rfl ?_
        refine r_aload_n qJ6_getChars_ba4f3_43 rfl ?_
        refine r_ii_7_5 qJ6_getChars_ba4f3_44 rfl rfl (nI_dec (s + c + ndg (w2 / 100) + 1)) ?_
        refine r_iload qJ6_getChars_ba4f3_47 rfl ?_
        refine r_gdo qJ6_getChars_ba4f3_49 fI_83 ?_
        refine r_iload qJ6_getChars_ba4f3_52 rfl ?_
        refine r_bdo qJ6_getChars_ba4f3_54 (by omega) ?_
        refine r_bastN qJ6_getChars_ba4f3_55 hb hL (by omega) hbb ?_
        rw [wA_s, wA_wA, byt_nI (by omega)]
        refine r_aload_n qJ6_getChars_ba4f3_56 rfl ?_
        refine r_ii_7_5 qJ6_getChars_ba4f3_57 rfl rfl (nI_dec (s + c + ndg (w2 / 100))) ?_
        refine r_iload qJ6_getChars_ba4f3_60 rfl ?_
        refine r_gdt qJ6_getChars_ba4f3_62 fI_87 ?_
        refine r_iload qJ6_getChars_ba4f3_65 rfl ?_
        refine r_bdt qJ6_getChars_ba4f3_67 (by omega) ?_
        refine r_bastN qJ6_getChars_ba4f3_68 hb hL (by omega) hbb ?_
        rw [wA_s, wA_wA, byt_nI (by omega)]
        refine r_goto (t := 22) qJ6_getChars_ba4f3_69 (by decide) ?_
        exact ih (w2 / 100) (by rw [Nat.pow_succ] at h1; omega) (by omega) _ _ z1 z6 _ rfl rfl (by omega) (fun a3 a4 z0 f q3 q4 r1 r2 r3 => hQ a3 a4 z0 f q3 q4 (fun k hk => by rw [r1 k hk, pk_un (by omega), pk_un (by omega)]) (fun k hk => by
          by_cases hk2 : k < ndg (w2 / 100)
          · rw [r2 k hk2, p100 _ _ _ hk2]
          · rcases (show k = ndg (w2 / 100) ∨ k = ndg (w2 / 100) + 1 by omega) with rfl | rfl
            · rw [r3 _ (by omega), pk_us, show ndg (w2 / 100) + 2 - 1 - ndg (w2 / 100) = 1 by omega]; congr 1; omega
            · rw [r3 _ (by omega), pk_un (by omega), show s + c + (ndg (w2 / 100) + 1) = s + c + ndg (w2 / 100) + 1 by omega, pk_us, show ndg (w2 / 100) + 2 - 1 - (ndg (w2 / 100) + 1) = 0 by omega]; congr 1; omega) (fun k hk => by rw [r3 k (by omega), pk_un (by omega), pk_un (by omega)]))
  have hfin : ∀ f : Nat → Int32, (∀ k, k < ndg w → f (s + c + k) = nI (48 + w / 10 ^ (ndg w - 1 - k) % 10)) → ∀ k, k < ndg w → f (s + c + k) = (dig w).getD k 0 := fun f h k hk => by rw [h k hk, dig, dgs_at _ _ _ hk]
  have e9 : w < 100 ^ (4 + 1) := by omega
  cases m with
  | true =>
    have hv2 : v = -nI w := hv
    have hc3 : c = 1 := hc.symm
    subst hv2 hc3
    have hw0 : 0 < w := h0 rfl
    have S22 : ∀ a3 a4 : Value, a3.category = 1 → a4.category = 1 → zR E mJ6_getChars_ba4f3 (zZ E mJ6_getChars_ba4f3 K) X 22 [.int (-nI w), .int (nI (s + 1 + ndg w)), .ref b, a3, a4, .int (nI (s + 1 + ndg w)), .int (nI 1)] [] g i j 0 0 := by
      intro a3 a4 h3 h4
      rw [← wA_self (i := i) (r := b)]
      refine K22 4 w e9 hw a3 a4 _ _ _ h3 h4 hs (fun a3 a4 z0 f q3 q4 r1 r2 r3 => ?_)
      have hKf := hK (upd f s (nI 45)) (fun k hk => by rw [pk_un (by omega), r1 k (by omega)]) (fun k hk => by rw [pk_un (by omega)]; exact hfin f r2 k hk) (fun _ => pk_us) (fun k hk => by rw [pk_un (by omega)]; exact r3 k hk)
      refine r_iload qJ6_getChars_ba4f3_104 rfl ?_
      refine r_if_eq (t := 118) qJ6_getChars_ba4f3_106 (by decide) (fun hc106 => absurd hc106 (by decide)) (fun hc106 => ?_)
      refine r_aload_n qJ6_getChars_ba4f3_109 rfl ?_
      refine r_ii_7_5 qJ6_getChars_ba4f3_110 rfl q4 (nI_dec s) ?_
      refine r_iload qJ6_getChars_ba4f3_113 rfl ?_
      refine r_bipush (v := nI 45) qJ6_getChars_ba4f3_115 (by decide) ?_
      refine r_bastN qJ6_getChars_ba4f3_117 hb hL (by omega) hbb ?_
      rw [wA_s, wA_wA, byt_nI (by decide)]
      refine r_iload qJ6_getChars_ba4f3_118 rfl ?_
      refine r_iret qJ6_getChars_ba4f3_120 rfl rfl rfl rfl ?_
      exact hKf
    refine r_iload_n qJ6_getChars_ba4f3_0 rfl ?_
    refine r_is_7_5 qJ6_getChars_ba4f3_1 rfl rfl ?_
    refine r_iload_n qJ6_getChars_ba4f3_3 rfl ?_
    refine r_if_ge (t := 11) qJ6_getChars_ba4f3_4 (by decide) (fun hc4 => absurd hc4 (fun h => absurd h (Int32.not_le.mpr (by rw [show (0 : Int32) = -nI 0 by decide]; exact (nn_lt (by omega) (by decide)).mpr hw0)))) (fun hc4 => ?_)
    refine r_iconst (v := nI 1) qJ6_getChars_ba4f3_7 (by decide) ?_
    refine r_goto (t := 12) qJ6_getChars_ba4f3_8 (by decide) ?_
    refine r_is_7_6 qJ6_getChars_ba4f3_12 rfl rfl ?_
    refine r_iload qJ6_getChars_ba4f3_14 rfl ?_
    refine r_if_ne (t := 22) qJ6_getChars_ba4f3_16 (by decide) (fun hc16 => ?_) (fun hc16 => absurd hc16 (by decide))
    exact S22 _ _ rfl rfl
  | false =>
    have hv2 : v = nI w := hv
    have hc3 : c = 0 := hc.symm
    subst hv2 hc3
    have S22 : ∀ a3 a4 : Value, a3.category = 1 → a4.category = 1 → zR E mJ6_getChars_ba4f3 (zZ E mJ6_getChars_ba4f3 K) X 22 [.int (-nI w), .int (nI (s + 0 + ndg w)), .ref b, a3, a4, .int (nI (s + 0 + ndg w)), .int (nI 0)] [] g i j 0 0 := by
      intro a3 a4 h3 h4
      rw [← wA_self (i := i) (r := b)]
      refine K22 4 w e9 hw a3 a4 _ _ _ h3 h4 hs (fun a3 a4 z0 f q3 q4 r1 r2 r3 => ?_)
      have hKf := hK f (fun k hk => r1 k (by omega)) (fun k hk => hfin f r2 k hk) (fun h => Bool.noConfusion h) (fun k hk => r3 k hk)
      refine r_iload qJ6_getChars_ba4f3_104 rfl ?_
      refine r_if_eq (t := 118) qJ6_getChars_ba4f3_106 (by decide) (fun hc106 => ?_) (fun hc106 => absurd hc106 (fun h => h rfl))
      refine r_iload qJ6_getChars_ba4f3_118 rfl ?_
      refine r_iret qJ6_getChars_ba4f3_120 rfl rfl rfl rfl ?_
      exact hKf
    refine r_iload_n qJ6_getChars_ba4f3_0 rfl ?_
    refine r_is_7_5 qJ6_getChars_ba4f3_1 rfl rfl ?_
    refine r_iload_n qJ6_getChars_ba4f3_3 rfl ?_
    refine r_if_ge (t := 11) qJ6_getChars_ba4f3_4 (by decide) (fun hc4 => ?_) (fun hc4 => absurd hc4 (fun h => h (by rw [← nI_0]; exact nI_le (Nat.zero_le _) (by omega))))
    refine r_iconst (v := nI 0) qJ6_getChars_ba4f3_11 (by decide) ?_
    refine r_is_7_6 qJ6_getChars_ba4f3_12 rfl rfl ?_
    refine r_iload qJ6_getChars_ba4f3_14 rfl ?_
    refine r_if_ne (t := 22) qJ6_getChars_ba4f3_16 (by decide) (fun hc16 => absurd hc16 (fun h => h rfl)) (fun hc16 => ?_)
    refine r_iload_n qJ6_getChars_ba4f3_19 rfl ?_
    refine r_ineg qJ6_getChars_ba4f3_20 ?_
    refine r_is_7_0 qJ6_getChars_ba4f3_21 rfl ?_
    exact S22 _ _ rfl rfl


