/-! ===== THE CLASS PRINTS A NAME ===== -/
theorem nI_bv {p : Nat} (h : p < 2 ^ 32) : (nI p).toBitVec.toNat = p := by
  show (Int32.ofNat p).toBitVec.toNat = p
  rw [Int32.toBitVec_ofNat', BitVec.toNat_ofNat]
  omega
theorem sh_bv : ∀ k : Fin 32, (nI k.val &&& 31).toBitVec.smod 32 = BitVec.ofNat 32 k.val := by decide +kernel
theorem shr_and {p s : Nat} (hp : p < 2 ^ 31) (hs : s < 32) : (nI p >>> (nI s &&& 31)) &&& nI 255 = nI (p / 2 ^ s % 256) := by
  have e1 : (BitVec.ofNat 32 s).toNat = s := by rw [BitVec.toNat_ofNat]; omega
  have e2 : (nI p).toBitVec.msb = false := by
    rw [BitVec.msb_eq_false_iff_two_mul_lt, nI_bv (by omega)]
    omega
  rw [← Int32.toBitVec_inj, Int32.toBitVec_and, Int32.toBitVec_shiftRight, sh_bv ⟨s, hs⟩, BitVec.sshiftRight', e1, BitVec.sshiftRight_eq_of_msb_false e2]
  refine BitVec.eq_of_toNat_eq ?_
  rw [BitVec.toNat_and, BitVec.toNat_ushiftRight, nI_bv (by omega), nI_bv (by decide), nI_bv (by omega), Nat.shiftRight_eq_div_pow]
  exact Nat.and_two_pow_sub_one_eq_mod (p / 2 ^ s) 8
theorem pk8_dig : ∀ (xs : List Nat) (v k : Nat), (∀ x ∈ xs, 1 ≤ x ∧ x ≤ 26) → k < xs.length → pk8 xs v / 256 ^ (xs.length - 1 - k) % 256 = xs.getD k 0 + 96
  | [], v, k, _, h => absurd h (Nat.not_lt_zero k)
  | x :: l, v, 0, h, _ => by
    have hx := h x List.mem_cons_self
    obtain ⟨a1, a2⟩ := pk8_in l (256 * v + (x + 96)) (fun z hz => h z (List.mem_cons_of_mem _ hz))
    have e : pk8 l (256 * v + (x + 96)) / 256 ^ l.length = 256 * v + (x + 96) := by
      have hp : 0 < 256 ^ l.length := Nat.pow_pos (by decide)
      exact Nat.le_antisymm (Nat.lt_succ_iff.mp ((Nat.div_lt_iff_lt_mul hp).mpr a2)) ((Nat.le_div_iff_mul_le hp).mpr a1)
    rw [pk8, List.length_cons, show l.length + 1 - 1 - 0 = l.length by omega, e, List.getD_cons_zero]
    omega
  | x :: l, v, k + 1, h, hk => by
    rw [List.length_cons] at hk
    rw [pk8, List.length_cons, show l.length + 1 - 1 - (k + 1) = l.length - 1 - k by omega, List.getD_cons_succ]
    exact pk8_dig l _ k (fun z hz => h z (List.mem_cons_of_mem _ hz)) (by omega)
theorem pk27_dig : ∀ (xs : List Nat) (v k : Nat), (∀ x ∈ xs, 1 ≤ x ∧ x ≤ 26) → k < xs.length → pk27 xs v / 27 ^ (xs.length - 1 - k) % 27 = xs.getD k 0
  | [], v, k, _, h => absurd h (Nat.not_lt_zero k)
  | x :: l, v, 0, h, _ => by
    have hx := h x List.mem_cons_self
    have a1 := pk27_ge l (27 * v + x)
    have a2 := pk27_lt l (27 * v + x) (fun z hz => h z (List.mem_cons_of_mem _ hz))
    have e : pk27 l (27 * v + x) / 27 ^ l.length = 27 * v + x := by
      have hp : 0 < 27 ^ l.length := Nat.pow_pos (by decide)
      exact Nat.le_antisymm (Nat.lt_succ_iff.mp ((Nat.div_lt_iff_lt_mul hp).mpr a2)) ((Nat.le_div_iff_mul_le hp).mpr a1)
    rw [pk27, List.length_cons, show l.length + 1 - 1 - 0 = l.length by omega, e, List.getD_cons_zero]
    omega
  | x :: l, v, k + 1, h, hk => by
    rw [List.length_cons] at hk
    rw [pk27, List.length_cons, show l.length + 1 - 1 - (k + 1) = l.length - 1 - k by omega, List.getD_cons_succ]
    exact pk27_dig l _ k (fun z hz => h z (List.mem_cons_of_mem _ hz)) (by omega)
/-- byte k of a name, the greatest first; the letters of the first k of them -/
def pB (p k : Nat) : Nat := p / 256 ^ (3 - k) % 256
def pP (p : Nat) : Nat → List Int32
  | 0 => []
  | k + 1 => if pB p k = 0 then pP p k else pP p k ++ [nI (pB p k)]
def pSh (t : Nat) : Int32 := if t = 4 then -8 else nI (24 - 8 * t)
theorem pP_len (p : Nat) : ∀ k, (pP p k).length ≤ k
  | 0 => Nat.le_refl 0
  | k + 1 => by
    have := pP_len p k
    rw [pP]
    split
    · omega
    · rw [List.length_append, List.length_singleton]; omega
theorem pP_nam {xs : List Nat} (h4 : xs.length ≤ 4) (h : ∀ x ∈ xs, 1 ≤ x ∧ x ≤ 26) : pP (pk8 xs 0) 4 = sNam (pk27 xs 0) xs.length xs.length := by
  have h0 : ∀ k, k ≤ 4 - xs.length → pP (pk8 xs 0) k = [] := by
    intro k
    induction k with
    | zero => intro _; rfl
    | succ k ih =>
      intro hk
      have e : pB (pk8 xs 0) k = 0 := by
        have a2 := (pk8_in xs 0 h).2
        rw [pB, Nat.div_eq_of_lt (Nat.lt_of_lt_of_le a2 (by rw [Nat.zero_add, Nat.one_mul]; exact Nat.pow_le_pow_right (by decide) (by omega)))]
      rw [pP, if_pos e, ih (by omega)]
  have h1 : ∀ m, m ≤ xs.length → pP (pk8 xs 0) (4 - xs.length + m) = sNam (pk27 xs 0) xs.length m := by
    intro m
    induction m with
    | zero => intro _; rw [Nat.add_zero, h0 _ (Nat.le_refl _)]; rfl
    | succ m ih =>
      intro hm
      have e : pB (pk8 xs 0) (4 - xs.length + m) = xs.getD m 0 + 96 := by
        rw [pB, show 3 - (4 - xs.length + m) = xs.length - 1 - m by omega, pk8_dig xs 0 m h (by omega)]
      rw [show 4 - xs.length + (m + 1) = 4 - xs.length + m + 1 from rfl, pP, if_neg (by omega), ih (by omega), sNam, sLet, e, pk27_dig xs 0 m h (by omega), Nat.add_comm 96]
  have := h1 xs.length (Nat.le_refl _)
  rw [show 4 - xs.length + xs.length = 4 by omega] at this
  exact this
theorem pB_lt {xs : List Nat} (h4 : xs.length ≤ 4) (h : ∀ x ∈ xs, 1 ≤ x ∧ x ≤ 26) {k : Nat} (hk : k < 4) : pB (pk8 xs 0) k < 128 := by
  by_cases h2 : k < 4 - xs.length
  · have a2 := (pk8_in xs 0 h).2
    rw [pB, Nat.div_eq_of_lt (Nat.lt_of_lt_of_le a2 (by rw [Nat.zero_add, Nat.one_mul]; exact Nat.pow_le_pow_right (by decide) (by omega)))]
    decide
  · have e := pk8_dig xs 0 (k - (4 - xs.length)) h (by omega)
    rw [show xs.length - 1 - (k - (4 - xs.length)) = 3 - k by omega] at e
    rw [pB, e, List.getD_eq_getElem?_getD, List.getElem?_eq_getElem (by omega)]
    have := h _ (List.getElem_mem (show k - (4 - xs.length) < xs.length by omega))
    show xs[k - (4 - xs.length)] + 96 < 128
    omega
theorem chr2_all : ∀ m : Fin 128, ((nI m.val).toUInt32 % 65536).toInt32 = nI m.val := by decide +kernel
theorem pSh_s {t : Nat} (ht : t < 4) : pSh t + Int32.ofInt (-8) = pSh (t + 1) := (show ∀ t : Fin 4, pSh t.val + Int32.ofInt (-8) = pSh (t.val + 1) by decide +kernel) ⟨t, ht⟩
theorem pSh_e {t : Nat} (ht : t < 4) : pSh t = nI (24 - 8 * t) := if_neg (by omega)
theorem pSh_i {t : Nat} (ht : t < 4) : nI (24 - 8 * t) + Int32.ofInt (-8) = pSh (t + 1) := by rw [← pSh_e ht]; exact pSh_s ht
theorem p256 {t : Nat} (ht : t < 4) : (2 : Nat) ^ (24 - 8 * t) = 256 ^ (3 - t) := (show ∀ t : Fin 4, (2 : Nat) ^ (24 - 8 * t.val) = 256 ^ (3 - t.val) by decide) ⟨t, ht⟩
set_option maxHeartbeats 4000000 in
set_option maxRecDepth 20000 in
theorem c_X3_printName {E : Ev} {g : Sh} {i : Ni} {j : Nj} {K : Kp} {c r p : Nat} {L : List Int32} (hT : gT g c = 4) (hO : gR g c 6 = r) (hB : zBu g i r L) (hp : p < 2 ^ 31) (hd : ∀ k, k < 4 → pB p k < 128) (hl : L.length + 4 ≤ 70) (hK : ∀ (g' : Sh) (i' : Ni) (j' : Nj), zBu g' i' r (L ++ pP p 4) → zBf r g i j g' i' j' → K (.inl none) g' i' j') : zCon E mX3_printName [.ref c, .int (nI p)] g i j K := by
  refine zcon_of (by decide +kernel) rfl rfl (lo := [.ref c, .int (nI p), zJ, zJ]) rfl (fun X => ?_)
  have cr : c ≠ r := fun e => by
    have := hB.1
    rw [← e, hT] at this
    exact absurd this (by decide)
  have K3 : ∀ q t : Nat, q + t = 4 → ∀ (g1 : Sh) (i1 : Ni) (j1 : Nj) (cu su : Nat) (z : Value), cu ≤ t → su ≤ 80 * t → z.category = 1 → zBu g1 i1 r (L ++ pP p t) → zBf r g i j g1 i1 j1 → zR E mX3_printName (zZ E mX3_printName K) X 3 [.ref c, .int (nI p), .int (pSh t), z] [] g1 i1 j1 cu su := by
    intro q
    induction q with
    | zero =>
      intro t ht g1 i1 j1 cu su z hcu hsu hz b1 b2
      obtain rfl : t = 4 := by omega
      have hcu9 : Nat.ble cu 4 = true := Nat.ble_eq.mpr hcu
      have hsu9 : Nat.ble su 320 = true := Nat.ble_eq.mpr hsu
      refine r_iload_n qX3_printName_3 rfl ?_
      refine r_if_lt (t := 35) qX3_printName_4 (by decide) (fun hc4 => ?_) (fun hc4 => absurd hc4 (by decide))
      refine r_vret qX3_printName_35 rfl hcu9 hsu9 ?_
      exact hK _ _ _ b1 b2
    | succ q ih =>
      intro t ht g1 i1 j1 cu su z hcu hsu hz b1 b2
      have hT1 : gT g1 c = 4 := ((b2.2 c (by omega)).1).trans hT
      have hO1 : gR g1 c 6 = r := (((b2.2 c (by omega)).2.2.2 cr).1 6).trans hO
      have b1' := b1
      have hr6 := b1.1
      have hpl := pP_len p t
      have hll : (L ++ pP p t).length + 1 ≤ 70 := by rw [List.length_append]; omega
      have hcu9 : Nat.ble (cu + 1) 4 = true := Nat.ble_eq.mpr (by omega)
      have hsu9 : Nat.ble (su + 80) 320 = true := Nat.ble_eq.mpr (by omega)
      have hbt : pB p t < 128 := hd t (by omega)
      by_cases h0 : pB p t = 0
      · have e1 : pP p (t + 1) = pP p t := by rw [pP, if_pos h0]
        refine r_iload_n qX3_printName_3 rfl ?_
        rw [pSh_e (by omega)]
        refine r_if_lt (t := 35) qX3_printName_4 (by decide) (fun hc4 => absurd hc4 (not_neg (by omega))) (fun hc4 => ?_)
        refine r_iload_n qX3_printName_7 rfl ?_
        refine r_iload_n qX3_printName_8 rfl ?_
        refine r_ishr qX3_printName_9 ?_
        refine r_sipush (v := nI 255) qX3_printName_10 (by decide) ?_
        refine r_iand qX3_printName_13 ?_
        rw [shr_and hp (by omega), p256 (by omega), show p / 256 ^ (3 - t) % 256 = pB p t from rfl]
        refine r_is_4_3 qX3_printName_14 rfl rfl ?_
        refine r_iload_n qX3_printName_15 rfl ?_
        refine r_if_eq (t := 29) qX3_printName_16 (by decide) (fun hc16 => ?_) (fun hc16 => absurd hc16 (fun h => h (by rw [h0]; rfl)))
        refine r_ii_4_2 qX3_printName_29 rfl rfl (pSh_i (by omega)) ?_
        refine r_goto (t := 3) qX3_printName_32 (by decide) ?_
        exact ih (t + 1) (by omega) g1 i1 j1 cu su _ (by omega) (by omega) rfl (by rw [e1]; exact b1) b2
      · have e1 : pP p (t + 1) = pP p t ++ [nI (pB p t)] := by rw [pP, if_neg h0]
        refine r_iload_n qX3_printName_3 rfl ?_
        rw [pSh_e (by omega)]
        refine r_if_lt (t := 35) qX3_printName_4 (by decide) (fun hc4 => absurd hc4 (not_neg (by omega))) (fun hc4 => ?_)
        refine r_iload_n qX3_printName_7 rfl ?_
        refine r_iload_n qX3_printName_8 rfl ?_
        refine r_ishr qX3_printName_9 ?_
        refine r_sipush (v := nI 255) qX3_printName_10 (by decide) ?_
        refine r_iand qX3_printName_13 ?_
        rw [shr_and hp (by omega), p256 (by omega), show p / 256 ^ (3 - t) % 256 = pB p t from rfl]
        refine r_is_4_3 qX3_printName_14 rfl rfl ?_
        refine r_iload_n qX3_printName_15 rfl ?_
        refine r_if_eq (t := 29) qX3_printName_16 (by decide) (fun hc16 => absurd hc16 (nI_ne0 (by omega) (by omega))) (fun hc16 => ?_)
        refine r_aload_n qX3_printName_19 rfl ?_
        refine r_getr qX3_printName_20 fX3_64 rfl (by assumption) hO1 ?_
        refine r_iload_n qX3_printName_23 rfl ?_
        refine r_i2c qX3_printName_24 ?_
        rw [chr2_all ⟨_, hbt⟩]
        refine r_cv1 (cu2 := cu + 1) (su2 := su + 80) qX3_printName_25 kX3_286 rfl (by decide +kernel) (c := 5) hr6 (by decide) rfl rfl rfl rfl hcu9 hsu9 ?_
        refine c_J4_append_cf468 b1 hbt hll (fun g2 i2 j2 q1 q2 => ?_)
        show zR E _ _ X 28 _ _ _ _ _ _ _
        refine r_pop qX3_printName_28 rfl ?_
        refine r_ii_4_2 qX3_printName_29 rfl rfl (pSh_i (by omega)) ?_
        refine r_goto (t := 3) qX3_printName_32 (by decide) ?_
        exact ih (t + 1) (by omega) g2 i2 j2 (cu + 1) (su + 80) _ (by omega) (by omega) rfl (by rw [e1, ← List.append_assoc]; exact q1) (b2.trans q2)
  refine r_bipush (v := nI 24) qX3_printName_0 (by decide) ?_
  refine r_is_4_2 qX3_printName_2 rfl rfl ?_
  exact K3 4 0 rfl g i j 0 0 _ (Nat.le_refl _) (Nat.le_refl _) rfl (by rw [pP, List.append_nil]; exact hB) zBf.refl

