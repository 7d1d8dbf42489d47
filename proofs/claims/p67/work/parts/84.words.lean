/-! ===== WORDS ===== -/
def zWo (n : Nat) (w : Int64) : Prop := ∃ q, zstr[n]? = some q ∧ 1 ≤ (zbyt q.2.2).length ∧ (zbyt q.2.2).length ≤ 8 ∧ (∀ k, k < (zbyt q.2.2).length → kLet ((zbyt q.2.2).getD k 0) = true) ∧ sSp (fun k => (zbyt q.2.2).getD k 0) 0 (zbyt q.2.2).length = w
theorem pk27_ge : ∀ (xs : List Nat) (v : Nat), v * 27 ^ xs.length ≤ pk27 xs v
  | [], v => by simp [pk27]
  | x :: l, v => by
    have h := pk27_ge l (27 * v + x)
    have e : 27 ^ (x :: l).length = 27 * 27 ^ l.length := by rw [List.length_cons, Nat.pow_succ, Nat.mul_comm]
    rw [e]
    show v * (27 * 27 ^ l.length) ≤ pk27 l (27 * v + x)
    refine Nat.le_trans ?_ h
    rw [← Nat.mul_assoc]
    exact Nat.mul_le_mul_right _ (by omega)
theorem pk27_eq {xs ys : List Nat} (hx : 1 ≤ xs.length) (hy : 1 ≤ ys.length) (h1 : ∀ x ∈ xs, 1 ≤ x ∧ x ≤ 26) (h2 : ∀ x ∈ ys, 1 ≤ x ∧ x ≤ 26) (h : pk27 xs 0 = pk27 ys 0) : xs = ys := by
  have pos : ∀ {xs : List Nat}, 1 ≤ xs.length → (∀ x ∈ xs, 1 ≤ x ∧ x ≤ 26) → 27 ^ (xs.length - 1) ≤ pk27 xs 0 := by
    intro xs h1 h
    cases xs with
    | nil => simp at h1
    | cons x l =>
      have hx := h x (List.mem_cons_self)
      have h2 := pk27_ge l (27 * 0 + x)
      show 27 ^ ((x :: l).length - 1) ≤ pk27 l (27 * 0 + x)
      rw [List.length_cons, Nat.add_sub_cancel]
      refine Nat.le_trans ?_ h2
      exact Nat.le_mul_of_pos_left _ (by omega)
  have key : ∀ {xs ys : List Nat}, 1 ≤ ys.length → (∀ x ∈ xs, 1 ≤ x ∧ x ≤ 26) → (∀ x ∈ ys, 1 ≤ x ∧ x ≤ 26) → xs.length < ys.length → ¬ pk27 xs 0 = pk27 ys 0 := by
    intro xs ys hy h1 h2 hl he
    have a := pk27_lt xs 0 h1
    have b := pos hy h2
    have c : 27 ^ xs.length ≤ 27 ^ (ys.length - 1) := Nat.pow_le_pow_right (by decide) (by omega)
    omega
  rcases Nat.lt_trichotomy xs.length ys.length with hl | hl | hl
  · exact absurd h (key hy h1 h2 hl)
  · exact (pk27_inj xs ys 0 0 hl h1 h2 h).2
  · exact absurd h.symm (key hx h2 h1 hl)
theorem pk27_63 {xs : List Nat} (hl : xs.length ≤ 8) (h : ∀ x ∈ xs, 1 ≤ x ∧ x ≤ 26) : pk27 xs 0 < 2 ^ 63 := by
  have h1 := pk27_lt xs 0 h
  have c : 27 ^ xs.length ≤ 27 ^ 8 := Nat.pow_le_pow_right (by decide) hl
  omega
theorem lts_eq {B C : Nat → Int32} {t s : Nat} : ∀ n, (∀ q, q < n → kLet (B (t + q)) = true) → (∀ q, q < n → kLet (C (s + q)) = true) → (lts B t n = lts C s n ↔ ∀ q, q < n → B (t + q) = C (s + q))
  | 0, _, _ => ⟨fun _ q hq => by omega, fun _ => rfl⟩
  | n + 1, h1, h2 => by
    have ih := lts_eq n (fun q hq => h1 q (by omega)) (fun q hq => h2 q (by omega))
    obtain ⟨x, x1, x2, x3, x4⟩ := kLet_nat (h1 n (by omega))
    obtain ⟨z, z1, z2, z3, z4⟩ := kLet_nat (h2 n (by omega))
    rw [lts, lts, x4, z4]
    constructor
    · intro h q hq
      obtain ⟨e1, e2⟩ := List.append_inj' h rfl
      have e3 : x = z := by simpa using e2
      rcases Nat.lt_or_ge q n with hn | hn
      · exact ih.mp e1 q hn
      · obtain rfl : q = n := by omega
        rw [x1, z1, e3]
    · intro h
      have e := h n (by omega)
      rw [x1, z1] at e
      have e3 := (nI_eq (by omega) (by omega)).mp e
      rw [ih.mpr (fun q hq => h q (by omega)), show x = z by omega]
/-- the word at t is the constant's -/
theorem word_iff {B C : Nat → Int32} {L t n : Nat} (hn1 : 1 ≤ n) (hn8 : n ≤ 8) (hC : ∀ k, k < n → kLet (C k) = true) : isW B L t (sSp C 0 n) ↔ (sKind B L t = 1 ∧ sEnd B L t - t = n ∧ ∀ k, k < n → B (t + k) = C k) := by
  have hC0 : ∀ q, q < n → kLet (C (0 + q)) = true := fun q hq => by rw [Nat.zero_add]; exact hC q hq
  have hwl : (lts C 0 n).length = n := lts_len _ _ _
  have hwi := lts_in n hC0
  constructor
  · rintro ⟨hk, h8, hs⟩
    obtain ⟨w1, w2, w3, w4⟩ := word_let hk
    rw [w3] at h8
    have hin := lts_in _ w2
    have hlen := lts_len B t (sEnd B L t - t)
    rw [w4, sSp_e _ h8 w2, sSp_e _ hn8 hC0] at hs
    have e := pk27_eq (by rw [hlen]; omega) (by rw [hwl]; exact hn1) hin hwi (i64_inj (pk27_63 (by rw [hlen]; exact h8) hin) (pk27_63 (by rw [hwl]; exact hn8) hwi) hs)
    have el := congrArg List.length e
    rw [hlen, hwl] at el
    rw [el] at e w2
    refine ⟨hk, el, fun k hk2 => ?_⟩
    have := (lts_eq n w2 hC0).mp e k hk2
    rw [Nat.zero_add] at this
    exact this
  · rintro ⟨hk, hl, he⟩
    obtain ⟨w1, w2, w3, w4⟩ := word_let hk
    rw [hl] at w2 w3 w4
    refine ⟨hk, by rw [w3]; exact hn8, ?_⟩
    rw [w4, sSp_e _ hn8 w2, sSp_e _ hn8 hC0, (lts_eq n w2 hC0).mpr (fun q hq => by rw [Nat.zero_add]; exact he q hq)]
set_option maxHeartbeats 4000000 in
set_option maxRecDepth 20000 in
theorem c_X1_atWord {E : Ev} {g : Sh} {i : Ni} {j : Nj} {K : Kp} {rd tx L t n : Nat} {B : Nat → Int32} {w : Int64} (hR : zR2 g rd tx) (h : cSt i rd tx L B t) (hw : zWo n w) (hK : K (.inl (some (.int (zb (isW B L t w))))) g i j) : zCon E mX1_atWord [.ref rd, .ref (eK E n + 1)] g i j K := by
  refine zcon_of (by decide +kernel) rfl rfl (lo := [.ref rd, .ref (eK E n + 1), zJ]) rfl (fun X => ?_)
  obtain ⟨r1, r2, r3, r4⟩ := hR
  obtain ⟨p1, p2, p3, p4, p5, p6, p7, p8⟩ := id h
  have hk5 := cKind_lt B L t
  have hge := sEnd_ge B L t
  have hle := sEnd_le B L t p5
  obtain ⟨q, hq, h1, h8, hl, rfl⟩ := hw
  have hiff := word_iff (B := B) (L := L) (t := t) h1 h8 hl
  have K28 : sEnd B L t - t = (zbyt q.2.2).length → cKind B L t = 1 → ∀ m p : Nat, p + m = (zbyt q.2.2).length → (∀ k, k < p → B (t + k) = (zbyt q.2.2).getD k 0) → zR E mX1_atWord (zZ E mX1_atWord K) X 28 [.ref rd, .ref (eK E n + 1), .int (nI p)] [] g i j 0 0 := by
    intro hlen hk m
    induction m with
    | zero =>
      intro p hp hpre
      obtain rfl : p = (zbyt q.2.2).length := by omega
      refine r_iload_n qX1_atWord_28 rfl ?_
      refine r_aload_n qX1_atWord_29 rfl ?_
      refine r_cS (as := []) qX1_atWord_30 kX1_33 rfl rfl rfl (by decide +kernel) hq rfl rfl rfl rfl rfl rfl ?_
      refine c_J0_length_8abf5 hq ?_
      show zR E _ _ X 33 _ _ _ _ _ _ _
      refine r_icmp_ge (t := 63) qX1_atWord_33 (by decide) (fun hc33 => ?_) (fun hc33 => absurd hc33 (fun h => h (nI_le (Nat.le_refl _) (by omega))))
      refine r_iconst (v := nI 1) qX1_atWord_63 (by decide) ?_
      refine r_iret qX1_atWord_64 rfl (by first | decide | exact zb_nar _ | assumption) rfl rfl ?_
      rw [zb_t (hiff.mpr ⟨cKind_1.mpr hk, hlen, hpre⟩)] at hK; exact hK
    | succ m ih =>
      intro p hp hpre
      obtain ⟨x, e1, e2, e3, -⟩ := kLet_nat (hl p (by omega))
      refine r_iload_n qX1_atWord_28 rfl ?_
      refine r_aload_n qX1_atWord_29 rfl ?_
      refine r_cS (as := []) qX1_atWord_30 kX1_33 rfl rfl rfl (by decide +kernel) hq rfl rfl rfl rfl rfl rfl ?_
      refine c_J0_length_8abf5 hq ?_
      show zR E _ _ X 33 _ _ _ _ _ _ _
      refine r_icmp_ge (t := 63) qX1_atWord_33 (by decide) (fun hc33 => absurd hc33 (nI_ge (by omega) (by omega))) (fun hc33 => ?_)
      refine r_aload_n qX1_atWord_36 rfl ?_
      refine r_getr qX1_atWord_37 fX1_11 rfl (by assumption) (by first | assumption | rfl) ?_
      refine r_aload_n qX1_atWord_40 rfl ?_
      refine r_geti qX1_atWord_41 fX1_242 rfl (by assumption) ?_
      rw [p6]
      refine r_iload_n qX1_atWord_44 rfl ?_
      first | with_reducible refine r_iaddN qX1_atWord_45 ?_ | refine r_iadd qX1_atWord_45 ?_
      refine r_baldN qX1_atWord_46 (by assumption) (by assumption) (by omega) rfl ?_
      rw [p4]
      refine r_aload_n qX1_atWord_47 rfl ?_
      refine r_iload_n qX1_atWord_48 rfl ?_
      refine r_cS (as := [.int (nI p)]) qX1_atWord_49 kX1_38 rfl rfl rfl (by decide +kernel) hq rfl rfl rfl rfl rfl rfl ?_
      refine c_J0_charAt_5068e hq (show p < _ by omega) (by omega) e1 (by omega) ?_
      show zR E _ _ X 52 _ _ _ _ _ _ _
      refine r_icmp_eq (t := 57) qX1_atWord_52 (by decide) (fun hc52 => ?_) (fun hc52 => ?_)
      · refine r_ii_3_2 qX1_atWord_57 rfl rfl (nI_inc p) ?_
        refine r_goto (t := 28) qX1_atWord_60 (by decide) ?_
        refine ih (p + 1) (by omega) (fun k hk2 => ?_)
        rcases Nat.lt_or_ge k p with h3 | h3
        · exact hpre k h3
        · obtain rfl : k = p := by omega
          rw [e1]; exact hc52
      · refine r_iconst (v := nI 0) qX1_atWord_55 (by decide) ?_
        refine r_iret qX1_atWord_56 rfl (by first | decide | exact zb_nar _ | assumption) rfl rfl ?_
        rw [zb_f (fun h => hc52 (((hiff.mp h).2.2 p (by omega)).trans e1))] at hK; exact hK
  refine r_aload_n qX1_atWord_0 rfl ?_
  refine r_geti qX1_atWord_1 fX1_57 rfl (by assumption) ?_
  rw [p8]
  refine r_iconst (v := nI 1) qX1_atWord_4 (by decide) ?_
  refine r_icmp_ne (t := 24) qX1_atWord_5 (by decide) (fun hc5 => ?_) (fun hc5 => ?_)
  · refine r_iconst (v := nI 0) qX1_atWord_24 (by decide) ?_
    refine r_iret qX1_atWord_25 rfl (by first | decide | exact zb_nar _ | assumption) rfl rfl ?_
    first | (rw [zb_f (fun h => hc5 (congrArg nI (cKind_1.mp (hiff.mp h).1)))] at hK; exact hK) | (rw [zb_f (fun h => hc21 (congrArg nI (hiff.mp h).2.1))] at hK; exact hK)
  · refine r_aload_n qX1_atWord_8 rfl ?_
    refine r_geti qX1_atWord_9 fX1_48 rfl (by assumption) ?_
    rw [p7]
    refine r_aload_n qX1_atWord_12 rfl ?_
    refine r_geti qX1_atWord_13 fX1_242 rfl (by assumption) ?_
    rw [p6]
    refine r_isub qX1_atWord_16 ?_
    rw [nI_sub hge]
    refine r_aload_n qX1_atWord_17 rfl ?_
    refine r_cS (as := []) qX1_atWord_18 kX1_33 rfl rfl rfl (by decide +kernel) hq rfl rfl rfl rfl rfl rfl ?_
    refine c_J0_length_8abf5 hq ?_
    show zR E _ _ X 21 _ _ _ _ _ _ _
    refine r_icmp_eq (t := 26) qX1_atWord_21 (by decide) (fun hc21 => ?_) (fun hc21 => ?_)
    · refine r_iconst (v := nI 0) qX1_atWord_26 (by decide) ?_
      refine r_is_3_2 qX1_atWord_27 rfl rfl ?_
      exact K28 ((nI_eq (by omega) (by omega)).mp hc21) ((nI_eq (by omega) (by omega)).mp hc5) (zbyt q.2.2).length 0 (by omega) (fun k hk => by omega)
    · refine r_iconst (v := nI 0) qX1_atWord_24 (by decide) ?_
      refine r_iret qX1_atWord_25 rfl (by first | decide | exact zb_nar _ | assumption) rfl rfl ?_
      first | (rw [zb_f (fun h => hc5 (congrArg nI (cKind_1.mp (hiff.mp h).1)))] at hK; exact hK) | (rw [zb_f (fun h => hc21 (congrArg nI (hiff.mp h).2.1))] at hK; exact hK)


