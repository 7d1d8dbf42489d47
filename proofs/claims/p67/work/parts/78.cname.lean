/-! ===== NAMES AS BOTH PACK THEM ===== -/
theorem pk27_app : ∀ (xs : List Nat) (x v : Nat), pk27 (xs ++ [x]) v = 27 * pk27 xs v + x
  | [], x, v => rfl
  | y :: l, x, v => pk27_app l x (27 * v + y)
theorem pk8_app : ∀ (xs : List Nat) (x v : Nat), pk8 (xs ++ [x]) v = 256 * pk8 xs v + (x + 96)
  | [], x, v => rfl
  | y :: l, x, v => pk8_app l x (256 * v + (y + 96))
theorem pk27_inj : ∀ (xs ys : List Nat) (v w : Nat), xs.length = ys.length → (∀ x ∈ xs, 1 ≤ x ∧ x ≤ 26) → (∀ x ∈ ys, 1 ≤ x ∧ x ≤ 26) → pk27 xs v = pk27 ys w → v = w ∧ xs = ys
  | [], [], v, w, _, _, _, h => ⟨h, rfl⟩
  | [], y :: l, v, w, h, _, _, _ => by simp at h
  | x :: l, [], v, w, h, _, _, _ => by simp at h
  | x :: l, y :: m, v, w, h, h1, h2, h3 => by
    have hx := h1 x (List.mem_cons_self)
    have hy := h2 y (List.mem_cons_self)
    have hl : l.length = m.length := by simpa using h
    obtain ⟨e1, e2⟩ := pk27_inj l m _ _ hl (fun z hz => h1 z (List.mem_cons_of_mem _ hz)) (fun z hz => h2 z (List.mem_cons_of_mem _ hz)) h3
    have e3 : x = y := by omega
    exact ⟨by omega, by rw [e2, e3]⟩
theorem pk8_inj : ∀ (xs ys : List Nat) (v w : Nat), xs.length = ys.length → (∀ x ∈ xs, 1 ≤ x ∧ x ≤ 26) → (∀ x ∈ ys, 1 ≤ x ∧ x ≤ 26) → pk8 xs v = pk8 ys w → v = w ∧ xs = ys
  | [], [], v, w, _, _, _, h => ⟨h, rfl⟩
  | [], y :: l, v, w, h, _, _, _ => by simp at h
  | x :: l, [], v, w, h, _, _, _ => by simp at h
  | x :: l, y :: m, v, w, h, h1, h2, h3 => by
    have hx := h1 x (List.mem_cons_self)
    have hy := h2 y (List.mem_cons_self)
    have hl : l.length = m.length := by simpa using h
    obtain ⟨e1, e2⟩ := pk8_inj l m _ _ hl (fun z hz => h1 z (List.mem_cons_of_mem _ hz)) (fun z hz => h2 z (List.mem_cons_of_mem _ hz)) h3
    have e3 : x = y := by omega
    exact ⟨by omega, by rw [e2, e3]⟩
theorem pk8_in : ∀ (xs : List Nat) (v : Nat), (∀ x ∈ xs, 1 ≤ x ∧ x ≤ 26) → v * 256 ^ xs.length ≤ pk8 xs v ∧ pk8 xs v < (v + 1) * 256 ^ xs.length
  | [], v, _ => by simp [pk8]
  | x :: l, v, h => by
    have hx := h x (List.mem_cons_self)
    obtain ⟨h1, h2⟩ := pk8_in l (256 * v + (x + 96)) (fun z hz => h z (List.mem_cons_of_mem _ hz))
    have e : 256 ^ (x :: l).length = 256 * 256 ^ l.length := by rw [List.length_cons, Nat.pow_succ, Nat.mul_comm]
    rw [e]
    show v * (256 * 256 ^ l.length) ≤ pk8 l (256 * v + (x + 96)) ∧ pk8 l (256 * v + (x + 96)) < (v + 1) * (256 * 256 ^ l.length)
    generalize 256 ^ l.length = P at *
    constructor
    · refine Nat.le_trans ?_ h1
      rw [← Nat.mul_assoc]
      exact Nat.mul_le_mul_right P (by omega)
    · refine Nat.lt_of_lt_of_le h2 ?_
      rw [← Nat.mul_assoc]
      exact Nat.mul_le_mul_right P (by omega)
theorem pk8_pos {xs : List Nat} (h1 : 1 ≤ xs.length) (h : ∀ x ∈ xs, 1 ≤ x ∧ x ≤ 26) : 256 ^ (xs.length - 1) ≤ pk8 xs 0 := by
  cases xs with
  | nil => simp at h1
  | cons x l =>
    have hx := h x (List.mem_cons_self)
    obtain ⟨h2, -⟩ := pk8_in l (256 * 0 + (x + 96)) (fun z hz => h z (List.mem_cons_of_mem _ hz))
    show 256 ^ ((x :: l).length - 1) ≤ pk8 l (256 * 0 + (x + 96))
    rw [List.length_cons, Nat.add_sub_cancel]
    refine Nat.le_trans ?_ h2
    exact Nat.le_mul_of_pos_left _ (by omega)
theorem pk8_eq {xs ys : List Nat} (hx : 1 ≤ xs.length) (hy : 1 ≤ ys.length) (h1 : ∀ x ∈ xs, 1 ≤ x ∧ x ≤ 26) (h2 : ∀ x ∈ ys, 1 ≤ x ∧ x ≤ 26) (h : pk8 xs 0 = pk8 ys 0) : xs = ys := by
  have key : ∀ {xs ys : List Nat}, 1 ≤ ys.length → (∀ x ∈ xs, 1 ≤ x ∧ x ≤ 26) → (∀ x ∈ ys, 1 ≤ x ∧ x ≤ 26) → xs.length < ys.length → ¬ pk8 xs 0 = pk8 ys 0 := by
    intro xs ys hy h1 h2 hl he
    have a := (pk8_in xs 0 h1).2
    have b := pk8_pos hy h2
    have c : 256 ^ xs.length ≤ 256 ^ (ys.length - 1) := Nat.pow_le_pow_right (by decide) (by omega)
    omega
  rcases Nat.lt_trichotomy xs.length ys.length with hl | hl | hl
  · exact absurd h (key hy h1 h2 hl)
  · exact (pk8_inj xs ys 0 0 hl h1 h2 h).2
  · exact absurd h.symm (key hx h2 h1 hl)
theorem pk8_lt {xs : List Nat} (hl : xs.length ≤ 4) (h : ∀ x ∈ xs, 1 ≤ x ∧ x ≤ 26) : pk8 xs 0 < 2 ^ 31 := by
  cases xs with
  | nil => decide
  | cons x l =>
    have hx := h x (List.mem_cons_self)
    obtain ⟨-, h2⟩ := pk8_in l (256 * 0 + (x + 96)) (fun z hz => h z (List.mem_cons_of_mem _ hz))
    have hl3 : l.length ≤ 3 := by simp at hl; omega
    have c : 256 ^ l.length ≤ 256 ^ 3 := Nat.pow_le_pow_right (by decide) hl3
    have d : (256 * 0 + (x + 96) + 1) * 256 ^ l.length ≤ 123 * 256 ^ 3 := Nat.mul_le_mul (by omega) c
    show pk8 l (256 * 0 + (x + 96)) < 2 ^ 31
    omega
theorem pk27_lt : ∀ (xs : List Nat) (v : Nat), (∀ x ∈ xs, 1 ≤ x ∧ x ≤ 26) → pk27 xs v < (v + 1) * 27 ^ xs.length
  | [], v, _ => by simp [pk27]
  | x :: l, v, h => by
    have hx := h x (List.mem_cons_self)
    have h2 := pk27_lt l (27 * v + x) (fun z hz => h z (List.mem_cons_of_mem _ hz))
    have e : 27 ^ (x :: l).length = 27 * 27 ^ l.length := by rw [List.length_cons, Nat.pow_succ, Nat.mul_comm]
    rw [e]
    show pk27 l (27 * v + x) < (v + 1) * (27 * 27 ^ l.length)
    refine Nat.lt_of_lt_of_le h2 ?_
    rw [← Nat.mul_assoc]
    exact Nat.mul_le_mul_right _ (by omega)
/-- the letters of the word at t, k of them -/
def lts (B : Nat → Int32) (t : Nat) : Nat → List Nat
  | 0 => []
  | k + 1 => lts B t k ++ [zn (B (t + k)) - 96]
theorem lts_len (B : Nat → Int32) (t : Nat) : ∀ k, (lts B t k).length = k
  | 0 => rfl
  | k + 1 => by rw [lts, List.length_append, lts_len B t k]; rfl
theorem kLet_nat {v : Int32} (h : kLet v = true) : ∃ x, v = nI (96 + x) ∧ 1 ≤ x ∧ x ≤ 26 ∧ zn v - 96 = x := by
  have h1 := of_decide_eq_true h
  obtain ⟨m, m1, m2, m3⟩ := (show zIn v 97 122 from h1).ex (by decide)
  refine ⟨m - 96, by rw [show 96 + (m - 96) = m by omega]; exact m1, by omega, by omega, ?_⟩
  rw [m1, zn_nI (by omega)]
theorem lts_in {B : Nat → Int32} {t : Nat} : ∀ k, (∀ q, q < k → kLet (B (t + q)) = true) → ∀ x ∈ lts B t k, 1 ≤ x ∧ x ≤ 26
  | 0, _, x, hx => by simp [lts] at hx
  | k + 1, h, x, hx => by
    rw [lts, List.mem_append] at hx
    rcases hx with hx | hx
    · exact lts_in k (fun q hq => h q (by omega)) x hx
    · obtain ⟨y, y1, y2, y3, y4⟩ := kLet_nat (h k (by omega))
      rw [List.mem_singleton] at hx
      omega
def cNam (B : Nat → Int32) (t : Nat) : Nat → Int32
  | 0 => nI 0
  | k + 1 => (cNam B t k <<< (nI 8 &&& 31)) ||| B (t + k)
theorem zBit_s8 : (nI 8 &&& 31).toBitVec.smod 32 = BitVec.ofNat 32 8 := by decide +kernel
theorem sh8 {v b : Nat} (hv : v < 2 ^ 23) (hb : b < 256) : (nI v <<< (nI 8 &&& 31)) ||| nI b = nI (256 * v + b) := by
  rw [← Int32.toBitVec_inj, Int32.toBitVec_or, Int32.toBitVec_shiftLeft, zBit_s8]
  have e1 : ∀ n : Nat, (nI n).toBitVec = BitVec.ofNat 32 n := fun n => rfl
  rw [e1, e1, e1]
  refine BitVec.eq_of_toNat_eq ?_
  rw [BitVec.toNat_or, BitVec.shiftLeft_eq', BitVec.toNat_shiftLeft, BitVec.toNat_ofNat, BitVec.toNat_ofNat, BitVec.toNat_ofNat, BitVec.toNat_ofNat]
  rw [Nat.mod_eq_of_lt (show v < 2 ^ 32 by omega), Nat.mod_eq_of_lt (show b < 2 ^ 32 by omega), Nat.mod_eq_of_lt (show 8 < 2 ^ 32 by decide), Nat.mod_eq_of_lt (show 256 * v + b < 2 ^ 32 by omega)]
  have e2 : v <<< 8 < 2 ^ 32 := by rw [Nat.shiftLeft_eq]; omega
  rw [Nat.mod_eq_of_lt e2, ← Nat.shiftLeft_add_eq_or_of_lt (show b < 2 ^ 8 by omega), Nat.shiftLeft_eq]
  omega
theorem cNam_e {B : Nat → Int32} {t : Nat} : ∀ k, k ≤ 4 → (∀ q, q < k → kLet (B (t + q)) = true) → cNam B t k = nI (pk8 (lts B t k) 0)
  | 0, _, _ => rfl
  | k + 1, hk, h => by
    obtain ⟨y, y1, y2, y3, y4⟩ := kLet_nat (h k (by omega))
    have hin := lts_in k (fun q hq => h q (by omega))
    have hlt := (pk8_in (lts B t k) 0 hin).2
    rw [lts_len] at hlt
    have c : 256 ^ k ≤ 256 ^ 3 := Nat.pow_le_pow_right (by decide) (by omega)
    have hv : pk8 (lts B t k) 0 < 2 ^ 23 := by
      cases k with
      | zero => rw [lts]; decide
      | succ k =>
        have h4 : (lts B t (k + 1)).length ≤ 4 := by rw [lts_len]; omega
        have hx : ∀ (xs : List Nat), 1 ≤ xs.length → xs.length ≤ 3 → (∀ x ∈ xs, 1 ≤ x ∧ x ≤ 26) → pk8 xs 0 < 2 ^ 23 := by
          intro xs h1 h3 hi
          cases xs with
          | nil => simp at h1
          | cons x l =>
            have hx := hi x (List.mem_cons_self)
            obtain ⟨-, h2⟩ := pk8_in l (256 * 0 + (x + 96)) (fun z hz => hi z (List.mem_cons_of_mem _ hz))
            have hl3 : l.length ≤ 2 := by simp at h3; omega
            have c : 256 ^ l.length ≤ 256 ^ 2 := Nat.pow_le_pow_right (by decide) hl3
            have d : (256 * 0 + (x + 96) + 1) * 256 ^ l.length ≤ 123 * 256 ^ 2 := Nat.mul_le_mul (by omega) c
            show pk8 l (256 * 0 + (x + 96)) < 2 ^ 23
            omega
        exact hx _ (by rw [lts_len]; omega) (by rw [lts_len]; omega) hin
    rw [cNam, cNam_e k (by omega) (fun q hq => h q (by omega)), lts, pk8_app, y4, y1, sh8 hv (by omega), show 96 + y = y + 96 by omega]
theorem i64_nI {n : Nat} (h : n < 2 ^ 31) : (nI n).toInt64 = Int64.ofNat n := by
  refine Int64.toInt_inj.mp ?_
  rw [Int32.toInt_toInt64, nI_toInt h, Int64.toInt_ofNat_of_lt (by omega)]
theorem sSp_e {B : Nat → Int32} {t : Nat} : ∀ k, k ≤ 8 → (∀ q, q < k → kLet (B (t + q)) = true) → sSp B t k = Int64.ofNat (pk27 (lts B t k) 0)
  | 0, _, _ => rfl
  | k + 1, hk, h => by
    obtain ⟨y, y1, y2, y3, y4⟩ := kLet_nat (h k (by omega))
    rw [sSp, if_pos (by omega), sSp_e k (by omega) (fun q hq => h q (by omega)), lts, pk27_app, y4, y1, i64_nI (by omega)]
    have e1 : Int64.ofNat (96 + y) = Int64.ofNat y + 96 := by rw [Nat.add_comm, Int64.ofNat_add]; rfl
    have e2 : Int64.ofNat (27 * pk27 (lts B t k) 0 + y) = 27 * Int64.ofNat (pk27 (lts B t k) 0) + Int64.ofNat y := by rw [Int64.ofNat_add, Int64.ofNat_mul]; rfl
    rw [e1, e2, Int64.sub_eq_add_neg, Int64.add_assoc, Int64.add_assoc, Int64.add_assoc, show (96 + (-97 + 1) : Int64) = 0 by decide, Int64.add_zero]


