/-! ===== P67: READING THE LAW'S TEXT: tokens ===== -/
def tl (B : Nat → Int32) (L t : Nat) (W : List Int32) : Prop := t + W.length = L ∧ ∀ k, k < W.length → B (t + k) = W.getD k 0
def hd (c : Int32 → Bool) : List Int32 → Bool
  | [] => false
  | x :: _ => c x
section
variable {B : Nat → Int32} {L t : Nat}
theorem tl.cons {x : Int32} {W : List Int32} (h : tl B L t (x :: W)) : B t = x ∧ t < L ∧ tl B L (t + 1) W := by
  obtain ⟨h1, h2⟩ := h
  rw [List.length_cons] at h1
  refine ⟨?_, by omega, by omega, fun k hk => ?_⟩
  · have := h2 0 (by rw [List.length_cons]; omega)
    simpa using this
  · have := h2 (k + 1) (by rw [List.length_cons]; omega)
    rw [List.getD_cons_succ] at this
    rw [← this]
    congr 1
    omega
theorem tl.drop {R : List Int32} : ∀ (w : List Int32) {t : Nat}, tl B L t (w ++ R) → tl B L (t + w.length) R
  | [], t, h => h
  | x :: w, t, h => by
    have := tl.drop w h.cons.2.2
    rw [List.length_cons, show t + (w.length + 1) = t + 1 + w.length by omega]
    exact this
theorem tl.at {R : List Int32} : ∀ (w : List Int32) {t : Nat}, tl B L t (w ++ R) → ∀ k, k < w.length → B (t + k) = w.getD k 0
  | [], t, h, k, hk => absurd hk (Nat.not_lt_zero k)
  | x :: w, t, h, 0, hk => by
    rw [List.getD_cons_zero]
    exact h.cons.1
  | x :: w, t, h, k + 1, hk => by
    rw [List.getD_cons_succ, ← tl.at w h.cons.2.2 k (by rw [List.length_cons] at hk; omega)]
    congr 1
    omega
theorem skip_0 {W : List Int32} (h : tl B L t W) (hn : hd kSp W = false) : ∀ q, sSkip B L q t = t
  | 0 => rfl
  | q + 1 => by
    rw [sSkip]
    refine if_neg (fun h2 => ?_)
    match W, h, hn with
    | [], h, _ => have := h.1; simp at this; omega
    | x :: W, h, hn =>
      rw [h.cons.1] at h2
      exact absurd h2.2 (by rw [show kSp x = false from hn]; decide)
theorem skip_1 {W : List Int32} (h : tl B L t (nI 32 :: W)) (hn : hd kSp W = false) : ∀ q, 0 < q → sSkip B L q t = t + 1
  | 0, h0 => absurd h0 (Nat.lt_irrefl 0)
  | q + 1, _ => by
    obtain ⟨h1, h2, h3⟩ := h.cons
    rw [sSkip, if_pos ⟨h2, by rw [h1]; decide⟩]
    exact skip_0 h3 hn q
theorem run_w {c : Int32 → Bool} {R : List Int32} (hR : hd c R = false) : ∀ (w : List Int32) {t : Nat} (q : Nat), tl B L t (w ++ R) → (∀ x ∈ w, c x = true) → w.length ≤ q → sRun c B L q t = t + w.length
  | [], t, 0, h, hw, hq => rfl
  | [], t, q + 1, h, hw, hq => by
    rw [sRun]
    refine if_neg (fun h2 => ?_)
    match R, hR, h with
    | [], _, h => have := h.1; simp at this; omega
    | x :: R, hR, h =>
      have h3 : B t = x := (show tl B L t (x :: R) from h).cons.1
      rw [h3] at h2
      exact absurd h2.2 (by rw [show c x = false from hR]; decide)
  | x :: w, t, 0, h, hw, hq => absurd hq (by rw [List.length_cons]; omega)
  | x :: w, t, q + 1, h, hw, hq => by
    obtain ⟨h1, h2, h3⟩ := (show tl B L t (x :: (w ++ R)) from h).cons
    rw [sRun, if_pos ⟨h2, by rw [h1]; exact hw x List.mem_cons_self⟩, run_w hR w q h3 (fun y hy => hw y (List.mem_cons_of_mem _ hy)) (by rw [List.length_cons] at hq; omega), List.length_cons]
    omega
theorem sSp_c {B' : Nat → Int32} {s : Nat} : ∀ n, (∀ k, k < n → B (s + k) = B' (0 + k)) → sSp B s n = sSp B' 0 n
  | 0, _ => rfl
  | n + 1, h => by rw [sSp, sSp, sSp_c n (fun k hk => h k (by omega)), h n (by omega)]
theorem sNu_c {B' : Nat → Int32} {s : Nat} : ∀ n, (∀ k, k < n → B (s + k) = B' (0 + k)) → sNu B s n = sNu B' 0 n
  | 0, _ => rfl
  | n + 1, h => by rw [sNu, sNu, sNu_c n (fun k hk => h k (by omega)), h n (by omega)]
/-- a word's code, a number's value -/
def cw (w : List Int32) : Int64 := sSp (fun k => w.getD k 0) 0 w.length
def cn (w : List Int32) : Int32 := sNu (fun k => w.getD k 0) 0 w.length
theorem tok_w {w R : List Int32} (h : tl B L t (w ++ R)) (hw : ∀ x ∈ w, kLet x = true) (h0 : 0 < w.length) (hR : hd kLet R = false) : sKind B L t = 1 ∧ sEnd B L t = t + w.length ∧ sLtr B L t = w.length ∧ sSpl B L t = cw w := by
  match w, h, hw, h0 with
  | x :: w, h, hw, _ =>
    obtain ⟨h1, h2, h3⟩ := (show tl B L t (x :: (w ++ R)) from h).cons
    have hx : kLet (B t) = true := by rw [h1]; exact hw x List.mem_cons_self
    have hk : sKind B L t = 1 := by rw [sKind, if_neg (by omega), if_pos hx]
    have hl := h.1
    rw [List.length_append] at hl
    have he : sEnd B L t = t + (x :: w).length := by
      rw [sEnd, if_neg (by omega), if_pos hx]
      exact run_w hR (x :: w) _ h hw (by omega)
    refine ⟨hk, he, by rw [sLtr, if_pos hk, he]; omega, ?_⟩
    rw [sSpl, if_pos hk, he, cw, show t + (x :: w).length - t = (x :: w).length by omega]
    exact sSp_c _ (fun k hk => by rw [Nat.zero_add]; exact tl.at (x :: w) h k hk)
theorem tok_d {w R : List Int32} (h : tl B L t (w ++ R)) (hw : ∀ x ∈ w, kDig x = true) (hl : ∀ x ∈ w, kLet x = false) (h0 : 0 < w.length) (hR : hd kDig R = false) : sKind B L t = 2 ∧ sEnd B L t = t + w.length ∧ sVal B L t = cn w := by
  match w, h, hw, hl, h0 with
  | x :: w, h, hw, hl, _ =>
    obtain ⟨h1, h2, h3⟩ := (show tl B L t (x :: (w ++ R)) from h).cons
    have hx : kDig (B t) = true := by rw [h1]; exact hw x List.mem_cons_self
    have hx2 : ¬ kLet (B t) = true := by rw [h1, hl x List.mem_cons_self]; decide
    have hk : sKind B L t = 2 := by rw [sKind, if_neg (by omega), if_neg hx2, if_pos hx]
    have hl := h.1
    rw [List.length_append] at hl
    have he : sEnd B L t = t + (x :: w).length := by
      rw [sEnd, if_neg (by omega), if_neg hx2, if_pos hx]
      exact run_w hR (x :: w) _ h hw (by omega)
    refine ⟨hk, he, ?_⟩
    rw [sVal, if_pos hk, he, cn, show t + (x :: w).length - t = (x :: w).length by omega]
    exact sNu_c _ (fun k hk => by rw [Nat.zero_add]; exact tl.at (x :: w) h k hk)
theorem tok_c {x : Int32} {R : List Int32} (h : tl B L t (x :: R)) (h1 : kLet x = false) (h2 : kDig x = false) : sKind B L t = 3 ∧ sEnd B L t = t + 1 ∧ sVal B L t = uB x := by
  obtain ⟨g1, g2, g3⟩ := h.cons
  have e1 : ¬ kLet (B t) = true := by rw [g1, h1]; decide
  have e2 : ¬ kDig (B t) = true := by rw [g1, h2]; decide
  have hk : sKind B L t = 3 := by rw [sKind, if_neg (by omega), if_neg e1, if_neg e2]
  exact ⟨hk, by rw [sEnd, if_neg (by omega), if_neg e1, if_neg e2], by rw [sVal, if_neg (by rw [hk]; decide), if_pos hk, g1]⟩
/-- R without its one blank -/
def sp (R R' : List Int32) : Prop := hd kSp R' = false ∧ (R = R' ∨ R = nI 32 :: R')
theorem next_s {e : Nat} {R R' : List Int32} (he : sEnd B L t = e) (h : tl B L e R) (hs : sp R R') : tl B L (sNext B L t) R' := by
  obtain ⟨hn, rfl | rfl⟩ := hs
  · rw [sNext, he, skip_0 h hn]; exact h
  · obtain ⟨h1, h2, h3⟩ := h.cons
    rw [sNext, he, skip_1 h hn _ (by omega)]; exact h3
theorem dig_all : ∀ n : Fin 1000, (dig n.val).all (fun x => kDig x && !kLet x && !kSp x) = true ∧ 0 < (dig n.val).length ∧ (dig n.val).length ≤ 3 ∧ cn (dig n.val) = nI n.val := by decide +kernel
theorem dig_p {n : Nat} (hn : n < 1000) : (∀ x ∈ dig n, kDig x = true) ∧ (∀ x ∈ dig n, kLet x = false) ∧ (∀ x ∈ dig n, kSp x = false) ∧ 0 < (dig n).length ∧ (dig n).length ≤ 3 ∧ cn (dig n) = nI n := by
  obtain ⟨h1, h2, h3, h4⟩ := dig_all ⟨n, hn⟩
  have h5 := List.all_eq_true.mp h1
  refine ⟨fun x hx => ?_, fun x hx => ?_, fun x hx => ?_, h2, h3, h4⟩ <;> have := h5 x hx <;> simp only [Bool.and_eq_true, Bool.not_eq_true'] at this
  · exact this.1.1
  · exact this.1.2
  · exact this.2
theorem hd_dig {c : Int32 → Bool} {n : Nat} {R : List Int32} (h : ∀ x ∈ dig n, c x = false) (h0 : 0 < (dig n).length) : hd c (dig n ++ R) = false := by
  match hd0 : dig n, h, h0 with
  | x :: w, h, _ => exact h x List.mem_cons_self
theorem p_num {n l h : Nat} {R R' : List Int32} (hn : n < 1000) (h1 : l ≤ n) (h2 : n ≤ h) (hh : h < 2 ^ 31) (hT : tl B L t (dig n ++ R)) (hR : hd kDig R = false) (hs : sp R R') : ∃ t', tNum B L (nI l) (nI h) t = .ok (t', nI n) ∧ tl B L t' R' := by
  obtain ⟨d1, d2, d3, d4, d5, d6⟩ := dig_p hn
  obtain ⟨k1, k2, k3⟩ := tok_d hT d1 d2 d4 hR
  rw [d6] at k3
  refine ⟨sNext B L t, ?_, next_s k2 (tl.drop _ hT) hs⟩
  rw [tNum, if_pos ⟨k1, by rw [k3, nI_toInt (by omega), nI_toInt (by omega)]; omega, by rw [k3, nI_toInt (by omega), nI_toInt (by omega)]; omega⟩, k3]
theorem p_end {P : Prop} {dP : Decidable P} {R R' : List Int32} (hP : ¬ P) (hT : tl B L t (nI 59 :: R)) (hs : sp R R') : ∃ t', tEnd B L P t = .ok (t', ()) ∧ tl B L t' R' := by
  obtain ⟨k1, k2, k3⟩ := tok_c hT (by decide) (by decide)
  refine ⟨sNext B L t, ?_, next_s k2 hT.cons.2.2 hs⟩
  rw [tEnd, if_pos ⟨⟨k1, by rw [k3]; decide⟩, hP⟩]
theorem p_degp {n : Nat} {R R' : List Int32} (hn : n ≤ 150) (hT : tl B L t (dig n ++ R)) (hR : hd kDig R = false) (hs : sp R R') : ∃ t', tDeg B L t = .ok (t', nI n) ∧ tl B L t' R' := by
  obtain ⟨d1, d2, d3, d4, d5, d6⟩ := dig_p (n := n) (by omega)
  obtain ⟨k1, k2, k3⟩ := tok_d hT d1 d2 d4 hR
  obtain ⟨t', e, h⟩ := p_num (l := 0) (h := 150) (by omega) (Nat.zero_le _) hn (by decide) hT hR hs
  exact ⟨t', by rw [tDeg, if_neg (fun h => absurd (k1.symm.trans h.1) (by decide))]; exact e, h⟩
theorem p_degn {n : Nat} {D R R' : List Int32} (hn : n ≤ 20) (hT : tl B L t (nI 45 :: D)) (hD : sp D (dig n ++ R)) (hR : hd kDig R = false) (hs : sp R R') : ∃ t', tDeg B L t = .ok (t', -nI n) ∧ tl B L t' R' := by
  obtain ⟨k1, k2, k3⟩ := tok_c hT (by decide) (by decide)
  have h1 := next_s k2 hT.cons.2.2 hD
  obtain ⟨t', e, h⟩ := p_num (l := 0) (h := 20) (by omega) (Nat.zero_le _) hn (by decide) h1 hR hs
  exact ⟨t', by rw [tDeg, if_pos ⟨k1, by rw [k3]; decide⟩, e]; rfl, h⟩
/-- a word in its place -/
def lets (w : List Int32) : Prop := (∀ x ∈ w, kLet x = true) ∧ 0 < w.length
theorem p_isW {w R : List Int32} {c : Int64} (hw : lets w) (h8 : w.length ≤ 8) (hT : tl B L t (w ++ R)) (hR : hd kLet R = false) : isW B L t c ↔ cw w = c := by
  obtain ⟨k1, k2, k3, k4⟩ := tok_w hT hw.1 hw.2 hR
  constructor
  · intro h; rw [← k4]; exact h.2.2
  · intro h; exact ⟨k1, by rw [k3]; exact h8, by rw [k4]; exact h⟩
theorem p_word {w R R' : List Int32} (hw : lets w) (hT : tl B L t (w ++ R)) (hR : hd kLet R = false) (hs : sp R R') : tl B L (sNext B L t) R' := by
  obtain ⟨k1, k2, k3, k4⟩ := tok_w hT hw.1 hw.2 hR
  exact next_s k2 (tl.drop _ hT) hs
theorem sUntil_no {f : Nat → Bool} : ∀ n p, (∀ q, p ≤ q → q < p + n → f q = false) → sUntil f p n = -1
  | 0, p, _ => rfl
  | n + 1, p, h => by
    rw [sUntil_n (by rw [h p (Nat.le_refl _) (by omega)]; decide)]
    exact sUntil_no n (p + 1) (fun q h1 h2 => h q (by omega) (by omega))
theorem sUntil_at {f : Nat → Bool} : ∀ n p q, p ≤ q → q < p + n → f q = true → (∀ z, p ≤ z → z < q → f z = false) → sUntil f p n = nI q
  | 0, p, q, h1, h2, _, _ => by omega
  | n + 1, p, q, h1, h2, h3, h4 => by
    by_cases e : p = q
    · subst e; exact sUntil_y h3
    · rw [sUntil_n (by rw [h4 p (Nat.le_refl _) (by omega)]; decide)]
      exact sUntil_at n (p + 1) q (by omega) (by omega) h3 (fun z z1 z2 => h4 z (by omega) z2)
end
/-! the names -/
def nm7 (q : Nat) : List Int32 := match q with
  | 0 => [nI 119, nI 105, nI 110, nI 101]
  | 1 => [nI 111, nI 105, nI 108]
  | 2 => [nI 116, nI 117, nI 98, nI 101]
  | 3 => [nI 105, nI 99, nI 101]
  | 4 => [nI 98]
  | 5 => [nI 109, nI 97, nI 114, nI 107]
  | _ => [nI 115, nI 117, nI 110]
theorem nm7_ne : ∀ p q : Fin 7, p ≠ q → ¬ (nI (nm7 p.val).length = nI (nm7 q.val).length ∧ (cw (nm7 p.val)).toInt32.toInt64 = cw (nm7 q.val)) := by decide +kernel
theorem nm7_ok : ∀ q : Fin 7, (nm7 q.val).all kLet = true ∧ 0 < (nm7 q.val).length ∧ (nm7 q.val).length ≤ 4 ∧ (cw (nm7 q.val)).toInt32.toInt64 = cw (nm7 q.val) ∧ (nm7 q.val).all (fun x => !kSp x) = true := by decide +kernel
theorem nm7_lets {q : Nat} (h : q < 7) : lets (nm7 q) ∧ (nm7 q).length ≤ 4 ∧ (cw (nm7 q)).toInt32.toInt64 = cw (nm7 q) ∧ ∀ R, hd kSp (nm7 q ++ R) = false := by
  obtain ⟨h1, h2, h3, h4, h5⟩ := nm7_ok ⟨q, h⟩
  refine ⟨⟨List.all_eq_true.mp h1, h2⟩, h3, h4, fun R => ?_⟩
  have h2' : 0 < (nm7 q).length := h2
  have h5' : (nm7 q).all (fun x => !kSp x) = true := h5
  cases e : nm7 q with
  | nil => rw [e] at h2'; exact absurd h2' (Nat.lt_irrefl 0)
  | cons x w =>
    rw [e, List.all_cons, Bool.and_eq_true, Bool.not_eq_true'] at h5'
    exact h5'.1
def wGal : List Int32 := [nI 103, nI 97, nI 108, nI 108, nI 101, nI 114, nI 121]
def wSpi : List Int32 := [nI 115, nI 112, nI 105, nI 114, nI 105, nI 116]
def wBat : List Int32 := [nI 98, nI 97, nI 116, nI 104]
def wTub : List Int32 := [nI 116, nI 117, nI 98, nI 101]
theorem lets_of {w : List Int32} (h : w.all kLet = true) (h0 : 0 < w.length) : lets w := ⟨List.all_eq_true.mp h, h0⟩
theorem wGal_l : lets wGal := lets_of (by decide) (by decide)
theorem wSpi_l : lets wSpi := lets_of (by decide) (by decide)
theorem wBat_l : lets wBat := lets_of (by decide) (by decide)
theorem wTub_l : lets wTub := lets_of (by decide) (by decide)
theorem cw_gal : cw wGal = wd_gallery := by decide +kernel
theorem cw_spi : cw wSpi = wd_spirit := by decide +kernel
theorem cw_bat : cw wBat = wd_bath := by decide +kernel
theorem cw_tub : cw wTub = wd_tube := by decide +kernel

