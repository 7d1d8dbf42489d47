/-! ===== A PARSE AS A PURE FUNCTION: the next token with a value, or code and place ===== -/
abbrev PE (A : Type) := Except (Int32 × Nat) (Nat × A)
def tB {A C : Type} (m : PE A) (f : Nat → A → PE C) : PE C := match m with
  | .error e => .error e
  | .ok (t, a) => f t a
theorem tB_e {A C : Type} {c : Int32} {w : Nat} {f : Nat → A → PE C} : tB (.error (c, w)) f = .error (c, w) := rfl
theorem tB_o {A C : Type} {t : Nat} {a : A} {f : Nat → A → PE C} : tB (.ok (t, a)) f = f t a := rfl
def tNum (B : Nat → Int32) (L : Nat) (l h : Int32) (t : Nat) : PE Int32 := if okN B L t l h then .ok (sNext B L t, sVal B L t) else .error (if sKind B L t = 2 then nI 2 else nI 1, t)
def tDeg (B : Nat → Int32) (L t : Nat) : PE Int32 := if isNeg B L t then tB (tNum B L (nI 0) (nI 20) (sNext B L t)) (fun t v => .ok (t, -v)) else tNum B L (nI 0) (nI 150) t
def tSp (N B : Nat → Int32) (L t : Nat) : PE Int32 := if sKind B L t = 1 ∧ ¬ sUntil (fSp N B L t) 0 (zn (N 3)) = -1 then .ok (sNext B L t, sUntil (fSp N B L t) 0 (zn (N 3))) else .error (if sKind B L t = 1 then nI 4 else nI 1, t)
def tBa (N B : Nat → Int32) (L t : Nat) : PE Int32 := if sKind B L t = 1 ∧ ¬ sUntil (fBa N B L t) 0 (zn (N 4)) = -1 then .ok (sNext B L t, sUntil (fBa N B L t) 0 (zn (N 4))) else .error (if sKind B L t = 1 then nI 4 else nI 1, t)
def tEnd (B : Nat → Int32) (L : Nat) (P : Prop) [Decidable P] (t : Nat) : PE Unit := if isSemi B L t ∧ ¬ P then .ok (sNext B L t, ()) else .error (if isSemi B L t then nI 6 else nI 1, t)
theorem zn0 : zn (nI 0) = 0 := zn_nI (by decide)
theorem sUntil_in (f : Nat → Bool) : ∀ q p, sUntil f p q = -1 ∨ ∃ a, sUntil f p q = nI a ∧ p ≤ a ∧ a < p + q ∧ f a = true
  | 0, p => Or.inl rfl
  | q + 1, p => by
    by_cases h : f p = true
    · exact Or.inr ⟨p, sUntil_y h, Nat.le_refl _, by omega, h⟩
    · rw [sUntil_n h]
      rcases sUntil_in f q (p + 1) with h2 | ⟨a, a1, a2, a3, a4⟩
      · exact Or.inl h2
      · exact Or.inr ⟨a, a1, by omega, by omega, a4⟩
theorem jmax_08 : ∀ q : Fin 8, jmax (nI 0) (nI q.val) = nI q.val := by decide +kernel
/-! what stands while a statement is read: B the text, N the row r, t where the token begins; i0 and j0 the memory before -/
def zFx (x r : Nat) (i' i : Ni) (j' j : Nj) : Prop := (∀ m, m ≠ 6 → m ≠ 7 → m ≠ 8 → m ≠ 9 → m ≠ 11 → m ≠ 12 → m ≠ 13 → i' x m = i x m) ∧ (∀ q, q ≠ x → q ≠ r → i' q = i q) ∧ (∀ m, m ≠ 10 → j' x m = j x m) ∧ ∀ q, q ≠ x → j' q = j q
def zG (x b r L : Nat) (B N : Nat → Int32) (i0 : Ni) (j0 : Nj) (t : Nat) (i : Ni) (j : Nj) : Prop := zPs i j x b L t ∧ i b = B ∧ i r = N ∧ i x 12 = 0 ∧ zFx x r i i0 j j0
def zE (x r : Nat) (i0 : Ni) (j0 : Nj) (c : Int32) (w : Nat) (i : Ni) (j : Nj) : Prop := i x 12 = c ∧ ¬ c = 0 ∧ i x 13 = nI w ∧ zFx x r i i0 j j0
def zRes (x b r L : Nat) (B : Nat → Int32) (i0 : Ni) (j0 : Nj) (R : PE (Nat → Int32)) (i : Ni) (j : Nj) : Prop := match R with
  | .error (c, w) => zE x r i0 j0 c w i j
  | .ok (t, N) => zG x b r L B N i0 j0 t i j
theorem zE.b {x r : Nat} {i0 i : Ni} {j0 j : Nj} {c : Int32} {w : Nat} (h : zE x r i0 j0 c w i j) : ¬ i x 12 = 0 := by rw [h.1]; exact h.2.1
theorem zG.z {x b r L t : Nat} {B N : Nat → Int32} {i0 i : Ni} {j0 j : Nj} (h : zG x b r L B N i0 j0 t i j) : i x 12 = 0 := h.2.2.2.1
theorem zG.row {x b r L t : Nat} {B N : Nat → Int32} {i0 i : Ni} {j0 j : Nj} (h : zG x b r L B N i0 j0 t i j) : i r = N := h.2.2.1
theorem zG.next {x b r L t t' : Nat} {B N : Nat → Int32} {i0 i i' : Ni} {j0 j j' : Nj} {g : Sh} {n d p s o : Nat} (hW : zW g x n d b p s o) (hr : r ≠ x) (h : zG x b r L B N i0 j0 t i j) (hT : zTok (i' x) (j' x) B L t') (hl : t' ≤ L) (hF : zFr x i' i j' j) : zG x b r L B N i0 j0 t' i' j' := by
  obtain ⟨⟨p1, p2, p3, p4, p5⟩, hb, hN, h0, f1, f2, f3, f4⟩ := h
  have e : i' b = i b := hF.2.1 b hW.bb.1
  refine ⟨⟨(hF.1 5 (by decide) (by decide) (by decide) (by decide) (by decide)).trans p1, p2, by rw [e]; exact p3, hl, by rw [e, hb]; exact hT⟩, e.trans hb, (hF.2.1 r hr).trans hN, hF.e12.trans h0, fun m a b c d e e1 e2 => (hF.1 m a b c d e).trans (f1 m a b c d e e1 e2), fun q h1 h2 => (hF.2.1 q h1).trans (f2 q h1 h2), fun m a => (hF.2.2.1 m a).trans (f3 m a), fun q h1 => (hF.2.2.2 q h1).trans (f4 q h1)⟩
theorem zG.err {x b r L t w : Nat} {B N : Nat → Int32} {i0 i i' : Ni} {j0 j j' : Nj} {c : Int32} (h : zG x b r L B N i0 j0 t i j) (h12 : i' x 12 = c) (hc : ¬ c = 0) (h13 : i' x 13 = nI w) (hF : zFb x i' i j' j) : zE x r i0 j0 c w i' j' := by
  obtain ⟨-, hb, hN, h0, f1, f2, f3, f4⟩ := h
  exact ⟨h12, hc, h13, fun m a b c d e e1 e2 => (hF.1 m a b c d e e1 e2).trans (f1 m a b c d e e1 e2), fun q h1 h2 => (hF.2.1 q h1).trans (f2 q h1 h2), fun m a => (hF.2.2.1 m a).trans (f3 m a), fun q h1 => (hF.2.2.2 q h1).trans (f4 q h1)⟩
theorem zG.bad {x b r L t w : Nat} {B N : Nat → Int32} {i0 i : Ni} {j0 j : Nj} {c : Int32} (h : zG x b r L B N i0 j0 t i j) (hc : ¬ c = 0) : zE x r i0 j0 c w (zBad i x c (nI w)) j := h.err zBad_12 hc zBad_13 zFr.refl.bad
theorem zG.put {x b r L t : Nat} {B N N' : Nat → Int32} {i0 i : Ni} {j0 j : Nj} {f : Nat → Int32} (hr : r ≠ x) (hb : r ≠ b) (h : zG x b r L B N i0 j0 t i j) (e : f = N') : zG x b r L B N' i0 j0 t (wA i r f) j := by
  obtain ⟨⟨p1, p2, p3, p4, p5⟩, hb', hN, h0, f1, f2, f3, f4⟩ := h
  have e1 : wA i r f x = i x := wA_n (fun h => hr h.symm)
  have e2 : wA i r f b = i b := wA_n (fun h => hb h.symm)
  exact ⟨⟨by rw [e1]; exact p1, p2, by rw [e2]; exact p3, p4, by rw [e1, e2]; exact p5⟩, e2.trans hb', by rw [wA_s]; exact e, by rw [e1]; exact h0, fun m a b c d e e3 e4 => by rw [e1]; exact f1 m a b c d e e3 e4, fun q h1 h2 => by rw [wA_n h2]; exact f2 q h1 h2, f3, f4⟩
theorem c12 {P : Prop} [Decidable P] : ¬ (if P then nI 2 else nI 1) = 0 := by split <;> decide
theorem c14 {P : Prop} [Decidable P] : ¬ (if P then nI 4 else nI 1) = 0 := by split <;> decide
theorem c16 {P : Prop} [Decidable P] : ¬ (if P then nI 6 else nI 1) = 0 := by split <;> decide
section
variable {E : Ev} {g : Sh} {i : Ni} {j : Nj} {K : Kp} {x n d b p s o r L t : Nat} {B N : Nat → Int32} {i0 : Ni} {j0 : Nj}
/-! what is taken -/
theorem tNum_in {l h v : Int32} {t' : Nat} (e : tNum B L l h t = .ok (t', v)) : zIn v l.toInt h.toInt ∧ t' = sNext B L t ∧ sKind B L t = 2 ∧ v = sVal B L t := by
  rw [tNum] at e
  split at e
  · rename_i hy
    injection e with e
    injection e with e1 e2
    subst e1 e2
    exact ⟨⟨hy.2.1, hy.2.2⟩, rfl, hy.1, rfl⟩
  · cases e
theorem tNum_nat {a m : Nat} {v : Int32} {t' : Nat} (e : tNum B L (nI a) (nI m) t = .ok (t', v)) (ha : a < 2 ^ 31) (hm : m < 2 ^ 31) : ∃ q, v = nI q ∧ a ≤ q ∧ q ≤ m := by
  obtain ⟨h, -⟩ := tNum_in e
  rw [nI_toInt ha, nI_toInt hm] at h
  obtain ⟨q, q1, q2, q3⟩ := h.ex (by omega)
  exact ⟨q, q1, by omega, by omega⟩
theorem tTube_nat {v : Int32} {t' : Nat} (hO : zOk N) (e : tNum B L (nI 0) (N 5 - nI 1) t = .ok (t', v)) : ∃ q, v = nI q ∧ q < zn (N 5) := by
  obtain ⟨h, -⟩ := tNum_in e
  obtain ⟨h1, h2⟩ := hO.T8
  have e2 : (N 5 - nI 1).toInt = (zn (N 5) : Int) - 1 := by
    rw [h1, Int32.toInt_sub, nI_toInt (by omega), nI_toInt (by omega), zn_nI (by omega), Int.bmod_eq_of_le] <;> omega
  rw [nI_toInt (by omega), e2] at h
  obtain ⟨q, q1, q2, q3⟩ := h.ex (by omega)
  exact ⟨q, q1, by omega⟩
theorem tSp_nat {v : Int32} {t' : Nat} (e : tSp N B L t = .ok (t', v)) : ∃ q, v = nI q ∧ q < zn (N 3) ∧ fSp N B L t q = true := by
  rw [tSp] at e
  split at e
  · rename_i hy
    injection e with e
    injection e with e1 e2
    obtain ⟨q, q1, q2, q3, q4⟩ := (sUntil_in (fSp N B L t) (zn (N 3)) 0).resolve_left hy.2
    exact ⟨q, e2.symm.trans q1, by omega, q4⟩
  · cases e
theorem tBa_nat {v : Int32} {t' : Nat} (e : tBa N B L t = .ok (t', v)) : ∃ q, v = nI q ∧ q < zn (N 4) ∧ fBa N B L t q = true := by
  rw [tBa] at e
  split at e
  · rename_i hy
    injection e with e
    injection e with e1 e2
    obtain ⟨q, q1, q2, q3, q4⟩ := (sUntil_in (fBa N B L t) (zn (N 4)) 0).resolve_left hy.2
    exact ⟨q, e2.symm.trans q1, by omega, q4⟩
  · cases e
end


