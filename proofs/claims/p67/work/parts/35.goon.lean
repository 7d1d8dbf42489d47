/-! ===== THE MODEL GOES ON TO THE NEXT TOKEN ===== -/
def zTok (f : Nat → Int32) (h : Nat → Int64) (B : Nat → Int32) (L s : Nat) : Prop := f 8 = nI s ∧ f 6 = nI (sEnd B L s) ∧ f 7 = nI (sKind B L s) ∧ f 9 = nI (sLtr B L s) ∧ f 11 = sVal B L s ∧ h 10 = sSpl B L s
/-- all but the token's fields is as it was -/
def zFr (x : Nat) (i0 i : Ni) (j0 j : Nj) : Prop := (∀ m, m ≠ 6 → m ≠ 7 → m ≠ 8 → m ≠ 9 → m ≠ 11 → i0 x m = i x m) ∧ (∀ r, r ≠ x → i0 r = i r) ∧ (∀ m, m ≠ 10 → j0 x m = j x m) ∧ ∀ r, r ≠ x → j0 r = j r
theorem zFr.F {x : Nat} {i0 i : Ni} {j0 j : Nj} {F : Nat → Int32} (h : zFr x i0 i j0 j) (hF : ∀ m, m ≠ 6 → m ≠ 7 → m ≠ 8 → m ≠ 9 → m ≠ 11 → F m = i0 x m) : zFr x (wA i0 x F) i j0 j :=
  ⟨fun m a b c d e => by rw [wA_s, hF m a b c d e]; exact h.1 m a b c d e, fun r hr => by rw [wA_n hr]; exact h.2.1 r hr, h.2.2.1, h.2.2.2⟩
theorem zFr.J {x : Nat} {i0 i : Ni} {j0 j : Nj} {v : Int64} (h : zFr x i0 i j0 j) : zFr x i0 i (wB j0 x (vp_updL (j0 x) 10 v)) j :=
  ⟨h.1, h.2.1, fun m a => by rw [wB_s, pk_uLn a]; exact h.2.2.1 m a, fun r hr => by rw [wB_n hr]; exact h.2.2.2 r hr⟩
theorem zFr.refl {x : Nat} {i : Ni} {j : Nj} : zFr x i i j j := ⟨fun _ _ _ _ _ _ => rfl, fun _ _ => rfl, fun _ _ => rfl, fun _ _ => rfl⟩
theorem sSkip_le (B : Nat → Int32) (L : Nat) : ∀ q p, p ≤ L → sSkip B L q p ≤ L
  | 0, p, h => h
  | q + 1, p, h => by
    rw [sSkip]
    split
    · rename_i h2; exact sSkip_le B L q (p + 1) (by omega)
    · exact h
theorem kSp_u {v : Int32} (h : zIn v (-128) 127) : (uB v = nI 32 ∨ uB v = nI 10) ↔ kSp v = true := by
  rw [kSp, decide_eq_true_iff, uB_eq h (by omega), uB_eq h (by omega)]

