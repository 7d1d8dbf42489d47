/-! ===== DEGREES AND THE END OF A STATEMENT ===== -/
def zFb (x : Nat) (i0 i : Ni) (j0 j : Nj) : Prop := (∀ m, m ≠ 6 → m ≠ 7 → m ≠ 8 → m ≠ 9 → m ≠ 11 → m ≠ 12 → m ≠ 13 → i0 x m = i x m) ∧ (∀ r, r ≠ x → i0 r = i r) ∧ (∀ m, m ≠ 10 → j0 x m = j x m) ∧ ∀ r, r ≠ x → j0 r = j r
theorem zFr.bad {x : Nat} {i0 i : Ni} {j0 j : Nj} {v w : Int32} (h : zFr x i0 i j0 j) : zFb x (zBad i0 x v w) i j0 j :=
  ⟨fun m a b c d e e1 e2 => by rw [zBad, wA_s, pk_un e2, pk_un e1]; exact h.1 m a b c d e, fun r hr => by rw [zBad, wA_n hr]; exact h.2.1 r hr, h.2.2.1, h.2.2.2⟩
theorem zBad_13 {i : Ni} {x : Nat} {v w : Int32} : zBad i x v w x 13 = w := by rw [zBad, wA_s, pk_us]
theorem zPs.next {i i' : Ni} {j j' : Nj} {x n d b p s o L t : Nat} {g : Sh} (hW : zW g x n d b p s o) (h : zPs i j x b L t) (hT : zTok (i' x) (j' x) (i b) L (sNext (i b) L t)) (hF : zFr x i' i j' j) : zPs i' j' x b L (sNext (i b) L t) ∧ i' b = i b := by
  obtain ⟨p1, p2, p3, p4, p5⟩ := h
  have e : i' b = i b := hF.2.1 b hW.bb.1
  exact ⟨⟨(hF.1 5 (by decide) (by decide) (by decide) (by decide) (by decide)).trans p1, p2, by rw [e]; exact p3, sNext_le _ _ _ p4, by rw [e]; exact hT⟩, e⟩
theorem zFr.trans {x : Nat} {i0 i1 i2 : Ni} {j0 j1 j2 : Nj} (h : zFr x i0 i1 j0 j1) (h2 : zFr x i1 i2 j1 j2) : zFr x i0 i2 j0 j2 :=
  ⟨fun m a b c d e => (h.1 m a b c d e).trans (h2.1 m a b c d e), fun r hr => (h.2.1 r hr).trans (h2.2.1 r hr), fun m a => (h.2.2.1 m a).trans (h2.2.2.1 m a), fun r hr => (h.2.2.2 r hr).trans (h2.2.2.2 r hr)⟩
theorem zFr.e12 {x : Nat} {i0 i : Ni} {j0 j : Nj} (h : zFr x i0 i j0 j) : i0 x 12 = i x 12 := h.1 12 (by decide) (by decide) (by decide) (by decide) (by decide)
abbrev isNeg (B : Nat → Int32) (L t : Nat) : Prop := sKind B L t = 3 ∧ sVal B L t = nI 45

