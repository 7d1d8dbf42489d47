theorem zC.to {g g' : Sh} {a : Nat → Nat} (h : zC g a) (m : ∀ q, q < 30 → gT g' (a q) = gT g (a q) ∧ gL g' (a q) = gL g (a q) ∧ ∀ k, gR g' (a q) k = gR g (a q) k) : zC g' a := by
  obtain ⟨a1, a2, a3, a4, a5, a6, a7, a8, a9, a10, a11, a12, a13, a14, a15, a16, a17, a18⟩ := h
  refine ⟨by rw [(m 0 (by decide)).1]; exact a1, by rw [(m 0 (by decide)).2.2]; exact a2, by rw [(m 0 (by decide)).2.2]; exact a3, by rw [(m 0 (by decide)).2.2]; exact a4, by rw [(m 0 (by decide)).2.2]; exact a5, by rw [(m 0 (by decide)).2.2]; exact a6, by rw [(m 1 (by decide)).1]; exact a7, by rw [(m 1 (by decide)).2.1]; exact a8, by rw [(m 2 (by decide)).1]; exact a9, by rw [(m 2 (by decide)).2.1]; exact a10, by rw [(m 3 (by decide)).1]; exact a11, by rw [(m 3 (by decide)).2.1]; exact a12, by rw [(m 4 (by decide)).1]; exact a13, by rw [(m 4 (by decide)).2.1]; exact a14, by rw [(m 5 (by decide)).1]; exact a15, by rw [(m 5 (by decide)).2.1]; exact a16, fun k hk => ?_, a18⟩
  obtain ⟨b1, b2, b3, b4, b5, b6, b7, b8, b9⟩ := a17 k hk
  exact ⟨by rw [(m 5 (by decide)).2.2]; exact b1, by rw [(m _ (by omega)).1]; exact b2, by rw [(m _ (by omega)).2.2]; exact b3, by rw [(m _ (by omega)).2.2]; exact b4, by rw [(m _ (by omega)).1]; exact b5, by rw [(m _ (by omega)).2.1]; exact b6, by rw [(m _ (by omega)).1]; exact b7, by rw [(m _ (by omega)).2.1]; exact b8, b9⟩
theorem zC.bf {g g' : Sh} {i i' : Ni} {j j' : Nj} {a : Nat → Nat} {r : Nat} {L : List Int32} (h : zC g a) (hB : zBu g i r L) (hF : zBf r g i j g' i' j') : zC g' a ∧ ∀ q, q < 30 → i' (a q) = i (a q) := by
  have k : ∀ q, q < 30 → gT g (a q) ≠ 0 ∧ a q ≠ r ∧ a q ≠ gR g r 0 := fun q hq => by
    have h1 := hB.1
    have h4 := hB.2.2.2.1
    rcases h.kd hq with e | e | e | e <;> exact ⟨by rw [e]; decide, fun e2 => by rw [← e2, e] at h1; exact absurd h1 (by decide), fun e2 => by rw [← e2, e] at h4; exact absurd h4 (by decide)⟩
  exact ⟨h.to (fun q hq => ⟨(hF.2 _ (k q hq).1).1, (hF.2 _ (k q hq).1).2.1, ((hF.2 _ (k q hq).1).2.2.2 (k q hq).2.1).1⟩), fun q hq => ((hF.2 _ (k q hq).1).2.2.2 (k q hq).2.1).2 (k q hq).2.2⟩
theorem sNum_len (v : Int32) : (sNum v).length ≤ 11 := by
  have := dig_len v.toInt.natAbs
  rw [sNum, List.length_append]
  split
  · rw [List.length_singleton]; omega
  · rw [List.length_nil]; omega
theorem zb_z {p : Prop} [Decidable p] (h : zb p = 0) : ¬ p := zb_0.mp h
theorem zb_nz {p : Prop} [Decidable p] (h : ¬ zb p = 0) : p := zb_ne.mp h

