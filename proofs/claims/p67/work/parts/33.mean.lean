theorem sHighs_in {N : Nat → Int32} (h : zOk N) : ∀ k, k ≤ zn (N 5) → ∃ S : Nat, sHighs N k = nI S ∧ S ≤ 999 * k
  | 0, _ => ⟨0, rfl, Nat.le_refl 0⟩
  | k + 1, hk => by
    obtain ⟨S, e, hS⟩ := sHighs_in h k (by omega)
    obtain ⟨H, e2, hH⟩ := sHigh_in h (k := k) (by omega)
    exact ⟨S + H, by rw [sHighs, e, e2, nI_add], by omega⟩

