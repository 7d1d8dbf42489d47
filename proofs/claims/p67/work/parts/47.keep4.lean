theorem zOk_newbath {N : Nat → Int32} (h : zOk N) {S : Nat} (hS : N 4 = nI S) (h5 : S < 4) {w l e : Int32} (he : zIn e (-20) 150) : zOk (aBath N S w l e) := by
  have en : ∀ q, q ≠ 4 → q ≠ 30 + 3 * S + 0 → q ≠ 30 + 3 * S + 1 → q ≠ 30 + 3 * S + 2 → aBath N S w l e q = N q := fun q a b c d => by rw [aBath, pk_un d, pk_un c, pk_un b, pk_un a]
  have e3 : aBath N S w l e 4 = nI (S + 1) := by rw [aBath, pk_un (by omega), pk_un (by omega), pk_un (by omega), pk_us]
  have eE : aBath N S w l e (30 + 3 * S + 2) = e := by rw [aBath, pk_us]
  have hh := h
  obtain ⟨h1, h2, h3, h4, h5', h6, h7, h8, h9⟩ := h
  have zS : zn (N 4) = S := by rw [hS, zn_nI (by omega)]
  refine ⟨by rw [en 3 (by omega) (by omega) (by omega) (by omega)]; exact h1, ⟨S + 1, e3, by omega⟩, by rw [en 5 (by omega) (by omega) (by omega) (by omega)]; exact h3, by rw [en 1 (by omega) (by omega) (by omega) (by omega)]; exact h4, by rw [en 0 (by omega) (by omega) (by omega) (by omega)]; exact h5', by rw [en 6 (by omega) (by omega) (by omega) (by omega), en 7 (by omega) (by omega) (by omega) (by omega), en 5 (by omega) (by omega) (by omega) (by omega)]; exact h6, ?_, ?_, ?_⟩
  · intro s hs
    have hB := hh.S5.2
    rw [en 3 (by omega) (by omega) (by omega) (by omega)] at hs
    rw [en _ (by omega) (by omega) (by omega) (by omega)]; exact h7 s hs
  · intro s hs
    rw [e3, zn_nI (by omega)] at hs
    by_cases hsS : s = S
    · subst hsS; rw [eE]; exact he
    · rw [en _ (by omega) (by omega) (by omega) (by omega)]; exact h8 s (by omega)
  · intro k hk
    rw [en 5 (by omega) (by omega) (by omega) (by omega)] at hk
    exact (hh.tu hk).mono (fun w _ => en _ (by omega) (by omega) (by omega) (by omega)) (by rw [en 3 (by omega) (by omega) (by omega) (by omega)]; exact Nat.le_refl _) (by rw [e3, zn_nI (by omega), zS]; omega)


