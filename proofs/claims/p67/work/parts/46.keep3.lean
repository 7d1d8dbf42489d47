/-! ===== A NEW SPIRIT OR BATH KEEPS THE ROW'S BOUNDS ===== -/
theorem zTu.mono {N N' : Nat → Int32} {k : Nat} (h : zTu N k) (hw : ∀ w, w < 21 → N' (42 + 21 * k + w) = N (42 + 21 * k + w)) (h3 : zn (N 3) ≤ zn (N' 3)) (h4 : zn (N 4) ≤ zn (N' 4)) : zTu N' k := by
  have hp := h.pts (N' := N') (fun w _ b => hw w b)
  obtain ⟨⟨s, s1, s2⟩, a1, a2, a3, a4, a5, a6, a7, -⟩ := h
  refine ⟨⟨s, by rw [hw 0 (by omega)]; exact s1, by omega⟩, by rw [hw 1 (by omega)]; exact a1, by rw [hw 2 (by omega)]; exact a2, by rw [hw 3 (by omega)]; exact a3, by rw [hw 4 (by omega)]; exact a4, by rw [hw 5 (by omega)]; exact a5, by rw [hw 6 (by omega)]; exact a6, ?_, hp⟩
  rw [hw 7 (by omega)]
  exact a7.imp_right fun ⟨b, b1, b2⟩ => ⟨b, b1, by omega⟩
theorem zOk_spirit {N : Nat → Int32} (h : zOk N) {S : Nat} (hS : N 3 = nI S) (h5 : S < 5) {w l e : Int32} (he : zIn e 1 40) : zOk (aSpirit N S w l e) := by
  have en : ∀ q, q ≠ 3 → q ≠ 10 + 4 * S + 0 → q ≠ 10 + 4 * S + 1 → q ≠ 10 + 4 * S + 2 → aSpirit N S w l e q = N q := fun q a b c d => by rw [aSpirit, pk_un d, pk_un c, pk_un b, pk_un a]
  have e3 : aSpirit N S w l e 3 = nI (S + 1) := by rw [aSpirit, pk_un (by omega), pk_un (by omega), pk_un (by omega), pk_us]
  have eE : aSpirit N S w l e (10 + 4 * S + 2) = e := by rw [aSpirit, pk_us]
  have hh := h
  obtain ⟨h1, h2, h3, h4, h5', h6, h7, h8, h9⟩ := h
  have zS : zn (N 3) = S := by rw [hS, zn_nI (by omega)]
  refine ⟨⟨S + 1, e3, by omega⟩, by rw [en 4 (by omega) (by omega) (by omega) (by omega)]; exact h2, by rw [en 5 (by omega) (by omega) (by omega) (by omega)]; exact h3, by rw [en 1 (by omega) (by omega) (by omega) (by omega)]; exact h4, by rw [en 0 (by omega) (by omega) (by omega) (by omega)]; exact h5', by rw [en 6 (by omega) (by omega) (by omega) (by omega), en 7 (by omega) (by omega) (by omega) (by omega), en 5 (by omega) (by omega) (by omega) (by omega)]; exact h6, ?_, ?_, ?_⟩
  · intro s hs
    rw [e3, zn_nI (by omega)] at hs
    by_cases hsS : s = S
    · subst hsS; rw [eE]; exact he
    · rw [en _ (by omega) (by omega) (by omega) (by omega)]; exact h7 s (by omega)
  · intro s hs
    have hB := hh.B4.2
    rw [en 4 (by omega) (by omega) (by omega) (by omega)] at hs
    rw [en _ (by omega) (by omega) (by omega) (by omega)]; exact h8 s hs
  · intro k hk
    rw [en 5 (by omega) (by omega) (by omega) (by omega)] at hk
    exact (hh.tu hk).mono (fun w _ => en _ (by omega) (by omega) (by omega) (by omega)) (by rw [e3, zn_nI (by omega), zS]; omega) (by rw [en 4 (by omega) (by omega) (by omega) (by omega)]; exact Nat.le_refl _)


