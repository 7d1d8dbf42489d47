/-! ===== THE MODEL'S CHANGES, those that are refused by the state ===== -/
abbrev dA (N : Nat → Int32) (t v : Int32) : Prop := tv (N 5) t ∧ tv (N 4) v
abbrev dB (N : Nat → Int32) (t v : Int32) : Prop := dA N t v ∧ sDip N (zn t) v = 0
abbrev lB (N : Nat → Int32) (t : Int32) : Prop := tv (N 5) t ∧ ¬ N (42 + 21 * zn t + 7) = -1
abbrev kB (N : Nat → Int32) (t : Int32) : Prop := tv (N 5) t ∧ sMark N (zn t) = 0
abbrev fB (N : Nat → Int32) (t a : Int32) : Prop := tv (N 5) t ∧ (1 ≤ a.toInt ∧ a.toInt ≤ 999) ∧ ¬ nI 999 < N (42 + 21 * zn t + 4) + a
section CT
variable {E : Ev} {g : Sh} {i : Ni} {j : Nj} {K : Kp} {x r : Nat} {t : Int32}
end CT
/-- what stands where marking is not refused -/
theorem sMark_0 {N : Nat → Int32} (h : zOk N) {k : Nat} (hk : k < zn (N 5)) (h0 : sMark N k = 0) : ∃ b, N (42 + 21 * k + 7) = nI b ∧ b < 4 ∧ sMany N k < 6 := by
  have hb := h.bath hk
  obtain ⟨hm, hm6⟩ := h.many hk
  rw [sMark] at h0
  by_cases c1 : N (42 + 21 * k + 7) = -1
  · rw [if_pos c1] at h0; exact absurd h0 (by decide)
  · rw [if_neg c1] at h0
    obtain ⟨b, hb1, hb2⟩ := hb.resolve_left c1
    refine ⟨b, hb1, hb2, ?_⟩
    by_cases c2 : ¬ N (42 + 21 * k + 5) = sAround N k ∨ N 6 = nI k
    · rw [if_pos c2] at h0; exact absurd h0 (by decide)
    · rw [if_neg c2] at h0
      by_cases c3 : sHas (sDeg N k) (N (30 + 3 * zn (N (42 + 21 * k + 7)) + 2)) (sMany N k) = true
      · rw [if_pos c3] at h0; exact absurd h0 (by decide)
      · rw [if_neg c3] at h0
        by_cases c4 : sHas (sHgt N k) (sHigh N k) (sMany N k) = true
        · rw [if_pos c4] at h0; exact absurd h0 (by decide)
        · rw [if_neg c4] at h0
          by_cases c5 : sMany N k = 6
          · rw [if_pos c5] at h0; exact absurd h0 (by decide)
          · omega

