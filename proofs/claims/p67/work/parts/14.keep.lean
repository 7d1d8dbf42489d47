/-! ===== A MINUTE KEEPS THE ROW'S BOUNDS ===== -/
theorem zTu.move2 {N N' : Nat → Int32} {k : Nat} (h : zTu N k) (hw : ∀ w, w < 21 → w ≠ 4 → w ≠ 5 → N' (42 + 21 * k + w) = N (42 + 21 * k + w)) (h3 : zn (N' 3) = zn (N 3)) (h4 : zn (N' 4) = zn (N 4)) (hf : zIn (N' (42 + 21 * k + 4)) 0 999) (ht : zIn (N' (42 + 21 * k + 5)) (-200) 1500) : zTu N' k := by
  obtain ⟨a0, a1, a2, a3, a4, a5, a6, a7, m, m1, m2, m3, m4⟩ := h
  have eD : ∀ p, p < m → sDeg N' k p = sDeg N k p := fun p hp => hw (9 + 2 * p) (by omega) (by omega) (by omega)
  have eH : ∀ p, p < m → sHgt N' k p = sHgt N k p := fun p hp => hw (9 + 2 * p + 1) (by omega) (by omega) (by omega)
  refine ⟨?_, ?_, ?_, ?_, hf, ht, ?_, ?_, m, ?_, m2, fun p hp => ?_, fun p q hp hq => ?_⟩
  · rw [hw 0 (by omega) (by omega) (by omega), h3]; exact a0
  · rw [hw 1 (by omega) (by omega) (by omega)]; exact a1
  · rw [hw 2 (by omega) (by omega) (by omega)]; exact a2
  · rw [hw 3 (by omega) (by omega) (by omega)]; exact a3
  · rw [hw 6 (by omega) (by omega) (by omega)]; exact a6
  · rw [hw 7 (by omega) (by omega) (by omega), h4]; exact a7
  · rw [hw 8 (by omega) (by omega) (by omega)]; exact m1
  · rw [eD p hp, eH p hp]; exact m3 p hp
  · rw [eD p hp, eH p hp, eD q hq, eH q hq]; exact m4 p q hp hq
theorem zTu.move {N N' : Nat → Int32} {k : Nat} (h : zTu N k) (hw : ∀ w, w < 21 → N' (42 + 21 * k + w) = N (42 + 21 * k + w)) (h3 : zn (N' 3) = zn (N 3)) (h4 : zn (N' 4) = zn (N 4)) : zTu N' k :=
  h.move2 (fun w a _ _ => hw w a) h3 h4 (by rw [hw 4 (by omega)]; exact h.2.2.2.2.1) (by rw [hw 5 (by omega)]; exact h.2.2.2.2.2.1)
/-- what is told of a row but its tubes and its thumb -/
theorem zOk.keep {N N' : Nat → Int32} (h : zOk N) (hw : ∀ w, w < 42 → w ≠ 2 → w ≠ 6 → w ≠ 7 → w ≠ 8 → w ≠ 9 → (∀ s, s < 5 → w ≠ 10 + 4 * s + 3) → N' w = N w)
    (ht : N' 6 = -1 ∨ (∃ k, N' 6 = nI k ∧ k < zn (N 5)) ∧ zIn (N' 7) 1 60) (hk : ∀ k, k < zn (N 5) → zTu N' k) : zOk N' := by
  have e0 := hw 0 (by omega) (by omega) (by omega) (by omega) (by omega) (by omega) (by omega)
  have e1 := hw 1 (by omega) (by omega) (by omega) (by omega) (by omega) (by omega) (by omega)
  have e3 := hw 3 (by omega) (by omega) (by omega) (by omega) (by omega) (by omega) (by omega)
  have e4 := hw 4 (by omega) (by omega) (by omega) (by omega) (by omega) (by omega) (by omega)
  have e5 := hw 5 (by omega) (by omega) (by omega) (by omega) (by omega) (by omega) (by omega)
  have z3 := h.S5.2
  have z4 := h.B4.2
  obtain ⟨h1, h2, h3, h4, h5, h6, h7, h8, h9⟩ := h
  refine ⟨by rw [e3]; exact h1, by rw [e4]; exact h2, by rw [e5]; exact h3, by rw [e1]; exact h4, by rw [e0]; exact h5, by rw [e5]; exact ht, ?_, ?_, by rw [e5]; exact hk⟩
  · intro s hs
    rw [e3] at hs
    rw [hw (10 + 4 * s + 2) (by omega) (by omega) (by omega) (by omega) (by omega) (by omega) (by omega)]
    exact h7 s hs
  · intro b hb
    rw [e4] at hb
    rw [hw (30 + 3 * b + 2) (by omega) (by omega) (by omega) (by omega) (by omega) (by omega) (by omega)]
    exact h8 b hb
theorem zOk.up {N : Nat → Int32} (h : zOk N) {w : Nat} {v : Int32} (hw : w = 2 ∨ w = 8 ∨ w = 9) : zOk (upd N w v) := by
  have e : ∀ q, q ≠ w → upd N w v q = N q := fun q hq => pk_un hq
  refine h.keep (fun q q1 q2 q3 q4 q5 q6 q7 => e q (by omega)) ?_ fun k hk => ?_
  · rw [e 6 (by omega), e 7 (by omega)]
    exact h.2.2.2.2.2.1
  · exact (h.tu hk).move (fun q hq => e _ (by omega)) (by rw [e 3 (by omega)]) (by rw [e 4 (by omega)])
theorem zOk.S {N : Nat → Int32} (h : zOk N) {k : Nat} (hk : k < zn (N 5)) : ∃ s, N (42 + 21 * k + 0) = nI s ∧ s < zn (N 3) ∧ s < 5 := by
  obtain ⟨⟨s, a1, a2⟩, -⟩ := h.tu hk
  have := h.S5.2
  exact ⟨s, a1, a2, by omega⟩
/-! the four steps of a tube's minute, place by place -/
theorem sWarm_n {N : Nat → Int32} {k w : Nat} (h : w ≠ 42 + 21 * k + 5) : sWarm N k w = N w := pk_un h
theorem sLose_n {N : Nat → Int32} {k w s : Nat} {v : Int32} (hs : N (42 + 21 * k + 0) = nI s) (h5 : s < 5) (h : w ≠ 42 + 21 * k + 4) (h2 : w ≠ 10 + 4 * s + 3) : sLose N k v w = N w := by
  rw [sLose, hs, zn_nI (by omega), pk_un h2, pk_un h]
theorem sLose_f {N : Nat → Int32} {k s : Nat} {v : Int32} (hs : N (42 + 21 * k + 0) = nI s) (h5 : s < 5) : sLose N k v (42 + 21 * k + 4) = N (42 + 21 * k + 4) - v := by
  rw [sLose, hs, zn_nI (by omega), pk_un (by omega), pk_us]
theorem sLose_l {N : Nat → Int32} {k s : Nat} {v : Int32} (hs : N (42 + 21 * k + 0) = nI s) (h5 : s < 5) : sLose N k v (10 + 4 * s + 3) = N (10 + 4 * s + 3) + v := by
  rw [sLose, hs, zn_nI (by omega), pk_us]
theorem sLeak_n {N : Nat → Int32} {k w s : Nat} (hs : N (42 + 21 * k + 0) = nI s) (h5 : s < 5) (h : w ≠ 42 + 21 * k + 4) (h2 : w ≠ 10 + 4 * s + 3) : sLeak N k w = N w := by
  rw [sLeak]
  split
  · exact sLose_n hs h5 h h2
  · rfl
theorem sThumb_n {N : Nat → Int32} {k w : Nat} (h : w ≠ 6) (h2 : w ≠ 7) : sThumb N k w = N w := by
  rw [sThumb]
  split
  · rw [pk_un h, pk_un h2]
  · rfl
theorem sub_in {a b : Int32} {x y u v : Int} (ha : zIn a x y) (hb : zIn b u v) (h1 : -1000000 < x) (h2 : y < 1000000) (h3 : -1000000 < u) (h4 : v < 1000000) : (a - b).toInt = a.toInt - b.toInt := by
  obtain ⟨a1, a2⟩ := ha
  obtain ⟨b1, b2⟩ := hb
  rw [Int32.toInt_sub, Int.bmod_eq_of_le] <;> omega
theorem add_in {a b : Int32} {x y u v : Int} (ha : zIn a x y) (hb : zIn b u v) (h1 : -1000000 < x) (h2 : y < 1000000) (h3 : -1000000 < u) (h4 : v < 1000000) : (a + b).toInt = a.toInt + b.toInt := by
  obtain ⟨a1, a2⟩ := ha
  obtain ⟨b1, b2⟩ := hb
  rw [Int32.toInt_add, Int.bmod_eq_of_le] <;> omega
theorem tdiv_mid {a l : Int} (h : 1 ≤ l) : (0 ≤ a → 0 ≤ a.tdiv l ∧ a.tdiv l ≤ a) ∧ (a ≤ 0 → a ≤ a.tdiv l ∧ a.tdiv l ≤ 0) := by
  have h1 : ∀ b : Int, 0 ≤ b → 0 ≤ b.tdiv l ∧ b.tdiv l ≤ b := fun b hb => ⟨Int.tdiv_nonneg hb (by omega), Int.tdiv_le_self l hb⟩
  refine ⟨h1 a, fun ha => ?_⟩
  have h2 := h1 (-a) (by omega)
  rw [Int.neg_tdiv] at h2
  omega
theorem warm_in {a w l : Int32} (ha : zIn a (-200) 1500) (hw : zIn w (-200) 1500) (hl : zIn l 1 20) : zIn (w + (if jabs (a - w) < l then a - w else (a - w) / l)) (-200) 1500 := by
  have e := sub_in ha hw (by decide) (by decide) (by decide) (by decide)
  obtain ⟨a1, a2⟩ := ha
  obtain ⟨w1, w2⟩ := hw
  obtain ⟨l1, l2⟩ := hl
  have hg : ∀ d : Int32, (0 ≤ a.toInt - w.toInt → 0 ≤ d.toInt ∧ d.toInt ≤ a.toInt - w.toInt) → (a.toInt - w.toInt ≤ 0 → a.toInt - w.toInt ≤ d.toInt ∧ d.toInt ≤ 0) → zIn (w + d) (-200) 1500 := by
    intro d d1 d2
    have e2 : (w + d).toInt = w.toInt + d.toInt := by
      rw [Int32.toInt_add, Int.bmod_eq_of_le] <;> omega
    refine ⟨?_, ?_⟩ <;> rw [e2] <;> omega
  split
  · exact hg _ (by omega) (by omega)
  · have e3 : ((a - w) / l).toInt = (a.toInt - w.toInt).tdiv l.toInt := by
      rw [Int32.toInt_div_of_ne_right _ _ (by intro h; rw [h] at l1; exact absurd l1 (by decide)), e]
    have := tdiv_mid (a := a.toInt - w.toInt) l1
    exact hg _ (by rw [e3]; exact this.1) (by rw [e3]; exact this.2)
theorem mul10 {v : Int32} (h : zIn v (-20) 150) : zIn (nI 10 * v) (-200) 1500 ∧ (nI 10 * v).toInt = 10 * v.toInt := by
  obtain ⟨h1, h2⟩ := h
  have e : (nI 10 * v).toInt = 10 * v.toInt := by
    rw [Int32.toInt_mul, show (nI 10).toInt = 10 by decide, Int.bmod_eq_of_le] <;> omega
  exact ⟨⟨by omega, by omega⟩, e⟩
theorem sAround_in {N : Nat → Int32} (h : zOk N) {k : Nat} (hk : k < zn (N 5)) : zIn (sAround N k) (-200) 1500 := by
  rw [sAround]
  split
  · exact ⟨by decide, by decide⟩
  · obtain ⟨-, -, -, -, -, -, -, a, -⟩ := h.tu hk
    split
    · exact (mul10 h.2.2.2.2.1).1
    · rename_i hb
      obtain ⟨b, b1, b2⟩ := a.resolve_left hb
      have := h.B4.2
      rw [b1, zn_nI (by omega)]
      exact (mul10 (h.2.2.2.2.2.2.2.1 b b2)).1
theorem jmax0_in {x : Int32} : 0 ≤ (jmax (nI 0) x).toInt := by
  have e0 : (nI 0).toInt = 0 := by decide
  rw [jmax]
  split
  · rename_i h
    rw [Int32.lt_iff_toInt_lt] at h
    omega
  · omega
theorem spilt_in {f x : Int32} (h : zIn f 0 999) : 0 ≤ (jmin f (jmax (nI 0) x)).toInt ∧ (jmin f (jmax (nI 0) x)).toInt ≤ f.toInt := by
  obtain ⟨h1, h2⟩ := h
  have h3 := jmax0_in (x := x)
  generalize jmax (nI 0) x = y at h3
  rw [jmin]
  split
  · rename_i h4
    rw [Int32.lt_iff_toInt_lt] at h4
    omega
  · omega
/-- all that a tube's minute leaves as it was -/
theorem sFor_n {N : Nat → Int32} {k w s : Nat} (hs : N (42 + 21 * k + 0) = nI s) (h5 : s < 5) (h1 : w ≠ 42 + 21 * k + 5) (h2 : w ≠ 42 + 21 * k + 4) (h3 : w ≠ 10 + 4 * s + 3) (h6 : w ≠ 6) (h7 : w ≠ 7) : sFor N k w = N w := by
  have e1 : sWarm N k (42 + 21 * k + 0) = nI s := by rw [sWarm_n (by omega)]; exact hs
  have e2 : sLeak (sWarm N k) k (42 + 21 * k + 0) = nI s := by rw [sLeak_n e1 h5 (by omega) (by omega)]; exact e1
  rw [sFor, sThumb_n h6 h7, sLose_n e2 h5 h2 h3, sLeak_n e1 h5 h2 h3, sWarm_n h1]
theorem sFor_w {N : Nat → Int32} {k s : Nat} (hs : N (42 + 21 * k + 0) = nI s) (h5 : s < 5) : sFor N k (42 + 21 * k + 5) = sWarm N k (42 + 21 * k + 5) := by
  have e1 : sWarm N k (42 + 21 * k + 0) = nI s := by rw [sWarm_n (by omega)]; exact hs
  have e2 : sLeak (sWarm N k) k (42 + 21 * k + 0) = nI s := by rw [sLeak_n e1 h5 (by omega) (by omega)]; exact e1
  rw [sFor, sThumb_n (by omega) (by omega), sLose_n e2 h5 (by omega) (by omega), sLeak_n e1 h5 (by omega) (by omega)]
theorem sFor_t {N : Nat → Int32} {k s : Nat} (hk8 : k < 8) (hs : N (42 + 21 * k + 0) = nI s) (h5 : s < 5) (h6 : N 6 = -1 ∨ (∃ q, N 6 = nI q ∧ q < zn (N 5)) ∧ zIn (N 7) 1 60) : sFor N k 6 = -1 ∨ (∃ q, sFor N k 6 = nI q ∧ q < zn (N 5)) ∧ zIn (sFor N k 7) 1 60 := by
  have e1 : sWarm N k (42 + 21 * k + 0) = nI s := by rw [sWarm_n (by omega)]; exact hs
  have e2 : sLeak (sWarm N k) k (42 + 21 * k + 0) = nI s := by rw [sLeak_n e1 h5 (by omega) (by omega)]; exact e1
  have e6 : sLose (sLeak (sWarm N k) k) k (sSpilt (sLeak (sWarm N k) k) k) 6 = N 6 := by rw [sLose_n e2 h5 (by omega) (by omega), sLeak_n e1 h5 (by omega) (by omega), sWarm_n (by omega)]
  have e7 : sLose (sLeak (sWarm N k) k) k (sSpilt (sLeak (sWarm N k) k) k) 7 = N 7 := by rw [sLose_n e2 h5 (by omega) (by omega), sLeak_n e1 h5 (by omega) (by omega), sWarm_n (by omega)]
  rw [sFor, sThumb, e6, e7]
  by_cases h : N 6 = nI k
  · rw [if_pos h, pk_us, pk_un (by omega), pk_us]
    by_cases h0 : N 7 - nI 1 = 0
    · rw [if_pos h0]; exact Or.inl rfl
    · rw [if_neg h0]
      rcases h6 with h6 | ⟨⟨q, q1, q2⟩, q3⟩
      · exfalso
        have : ∀ k : Nat, k < 2 ^ 31 → ¬ nI k = -1 := fun k hk e => by
          have := nI_toInt hk
          rw [e] at this
          exact absurd this (by rw [show ((-1 : Int32)).toInt = -1 by decide]; omega)
        exact this k (by omega) (h.symm.trans h6)
      · refine Or.inr ⟨⟨q, by rw [← h, q1], q2⟩, ?_⟩
        have e := sub_in q3 (show zIn (nI 1) 1 1 from ⟨by decide, by decide⟩) (by decide) (by decide) (by decide) (by decide)
        obtain ⟨q4, q5⟩ := q3
        rw [show (nI 1).toInt = 1 by decide] at e
        have : (N 7 - nI 1).toInt ≠ 0 := fun e0 => h0 (Int32.toInt_inj.mp (by rw [e0]; rfl))
        exact ⟨by omega, by omega⟩
  · rw [if_neg h, e6, e7]; exact h6
theorem sTube_n {N : Nat → Int32} {k w s : Nat} (hs : N (42 + 21 * k + 0) = nI s) (h5 : s < 5) (h1 : w ≠ 42 + 21 * k + 5) (h2 : w ≠ 42 + 21 * k + 4) (h3 : w ≠ 10 + 4 * s + 3) (h6 : w ≠ 6) (h7 : w ≠ 7) (h9 : w ≠ 9) : sTube N k w = N w := by
  rw [sTube, pk_un h9, sFor_n hs h5 h1 h2 h3 h6 h7]
theorem sFor_ok {N : Nat → Int32} (h : zOk N) {k : Nat} (hk : k < zn (N 5)) : zOk (sFor N k) := by
  obtain ⟨s, hs, hs3, h5⟩ := h.S hk
  have h8 := h.k8 hk
  have e1 : sWarm N k (42 + 21 * k + 0) = nI s := by rw [sWarm_n (by omega)]; exact hs
  have e2 : sLeak (sWarm N k) k (42 + 21 * k + 0) = nI s := by rw [sLeak_n e1 h5 (by omega) (by omega)]; exact e1
  have hn : ∀ w, w ≠ 42 + 21 * k + 5 → w ≠ 42 + 21 * k + 4 → w ≠ 10 + 4 * s + 3 → w ≠ 6 → w ≠ 7 → sFor N k w = N w := fun w a b c d e => sFor_n hs h5 a b c d e
  refine h.keep (fun w w1 w2 w3 w4 w5 w6 w7 => hn w (by omega) (by omega) (w7 s h5) w3 w4) (sFor_t h8 hs h5 h.2.2.2.2.2.1) fun q hq => ?_
  have hq8 := h.k8 hq
  have n3 : sFor N k 3 = N 3 := hn 3 (by omega) (by omega) (by omega) (by omega) (by omega)
  have n4 : sFor N k 4 = N 4 := hn 4 (by omega) (by omega) (by omega) (by omega) (by omega)
  by_cases hqk : q = k
  · subst hqk
    have t := h.tu hq
    refine t.move2 (fun w a b c => hn _ (by omega) (by omega) (by omega) (by omega) (by omega)) (by rw [n3]) (by rw [n4]) ?_ ?_
    · obtain ⟨-, -, -, -, t4, -⟩ := t
      have l1 : zIn (sLeak (sWarm N q) q (42 + 21 * q + 4)) 0 999 := by
        have e4 : sWarm N q (42 + 21 * q + 4) = N (42 + 21 * q + 4) := sWarm_n (by omega)
        rw [sLeak]
        split
        · rename_i hc
          rw [sLose_f e1 h5, e4]
          have hc2 := hc.2.1
          rw [e4, Int32.lt_iff_toInt_lt, show ((0 : Int32)).toInt = 0 by decide] at hc2
          have e := sub_in t4 (show zIn (nI 1) 1 1 from ⟨by decide, by decide⟩) (by decide) (by decide) (by decide) (by decide)
          rw [show (nI 1).toInt = 1 by decide] at e
          obtain ⟨t41, t42⟩ := t4
          exact ⟨by omega, by omega⟩
        · rw [e4]; exact t4
      have l2 := spilt_in (x := sFree (sLeak (sWarm N q) q) q (sLeak (sWarm N q) q (42 + 21 * q + 5)) - sLeak (sWarm N q) q (42 + 21 * q + 3)) l1
      rw [sFor, sThumb_n (by omega) (by omega), sLose_f e2 h5]
      have l3 : zIn (sSpilt (sLeak (sWarm N q) q) q) 0 999 := ⟨l2.1, Int.le_trans l2.2 l1.2⟩
      have e := sub_in l1 l3 (by decide) (by decide) (by decide) (by decide)
      obtain ⟨l11, l12⟩ := l1
      obtain ⟨l21, l22⟩ := l2
      have : (sSpilt (sLeak (sWarm N q) q) q).toInt ≤ (sLeak (sWarm N q) q (42 + 21 * q + 4)).toInt := l22
      have : 0 ≤ (sSpilt (sLeak (sWarm N q) q) q).toInt := l21
      exact ⟨by omega, by omega⟩
    · rw [sFor_w hs h5, sWarm, pk_us]
      exact warm_in (sAround_in h hq) t.2.2.2.2.2.1 h.2.2.2.1
  · exact (h.tu hq).move (fun w a => hn _ (by omega) (by omega) (by omega) (by omega) (by omega)) (by rw [n3]) (by rw [n4])
theorem sTube_ok {N : Nat → Int32} (h : zOk N) {k : Nat} (hk : k < zn (N 5)) : zOk (sTube N k) := (sFor_ok h hk).up (Or.inr (Or.inr rfl))
theorem sTube_5 {N : Nat → Int32} (h : zOk N) {k : Nat} (hk : k < zn (N 5)) : sTube N k 5 = N 5 := by
  obtain ⟨s, hs, hs3, h5⟩ := h.S hk
  exact sTube_n hs h5 (by omega) (by omega) (by omega) (by omega) (by omega) (by omega)
theorem sTubes_ok {N : Nat → Int32} (h : zOk N) {p : Nat} (hp : p ≤ zn (N 5)) : zOk (sTubes N p) ∧ sTubes N p 5 = N 5 := by
  induction p with
  | zero => exact ⟨h, rfl⟩
  | succ p ih =>
    obtain ⟨i1, i2⟩ := ih (by omega)
    have hk : p < zn (sTubes N p 5) := by rw [i2]; omega
    exact ⟨sTube_ok i1 hk, (sTube_5 i1 hk).trans i2⟩
theorem sOne_ok {N : Nat → Int32} (h : zOk N) : zOk (sOne N) ∧ sOne N 5 = N 5 := by
  have h2 : zOk (upd N 2 (N 2 + nI 1)) := h.up (Or.inl rfl)
  have e : upd N 2 (N 2 + nI 1) 5 = N 5 := pk_un (by omega)
  have := sTubes_ok h2 (p := zn (N 5)) (by rw [e]; exact Nat.le_refl _)
  exact ⟨this.1, this.2.trans e⟩
theorem sWalk_ok {N : Nat → Int32} (h : zOk N) (n : Nat) : zOk (sWalk N n) ∧ sWalk N n 5 = N 5 := by
  induction n with
  | zero => exact ⟨h, rfl⟩
  | succ n ih => exact ⟨(sOne_ok ih.1).1, (sOne_ok ih.1).2.trans ih.2⟩


