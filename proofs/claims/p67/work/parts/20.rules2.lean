/-! ===== AN ARRAY IS WHAT IT HOLDS BELOW ITS LENGTH; rows copied ===== -/
section RULES20
variable {E : Ev} {y : Mt} {Z : Fx → State → Prop} {X : Fx} {pc : Nat} {lo st : List Value} {g : Sh} {i : Ni} {j : Nj} {cu su : Nat}
theorem arr_ext {cI : ClassId} {N : Nat} {f f' : Nat → Value} (h : ∀ k, k < N → f k = f' k) : arrV cI N f = arrV cI N f' := by
  unfold arrV
  congr 2
  funext k
  exact h k.val k.isLt
theorem r_ext {r : Nat} {f : Nat → Int32} (ht : gT g r = 11) (h : ∀ k, k < gL g r → i r k = f k) (kk : zR E y Z X pc lo st g (wA i r f) j cu su) : zR E y Z X pc lo st g i j cu su := by
  obtain ⟨p, e, R, s, m, args, below, meth, cc⟩ := X
  intro C H locs ls hR hS hl
  obtain ⟨a, rfl⟩ := znz hR ht
  refine kk C H locs ls (zstore hR (t := 0) ht (fun _ _ => rfl) (fun r hr => ⟨wA_n hr, rfl⟩) ?_) hS hl
  rw [zarr hR (t := 0) ht]
  show some (vp_cell _ (_, .inl _)) = some (vp_cell _ (_, .inl _))
  rw [vp_cell_i, vp_cell_i]
  congr 1
  exact arr_ext fun k hk => by rw [wA_s, h k hk]
end RULES20
/-- m numbers of N put at b -/
def yput (P N : Nat → Int32) (b m : Nat) : Nat → Int32 := fun a => if b ≤ a ∧ a < b + m then N (a - b) else P a
/-- the first m numbers are f's -/
def ycp (f P : Nat → Int32) (m : Nat) : Nat → Int32 := fun a => if a < m then f a else P a
/-- the first m numbers come down by a row -/
def ydn (P : Nat → Int32) (m : Nat) : Nat → Int32 := fun a => if a < m then P (a + 210) else P a
theorem yput_0 {P N : Nat → Int32} {b : Nat} : yput P N b 0 = P := by
  funext a; rw [yput, if_neg (by omega)]
theorem yput_s {P N : Nat → Int32} {b m : Nat} : upd (yput P N b m) (b + m) (N m) = yput P N b (m + 1) := by
  funext a
  by_cases h : a = b + m
  · subst h
    rw [pk_us, yput, if_pos (by omega), show b + m - b = m by omega]
  · rw [pk_un h, yput, yput]
    by_cases h2 : b ≤ a ∧ a < b + m
    · rw [if_pos h2, if_pos (by omega)]
    · rw [if_neg h2, if_neg (by omega)]
theorem ycp_0 {f P : Nat → Int32} : ycp f P 0 = P := by
  funext a; rw [ycp, if_neg (by omega)]
theorem ycp_s {f P : Nat → Int32} {m : Nat} : upd (ycp f P m) m (f m) = ycp f P (m + 1) := by
  funext a
  by_cases h : a = m
  · subst h; rw [pk_us, ycp, if_pos (by omega)]
  · rw [pk_un h, ycp, ycp]
    by_cases h2 : a < m
    · rw [if_pos h2, if_pos (by omega)]
    · rw [if_neg h2, if_neg (by omega)]
theorem ydn_0 {P : Nat → Int32} : ydn P 0 = P := by
  funext a; rw [ydn, if_neg (by omega)]
theorem ydn_s {P : Nat → Int32} {m : Nat} : upd (ydn P m) m (ydn P m (m + 210)) = ydn P (m + 1) := by
  have e : ydn P m (m + 210) = P (m + 210) := by rw [ydn, if_neg (by omega)]
  rw [e]
  funext a
  by_cases h : a = m
  · subst h; rw [pk_us, ydn, if_pos (by omega)]
  · rw [pk_un h, ydn, ydn]
    by_cases h2 : a < m
    · rw [if_pos h2, if_pos (by omega)]
    · rw [if_neg h2, if_neg (by omega)]
def sRem (P N : Nat → Int32) (c : Nat) : Nat → Int32 := if c = 6 then yput (ydn P 1050) N 1050 210 else yput P N (210 * c) 210
theorem wR_wR {g : Sh} {r k v v' : Nat} : wR (wR g r k v) r k v' = wR g r k v' := by
  obtain ⟨a, b, c⟩ := g
  unfold wR
  congr 2
  funext q
  by_cases h : q = r
  · subst h
    simp only [if_true]
    funext n
    by_cases hn : n = k <;> simp [hn]
  · simp [h]
theorem wR_self {g : Sh} {r k : Nat} : wR g r k (gR g r k) = g := by
  obtain ⟨a, b, c⟩ := g
  unfold wR gR
  congr 2
  funext q
  by_cases h : q = r
  · subst h
    simp only [if_true]
    funext n
    by_cases hn : n = k <;> simp [hn]
  · simp [h]
theorem yup_same {f : Nat → Int32} {k : Nat} {v : Int32} (h : f k = v) : upd f k v = f := by
  funext q
  by_cases e : q = k
  · subst e; rw [pk_us, h]
  · rw [pk_un e]
theorem yup_twice {f : Nat → Int32} {k : Nat} {v w : Int32} : upd (upd f k v) k w = upd f k w := by
  funext q
  by_cases e : q = k
  · subst e; rw [pk_us, pk_us]
  · rw [pk_un e, pk_un e, pk_un e]
theorem wA_id {i : Ni} {r : Nat} {f : Nat → Int32} (h : i r = f) : wA i r f = i := by
  subst h; exact wA_self


