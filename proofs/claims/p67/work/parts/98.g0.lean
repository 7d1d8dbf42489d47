/-! ===== NO CELL IS NULL ===== -/
theorem r_g0 {E : Ev} {y : Mt} {Z : Fx → State → Prop} {X : Fx} {pc : Nat} {lo st : List Value} {g : Sh} {i : Ni} {j : Nj} {cu su : Nat} (kk : gT g 0 = 0 → zR E y Z X pc lo st g i j cu su) : zR E y Z X pc lo st g i j cu su := by
  obtain ⟨p, e, R, s, m, args, below, meth, cc⟩ := X
  intro C H locs ls hR hS hl
  exact kk hR.2.2 C H locs ls hR hS hl


