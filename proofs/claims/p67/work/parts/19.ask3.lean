abbrev t2 (N : Nat → Int32) (t v : Int32) : Prop := tv (N 5) t ∧ tv (N 5) v
theorem dg_in {q : Nat} (h : q ≤ 1700) : (nI q - nI 200).toInt = (q : Int) - 200 := by
  rw [Int32.toInt_sub, nI_toInt (by omega), nI_toInt (by omega), Int.bmod_eq_of_le] <;> omega
theorem gr_dec (a : Int32) : a + 1 - nI 200 + Int32.ofInt (-1) = a - nI 200 := by
  rw [show Int32.ofInt (-1) = -1 by decide, Int32.sub_eq_add_neg, Int32.sub_eq_add_neg, Int32.add_assoc, Int32.add_assoc, show (1 + (-nI 200 + -1) : Int32) = -nI 200 by decide]
theorem gr_dec2 (q : Nat) : nI (q + 1) - nI 200 + Int32.ofInt (-1) = nI q - nI 200 := by
  rw [nI_succ]
  exact gr_dec _

