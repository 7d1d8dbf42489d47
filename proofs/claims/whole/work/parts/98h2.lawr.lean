/-! ===== RULES OF THE LAW'S WALK ===== -/
/-- the script: L numbers xs at b, below the law's own cells -/
def zScr (E : Ev) (X : Fx) (b L : Nat) (xs : Nat → Int32) : Prop := match X with
  | (_, _, _, s, _, _, _, _, _) => va_X b L xs s s.heap ∧ b < s.heap.size ∧ b < eB E
section
variable {E : Ev} {y : Mt} {Z : Fx → State → Prop} {X : Fx} {pc : Nat} {lo st : List Value} {g : Sh} {i : Ni} {j : Nj} {cu su : Nat}
theorem r_sld {b L k : Nat} {xs : Nat → Int32} (hX : zScr E X b L xs) (d : decode (mB y) pc = .ok (.iaload, 1)) (hk : k < L) (hL : L ≤ 3072) (kk : zR E y Z X (pc + 1) lo (.int (xs k) :: st) g i j cu su) : zR E y Z X pc lo (.int (nI k) :: .ref (b + 1) :: st) g i j cu su := by
  obtain ⟨p, e, R, s, m, args, below, meth, cc⟩ := X
  intro C H locs ls hR hS hl
  obtain ⟨h1, h2, h3⟩ := hX
  have ek : (nI k).toNatClampNeg = k := nI_clamp (by omega)
  refine va_sld (A := zA E) C.1 C.2.1 h1 h2 (fun h => absurd (show eB E ≤ b from h) (by omega)) hS (i := nI k) ?_ d ?_
  · rintro (h | h)
    · exact absurd h (not_neg (by omega))
    · rw [ek] at h; omega
  · rw [ek]; exact kk C H locs ls hR hS hl
theorem r_scl {b L : Nat} {xs : Nat → Int32} (hX : zScr E X b L xs) (d : decode (mB y) pc = .ok (.arraylength, 1)) (kk : zR E y Z X (pc + 1) lo (.int (nI L) :: st) g i j cu su) : zR E y Z X pc lo (.ref (b + 1) :: st) g i j cu su := by
  obtain ⟨p, e, R, s, m, args, below, meth, cc⟩ := X
  intro C H locs ls hR hS hl
  obtain ⟨h1, h2, h3⟩ := hX
  exact va_slen (A := zA E) C.1 C.2.1 h1 h2 (fun h => absurd (show eB E ≤ b from h) (by omega)) hS d (kk C H locs ls hR hS hl)
theorem r_table {dflt l9 h9 off : Int} {offs : Array Int} {len t : Nat} {v : Int32} (d : decode (mB y) pc = .ok (.tableswitch dflt l9 h9 offs, len)) (h1 : ¬ v.toInt < l9) (h2 : ¬ h9 < v.toInt) (ho : offs[(v.toInt - l9).toNat]? = some off) (ht : (pc : Int) + off = (t : Int)) (kk : zR E y Z X t lo st g i j cu su) : zR E y Z X pc lo (.int v :: st) g i j cu su := by
  obtain ⟨p, e, R, s, m, args, below, meth, cc⟩ := X
  intro C H locs ls hR hS hl
  exact lv_tableIn C.1 C.2.1 d h1 h2 ho ht (kk C H locs ls hR hS hl)
theorem r_weak {lo2 : List Value} (h : ∀ (k : Nat) (v : Value), lo2[k]? = some v → v ≠ zJ → lo[k]? = some v) (kk : zR E y Z X pc lo2 st g i j cu su) : zR E y Z X pc lo st g i j cu su := by
  obtain ⟨p, e, R, s, m, args, below, meth, cc⟩ := X
  intro C H locs ls hR hS hl
  exact kk C H locs ls hR hS ⟨hl.1, hl.2.1, fun k v h1 h2 => hl.2.2 k v (h k v h1 h2) h2⟩
theorem r_weak9 {a0 a1 a2 a3 a4 a5 a6 a7 a8 : Value} (kk : zR E y Z X pc [a0, a1, a2, a3, a4, zJ, zJ, zJ, zJ] st g i j cu su) : zR E y Z X pc [a0, a1, a2, a3, a4, a5, a6, a7, a8] st g i j cu su := by
  refine r_weak (fun k v h1 h2 => ?_) kk
  match k, h1 with
  | 0, h1 => exact h1
  | 1, h1 => exact h1
  | 2, h1 => exact h1
  | 3, h1 => exact h1
  | 4, h1 => exact h1
  | 5, h1 => exact absurd (Option.some.inj h1).symm h2
  | 6, h1 => exact absurd (Option.some.inj h1).symm h2
  | 7, h1 => exact absurd (Option.some.inj h1).symm h2
  | 8, h1 => exact absurd (Option.some.inj h1).symm h2
  | k + 9, h1 => exact absurd h1 (by simp)
theorem r_widen {cu2 su2 : Nat} (h1 : cu ≤ cu2) (h2 : su ≤ su2) (kk : zR E y Z X pc lo st g i j cu2 su2) : zR E y Z X pc lo st g i j cu su := by
  obtain ⟨p, e, R, s, m, args, below, meth, cc⟩ := X
  intro C H locs ls hR hS hl
  exact W.widen h1 h2 (kk C H locs ls hR hS hl)
end
theorem lbc {n : Nat} (h : n ≤ 601024) : Nat.ble n (mM mL_law).cells = true := Nat.ble_eq.mpr h
theorem lbs {n : Nat} (h : n ≤ 7293034) : Nat.ble n (mM mL_law).slots = true := Nat.ble_eq.mpr h
section
variable {E : Ev} {y : Mt} {Z : Fx → State → Prop} {X : Fx} {pc : Nat} {lo st : List Value} {g : Sh} {i : Ni} {j : Nj} {cu su : Nat}
variable {y2 : Mt} {idx cu2 su2 : Nat} {h : Nat × Nat × Nat × Nat} {hs : List (Nat × Nat × Nat × Nat)} {b0 b1 b2 b3 b4 b5 b6 : Value}
theorem r_cH2 (d : decode (mB y) pc = .ok (.invokestatic idx, 3)) (k : zCS (mN y).cls idx y2 2) (hH : mH y2 = h :: hs) (hf : zfit y y2 = true) (hw : Nat.ble ((st.map fun v => v.category).sum) 8 = true) (hcu : cu + (mM y2).cells = cu2) (hsu : su + (mM y2).slots = su2) (hcu2 : Nat.ble cu2 (mM y).cells = true) (hsu2 : Nat.ble su2 (mM y).slots = true) (hC : zCon E y2 [b0, b1] g i j (zK E y Z X pc lo st cu2 su2)) : zR E y Z X pc lo (b1 :: b0 :: st) g i j cu su := r_callsH (as := [b0, b1]) d k rfl rfl hH hf hw hcu hsu hcu2 hsu2 hC
theorem r_cH3 (d : decode (mB y) pc = .ok (.invokestatic idx, 3)) (k : zCS (mN y).cls idx y2 3) (hH : mH y2 = h :: hs) (hf : zfit y y2 = true) (hw : Nat.ble ((st.map fun v => v.category).sum) 8 = true) (hcu : cu + (mM y2).cells = cu2) (hsu : su + (mM y2).slots = su2) (hcu2 : Nat.ble cu2 (mM y).cells = true) (hsu2 : Nat.ble su2 (mM y).slots = true) (hC : zCon E y2 [b0, b1, b2] g i j (zK E y Z X pc lo st cu2 su2)) : zR E y Z X pc lo (b2 :: b1 :: b0 :: st) g i j cu su := r_callsH (as := [b0, b1, b2]) d k rfl rfl hH hf hw hcu hsu hcu2 hsu2 hC
theorem r_cH4 (d : decode (mB y) pc = .ok (.invokestatic idx, 3)) (k : zCS (mN y).cls idx y2 4) (hH : mH y2 = h :: hs) (hf : zfit y y2 = true) (hw : Nat.ble ((st.map fun v => v.category).sum) 8 = true) (hcu : cu + (mM y2).cells = cu2) (hsu : su + (mM y2).slots = su2) (hcu2 : Nat.ble cu2 (mM y).cells = true) (hsu2 : Nat.ble su2 (mM y).slots = true) (hC : zCon E y2 [b0, b1, b2, b3] g i j (zK E y Z X pc lo st cu2 su2)) : zR E y Z X pc lo (b3 :: b2 :: b1 :: b0 :: st) g i j cu su := r_callsH (as := [b0, b1, b2, b3]) d k rfl rfl hH hf hw hcu hsu hcu2 hsu2 hC
theorem r_cH7 (d : decode (mB y) pc = .ok (.invokestatic idx, 3)) (k : zCS (mN y).cls idx y2 7) (hH : mH y2 = h :: hs) (hf : zfit y y2 = true) (hw : Nat.ble ((st.map fun v => v.category).sum) 8 = true) (hcu : cu + (mM y2).cells = cu2) (hsu : su + (mM y2).slots = su2) (hcu2 : Nat.ble cu2 (mM y).cells = true) (hsu2 : Nat.ble su2 (mM y).slots = true) (hC : zCon E y2 [b0, b1, b2, b3, b4, b5, b6] g i j (zK E y Z X pc lo st cu2 su2)) : zR E y Z X pc lo (b6 :: b5 :: b4 :: b3 :: b2 :: b1 :: b0 :: st) g i j cu su := r_callsH (as := [b0, b1, b2, b3, b4, b5, b6]) d k rfl rfl hH hf hw hcu hsu hcu2 hsu2 hC
end
/-! answers with a code -/
theorem c3_z0 {a b c : Prop} [Decidable a] [Decidable b] [Decidable c] (h : c3 a b c = 0) : a ∧ b ∧ c := by
  rw [c3] at h
  split at h
  · exact absurd h (by decide)
  · rename_i h1
    split at h
    · exact absurd h (by decide)
    · rename_i h2
      split at h
      · exact absurd h (by decide)
      · rename_i h3
        exact ⟨Decidable.not_not.mp h1, Decidable.not_not.mp h2, Decidable.not_not.mp h3⟩
theorem c3_zn {a b c : Prop} [Decidable a] [Decidable b] [Decidable c] (h : ¬ (a ∧ b ∧ c)) : ¬ c3 a b c = 0 := fun e => h (c3_z0 e)
theorem c3_zt {a b c : Prop} [Decidable a] [Decidable b] [Decidable c] (h : a ∧ b ∧ c) : c3 a b c = nI 0 := by
  rw [c3, if_neg (fun z => z h.1), if_neg (fun z => z h.2.1), if_neg (fun z => z h.2.2)]
theorem lk3 {A B C : Prop} {dA : Decidable A} {dB : Decidable B} {dC : Decidable C} {f : Nat → Option Int32} {e1 e2 e3 ol : Nat} {v : Int32} {K : Kp} {g : Sh} {i : Ni} {j : Nj} (ho : gT g ol = 14 ∧ gL g ol = 1) (h1 : A ∨ f e1 = some (nI 1)) (h2 : B ∨ f e2 = some (nI 2)) (h3 : C ∨ f e3 = some (nI 3)) (hK : ∀ j' : Nj, (A ∧ B ∧ C → j' ol 0 = v.toInt64) → (∀ q, q ≠ ol → j' q = j q) → K (.inl (some (.int (c3 A B C)))) g i j') : zLk f ol K (oc3 A B C e1 e2 e3 (.int v)) g i j := by
  by_cases a : A
  · by_cases b : B
    · by_cases c : C
      · rw [oc3_v a b c]
        refine ⟨ho.1, ho.2, fun j' e1 e2 => ?_⟩
        have := hK j' (fun _ => e1) e2
        rw [c3_zt ⟨a, b, c⟩] at this
        exact this
      · rw [oc3, if_neg (fun z => z a), if_neg (fun z => z b), if_pos c]
        refine ⟨nI 3, h3.resolve_left c, ?_⟩
        have := hK j (fun h => absurd h.2.2 c) (fun _ _ => rfl)
        rw [c3, if_neg (fun z => z a), if_neg (fun z => z b), if_pos c] at this
        exact this
    · rw [oc3, if_neg (fun z => z a), if_pos b]
      refine ⟨nI 2, h2.resolve_left b, ?_⟩
      have := hK j (fun h => absurd h.2.1 b) (fun _ _ => rfl)
      rw [c3, if_neg (fun z => z a), if_pos b] at this
      exact this
  · rw [oc3, if_pos a]
    refine ⟨nI 1, h1.resolve_left a, ?_⟩
    have := hK j (fun h => absurd h.1 a) (fun _ _ => rfl)
    rw [c3, if_pos a] at this
    exact this
theorem zb_01 (P : Prop) [Decidable P] : zb P = nI 0 ∨ zb P = nI 1 := by
  by_cases p : P
  · exact Or.inr (zb_t p)
  · exact Or.inl (zb_f p)
theorem lkb {A P : Prop} {dA : Decidable A} {dP : Decidable P} {f : Nat → Option Int32} {e1 e2 e3 ol : Nat} {K : Kp} {g : Sh} {i : Ni} {j : Nj} (ho : gT g ol = 14 ∧ gL g ol = 1) (h1 : f e1 = some (nI 1)) (hK : ∀ j' : Nj, (A ∧ True ∧ True → j' ol 0 = (zb P).toInt64) → (∀ q, q ≠ ol → j' q = j q) → K (.inl (some (.int (c3 A True True)))) g i j') : zLb f ol K (oc3 A True True e1 e2 e3 (.int (zb P))) g i j := by
  by_cases a : A
  · rw [oc3_v a trivial trivial]
    refine ⟨zb_01 P, ho.1, ho.2, fun j' e1 e2 => ?_⟩
    have := hK j' (fun _ => e1) e2
    rw [c3_zt ⟨a, trivial, trivial⟩] at this
    exact this
  · rw [oc3, if_pos a]
    refine ⟨nI 1, h1, ?_⟩
    have := hK j (fun h => absurd h.1 a) (fun _ _ => rfl)
    rw [c3, if_pos a] at this
    exact this
theorem bl_0 {v : Int32} {y : Int64} (hj : y = v.toInt64) (h : v = 0) : y = 0 := by
  rw [hj, h]; decide
theorem bl_1 {v : Int32} {y : Int64} (hv : v = nI 0 ∨ v = nI 1) (hj : y = v.toInt64) (h : ¬ v = 0) : y = 1 := by
  rcases hv with e | e
  · exact absurd e h
  · rw [hj, e]; decide

