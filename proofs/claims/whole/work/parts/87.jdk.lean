/-! ===== THE BUILDER'S RULES ===== -/
section
variable {E : Ev} {y : Mt} {Z : Fx → State → Prop} {X : Fx} {pc : Nat} {lo st : List Value} {g : Sh} {i : Ni} {j : Nj} {cu su : Nat} {Q : Kp}
/-- y2 is what an object of class c answers with -/
def zSel (E : Ev) (c : Nat) (y2 : Mt) : Prop := ∀ (s : State) (a : Array Value), (∀ w ∈ lw_good, w.before a s = true) → zEnv E s → (Cond.selects (zcl c).1 (mN y2) (mN y2)).before a s = true
theorem zSel_of {c : Nat} {y2 : Mt} (h : Cond.selects (zcl c).1 (mN y2) (mN y2) ∈ lw_good) : zSel E c y2 := fun _ _ hts _ => hts _ h
theorem zSel_priv {c n : Nat} {y2 : Mt} (hy : (mN y2).cls ≠ "java/lang/invoke/MethodHandle" ∧ (mN y2).cls ≠ "java/lang/invoke/VarHandle") (h1 : Cond.instantiable (zcl c).1 n ∈ lw_good) (h2 : mN y2 ∈ zpriv) (h3 : Cond.instanceMethod (mN y2) ∈ lw_good)
    (h4 : Cond.sameMethod (mN y2).cls (mN y2).cls (mN y2).name (mN y2).desc ∈ lw_good) : zSel E c y2 := by
  intro s a hts hE
  obtain ⟨c9, k, hc, hk, -, hniab, -, -⟩ := Cond.instantiable_spec (hts _ h1)
  obtain ⟨mk, methM, hnamed, hmethM, -, -⟩ := Cond.instanceMethod_spec (hts _ h3)
  obtain ⟨cn, ck, r1, hcn, hck, hni, -, -⟩ := Cond.sameMethod_found (hts _ h4)
  have hfound : s.methodFound? (mN y2).cls (mN y2).name (mN y2).desc = some mk := State.methodFound?_of_named hnamed hy
  have hcls : mk.cls = cn := Option.some.inj ((findClass_of_methodNamed hnamed).symm.trans hcn)
  have hsel : selectMethod {} s.vm c9 mk = .method mk := selectMethod_private hmethM (Cond.privateMethod_at (hE.2.2.2.2.2.2.2.2.2.2.1.2.2.2.2.2.2 _ h2) mk methM hnamed hmethM)
  simp only [Cond.before, Cond.holds, Cond.value, hc, hfound, hnamed, hsel, hcls, hck]
  simp; exact hni
/-- a virtual call of a method that stands above the object's class -/
theorem r_cvB {y2 : Mt} {as : List Value} {r n c idx cu2 su2 : Nat} {st0 : List Value} (d : decode (mB y) pc = .ok (.invokevirtual idx, 3)) (k : zCB (mN y).cls idx y2 n) (ki : Cond.instanceMethod (mN y2) ∈ lw_good) (ks : zSel E c y2) (hst : st0 = as.reverse ++ .ref r :: st) (hn : as.length = n) (hH : mH y2 = []) (hf : zfit y y2 = true)
    (ht : gT g r = c + 1) (hc6 : c < 6) (hw : Nat.ble ((st.map fun v => v.category).sum) 8 = true) (hcu : cu + (mM y2).cells = cu2) (hsu : su + (mM y2).slots = su2) (hcu2 : Nat.ble cu2 (mM y).cells = true) (hsu2 : Nat.ble su2 (mM y).slots = true)
    (hC : zCon E y2 (.ref r :: as) g i j (zK E y Z X pc lo st cu2 su2)) : zR E y Z X pc lo st0 g i j cu su := by
  subst hcu; subst hsu; subst hst
  obtain ⟨p, e, R, s, m, args, below, meth, cc⟩ := X
  intro C H locs ls hR hS hl
  obtain ⟨hx, hb, -, hml, hown, hts, hE, -, hRm, -⟩ := id C
  obtain ⟨a, rfl⟩ := znz hR ht
  obtain ⟨-, -, cell, q1, q2, q3, -⟩ := hR.1 a c ht (by omega)
  have hcls := (hE.2.1.1 c _ (zcl_at hc6)).2.1
  refine zgo (st := st) (a9 := (cvs (.ref (a + 1) :: as)).toArray) (mc := (mM y2).cells) (ms := (mM y2).slots) ?_ C hS hl
  exact vx_runV (C := (zcl c).1) (n := n) (index := idx) (nL := mL y) (As := cvs as) (b := a) ⟨hx, hb, hml, hown, hts⟩ hC ⟨zcb hH k hts hRm hf, hts _ ki, ks s args hts hE⟩
    ⟨zblind, ⟨cell, q1, by rw [q3]; rfl, by rw [q2]; exact hcls⟩, fun U hU hW => zpre (as := .ref (a + 1) :: as) hE hR hS hU hW⟩ rfl (by rw [← hn]; simp [cvs]) hl.1 (by simp [cvs, cv, zrf, va_rf]) (zroom hw) d ⟨by rw [hRm]; exact Nat.le_of_ble_eq_true hcu2, by rw [hRm]; exact Nat.le_of_ble_eq_true hsu2⟩
/-- a call of the method above -/
def zCU (own : String) (idx : Nat) (y2 : Mt) (n : Nat) : Prop := zCB own idx y2 n ∧ Cond.instanceMethod (mN y2) ∈ lw_good ∧ Cond.sameMethod (mN y2).cls (mN y2).cls (mN y2).name (mN y2).desc ∈ lw_good ∧ Cond.superclass own (mN y2).cls ∈ lw_good ∧ (mN y2).name ≠ "<init>"
theorem r_sup {y2 : Mt} {as : List Value} {r n c idx cu2 su2 : Nat} {st0 : List Value} (d : decode (mB y) pc = .ok (.invokespecial idx, 3)) (k : zCU (mN y).cls idx y2 n) (hst : st0 = as.reverse ++ .ref r :: st) (hn : as.length = n) (hH : mH y2 = []) (hf : zfit y y2 = true)
    (ht : gT g r = c + 1) (hc6 : c < 6) (hw : Nat.ble ((st.map fun v => v.category).sum) 8 = true) (hcu : cu + (mM y2).cells = cu2) (hsu : su + (mM y2).slots = su2) (hcu2 : Nat.ble cu2 (mM y).cells = true) (hsu2 : Nat.ble su2 (mM y).slots = true)
    (hC : zConI E y2 (.ref r :: as) g i j (zK E y Z X pc lo st cu2 su2)) : zR E y Z X pc lo st0 g i j cu su := by
  subst hcu; subst hsu; subst hst
  obtain ⟨p, e, R, s, m, args, below, meth, cc⟩ := X
  intro C H locs ls hR hS hl
  obtain ⟨hx, hb, -, hml, hown, hts, hE, -, hRm, -⟩ := id C
  obtain ⟨a, rfl⟩ := znz hR ht
  obtain ⟨-, -, cell, q1, q2, q3, -⟩ := hR.1 a c ht (by omega)
  have hK9 := (hE.2.1.1 c _ (zcl_at hc6)).2
  obtain ⟨⟨h1, h2, h3, h4, h5⟩, k2, k3, k4, k5⟩ := k
  have hc : zcode y2 = .code (mN y2) (mB y2) (mL y2) (mR y2) := by unfold zcode; rw [hH]
  simp only [zfit, Bool.and_eq_true] at hf
  have hrun := va_runSU (R := R) (s := s) (args := args) (n := n) (index := idx) (nL := mL y) (As := cvs as) (b := a) (rest := cvs st) (H := H) (locs := locs) (cells := cu) (slots := su) (e := e) (below := below) (meth := meth) (g := F0 m pc ls (cvs (as.reverse ++ .ref (a + 1) :: st))) (own := (mN y).cls) hK9 ⟨hx, hb, hml, hown, hts⟩ hC
    ⟨⟨rfl, rfl, by rw [hRm]; exact Nat.le_of_ble_eq_true hf.1, by rw [hRm]; exact Nat.le_of_ble_eq_true hf.2, zwsat hts h3, by rw [← hc]; exact List.mem_cons_self⟩, hts _ h1, hts _ k3, hts _ k4, hts _ k2, hts _ h2, by rw [← hc]; exact hts _ h3, k5, fun sig h => by
      rw [h] at h5
      exact (Option.some.inj h5).symm⟩
    ⟨zblind, ⟨cell, q1, by rw [q3]; rfl, by rw [q2]; exact hK9.1⟩, fun U hU hW => zpre (as := .ref (a + 1) :: as) hE hR hS hU hW⟩ rfl (by rw [← hn]; simp [cvs]) hl.1 (by simp [cvs, cv, zrf, va_rf]) (zroom hw) d ⟨by rw [hRm]; exact Nat.le_of_ble_eq_true hcu2, by rw [hRm]; exact Nat.le_of_ble_eq_true hsu2⟩
  intro T hT Xs
  obtain ⟨v, st₀, t, T', L, h0, X', hL, e1, e2, ⟨v2, g2, i2, j2, hv, hrep, hk, hF⟩, stp⟩ := hrun T hT Xs
  cases Outcome.returned.inj hv
  have hS' := zKeep h0 e1 hS hL hF
  cases v2 with
  | none =>
    obtain ⟨t2, a1, b1⟩ := hk C T'.heap (locs ++ L) ls (by rw [e1]; exact hrep) hS' hl T' rfl X'
    exact ⟨t2, stp t2 a1, b1⟩
  | some v =>
    obtain ⟨t2, a1, b1⟩ := hk C T'.heap (locs ++ L) ls (by rw [e1]; exact hrep) hS' hl T' rfl X'
    exact ⟨t2, stp t2 a1, b1⟩
theorem r_iretI {x : Int32} {ty : FieldType} (d : decode (mB y) pc = .ok (.ireturn, 1)) (hr : mR y = some ty) (hn : narrow ty (.int x) = .int x) (hcu : Nat.ble cu (mM y).cells = true) (hsu : Nat.ble su (mM y).slots = true) (hq : Q (.inl (some (.int x))) g i j) : zR E y (zZI E y Q) X pc lo [.int x] g i j cu su := by
  obtain ⟨p, e, R, s, m, args, below, meth, cc⟩ := X
  intro C H locs ls hR hS hl
  refine W.widen (Nat.le_of_ble_eq_true hcu) (Nat.le_of_ble_eq_true hsu) ?_
  exact W.zret C.1 C.2.1 (C.2.2.1.trans hr) hn (fun t ht _ => ⟨some (.int x), g, i, j, rfl, by rw [ht]; exact hR, hq, hS.F ht⟩) hS.2.2 d C.2.2.2.2.2.2.2.1
theorem r_aretI {x : Nat} {rt : FieldType} (d : decode (mB y) pc = .ok (.areturn, 1)) (hr : mR y = some rt) (hrt : zrefty rt = true) (hcu : Nat.ble cu (mM y).cells = true) (hsu : Nat.ble su (mM y).slots = true) (hq : Q (.inl (some (.ref x))) g i j) : zR E y (zZI E y Q) X pc lo [.ref x] g i j cu su := by
  obtain ⟨p, e, R, s, m, args, below, meth, cc⟩ := X
  intro C H locs ls hR hS hl
  refine W.widen (Nat.le_of_ble_eq_true hcu) (Nat.le_of_ble_eq_true hsu) ?_
  refine W.aret (v := cv (.ref x)) C.1 C.2.1 (C.2.2.1.trans hr) ?_ ?_ (fun t ht _ => ⟨some (.ref x), g, i, j, rfl, by rw [ht]; exact hR, hq, hS.F ht⟩) hS.2.2 d C.2.2.2.2.2.2.2.1
  · cases rt <;> simp [zrefty] at hrt <;> simp
  · cases x with
    | zero => exact Or.inl rfl
    | succ n => exact Or.inr ⟨n, rfl⟩
/-- the digits' tables -/
theorem r_gdo {idx : Nat} (d : decode (mB y) pc = .ok (.getstatic idx, 3)) (hl : Cond.fieldLink (mN y).cls idx "java/lang/Integer" "DigitOnes" "[B" ∈ lw_good) (kk : zR E y Z X (pc + 3) lo (.ref (eS E 0 + 1) :: st) g i j cu su) : zR E y Z X pc lo st g i j cu su := by
  obtain ⟨p, e, R, s, m, args, below, meth, cc⟩ := X
  intro C H locs ls hR hS hl2
  obtain ⟨hx, hb, -, hml, hown, hts, hE, -⟩ := id C
  exact va_gets hx hb (v := .ref (eS E 0)) hE.2.2.2.2.2.2.2.2.2.2.1.2.2.1 hS hown (hts _ hl) (fun _ h => h) d (kk C H locs ls hR hS hl2)
theorem r_gdt {idx : Nat} (d : decode (mB y) pc = .ok (.getstatic idx, 3)) (hl : Cond.fieldLink (mN y).cls idx "java/lang/Integer" "DigitTens" "[B" ∈ lw_good) (kk : zR E y Z X (pc + 3) lo (.ref (eS E 1 + 1) :: st) g i j cu su) : zR E y Z X pc lo st g i j cu su := by
  obtain ⟨p, e, R, s, m, args, below, meth, cc⟩ := X
  intro C H locs ls hR hS hl2
  obtain ⟨hx, hb, -, hml, hown, hts, hE, -⟩ := id C
  exact va_gets hx hb (v := .ref (eS E 1)) hE.2.2.2.2.2.2.2.2.2.2.1.2.2.2.2.1 hS hown (hts _ hl) (fun _ h => h) d (kk C H locs ls hR hS hl2)
theorem r_bdo {k : Nat} (d : decode (mB y) pc = .ok (.baload, 1)) (hk : k < 100) (kk : zR E y Z X (pc + 1) lo (.int (nI (48 + k % 10)) :: st) g i j cu su) : zR E y Z X pc lo (.int (nI k) :: .ref (eS E 0 + 1) :: st) g i j cu su := by
  obtain ⟨p, e, R, s, m, args, below, meth, cc⟩ := X
  intro C H locs ls hR hS hl2
  obtain ⟨hx, hb, -, hml, hown, hts, hE, -⟩ := id C
  exact va_tb hx hb hE.2.2.2.2.2.2.2.2.2.2.1.2.2.2.1 hS (vp_in_nI hk (by decide)) (by rw [nI_clamp (show k < 2 ^ 31 by omega)]; rfl) d (kk C H locs ls hR hS hl2)
theorem r_bdt {k : Nat} (d : decode (mB y) pc = .ok (.baload, 1)) (hk : k < 100) (kk : zR E y Z X (pc + 1) lo (.int (nI (48 + k / 10)) :: st) g i j cu su) : zR E y Z X pc lo (.int (nI k) :: .ref (eS E 1 + 1) :: st) g i j cu su := by
  obtain ⟨p, e, R, s, m, args, below, meth, cc⟩ := X
  intro C H locs ls hR hS hl2
  obtain ⟨hx, hb, -, hml, hown, hts, hE, -⟩ := id C
  exact va_tb hx hb hE.2.2.2.2.2.2.2.2.2.2.1.2.2.2.2.2.1 hS (vp_in_nI hk (by decide)) (by rw [nI_clamp (show k < 2 ^ 31 by omega)]; rfl) d (kk C H locs ls hR hS hl2)
end
theorem iJ5_ensureCapacityInternal_d00df : Cond.instanceMethod (mN mJ5_ensureCapacityInternal_d00df) ∈ lw_good := zmem 1341 (by decide +kernel) (by decide +kernel)
theorem sJ5_ensureCapacityInternal_d00df {E : Ev} : zSel E 5 mJ5_ensureCapacityInternal_d00df := zSel_priv (n := 4) ⟨by decide +kernel, by decide +kernel⟩ (zmem 634 (by decide +kernel) (by decide +kernel)) (by decide +kernel) iJ5_ensureCapacityInternal_d00df (zmem 2344 (by decide +kernel) (by decide +kernel))
theorem iJ5_newCapacity_0f7a4 : Cond.instanceMethod (mN mJ5_newCapacity_0f7a4) ∈ lw_good := zmem 1345 (by decide +kernel) (by decide +kernel)
theorem sJ5_newCapacity_0f7a4 {E : Ev} : zSel E 5 mJ5_newCapacity_0f7a4 := zSel_priv (n := 4) ⟨by decide +kernel, by decide +kernel⟩ (zmem 634 (by decide +kernel) (by decide +kernel)) (by decide +kernel) iJ5_newCapacity_0f7a4 (zmem 2345 (by decide +kernel) (by decide +kernel))
theorem iJ5_isLatin1_aae02 : Cond.instanceMethod (mN mJ5_isLatin1_aae02) ∈ lw_good := zmem 1369 (by decide +kernel) (by decide +kernel)
theorem sJ5_isLatin1_aae02 {E : Ev} : zSel E 5 mJ5_isLatin1_aae02 := zSel_of (zmem 1371 (by decide +kernel) (by decide +kernel))
theorem bJ5_100 : zCB RJ5 100 mJ5_ensureCapacityInternal_d00df 1 := ⟨zmem 1339 (by decide +kernel) (by decide +kernel), zmem 123 (by decide +kernel) (by decide +kernel), zmem 1342 (by decide +kernel) (by decide +kernel), ⟨by decide +kernel, by decide +kernel⟩, by decide +kernel⟩
theorem bJ5_83 : zCB RJ5 83 mJ5_isLatin1_aae02 0 := ⟨zmem 1368 (by decide +kernel) (by decide +kernel), zmem 123 (by decide +kernel) (by decide +kernel), zmem 1372 (by decide +kernel) (by decide +kernel), ⟨by decide +kernel, by decide +kernel⟩, by decide +kernel⟩
theorem bJ5_104 : zCB RJ5 104 mJ5_newCapacity_0f7a4 1 := ⟨zmem 1343 (by decide +kernel) (by decide +kernel), zmem 123 (by decide +kernel) (by decide +kernel), zmem 1346 (by decide +kernel) (by decide +kernel), ⟨by decide +kernel, by decide +kernel⟩, by decide +kernel⟩
theorem uJ4_53 : zCU RJ4 53 mJ5_append_c97b9 1 := ⟨⟨zmem 1427 (by decide +kernel) (by decide +kernel), zmem 123 (by decide +kernel) (by decide +kernel), zmem 1429 (by decide +kernel) (by decide +kernel), ⟨by decide +kernel, by decide +kernel⟩, by decide +kernel⟩, zmem 1428 (by decide +kernel) (by decide +kernel), zmem 2349 (by decide +kernel) (by decide +kernel), zmem 663 (by decide +kernel) (by decide +kernel), by decide +kernel⟩
theorem uJ4_50 : zCU RJ4 50 mJ5_append_3fe6f 1 := ⟨⟨zmem 1568 (by decide +kernel) (by decide +kernel), zmem 123 (by decide +kernel) (by decide +kernel), zmem 1570 (by decide +kernel) (by decide +kernel), ⟨by decide +kernel, by decide +kernel⟩, by decide +kernel⟩, zmem 1569 (by decide +kernel) (by decide +kernel), zmem 2350 (by decide +kernel) (by decide +kernel), zmem 663 (by decide +kernel) (by decide +kernel), by decide +kernel⟩
theorem uJ4_329 : zCU RJ4 329 mJ5_charAt_5068e 1 := ⟨⟨zmem 1591 (by decide +kernel) (by decide +kernel), zmem 123 (by decide +kernel) (by decide +kernel), zmem 1593 (by decide +kernel) (by decide +kernel), ⟨by decide +kernel, by decide +kernel⟩, by decide +kernel⟩, zmem 1592 (by decide +kernel) (by decide +kernel), zmem 2352 (by decide +kernel) (by decide +kernel), zmem 663 (by decide +kernel) (by decide +kernel), by decide +kernel⟩
theorem uJ4_343 : zCU RJ4 343 mJ5_length_8abf5 0 := ⟨⟨zmem 1472 (by decide +kernel) (by decide +kernel), zmem 123 (by decide +kernel) (by decide +kernel), zmem 1473 (by decide +kernel) (by decide +kernel), ⟨by decide +kernel, by decide +kernel⟩, by decide +kernel⟩, zmem 1467 (by decide +kernel) (by decide +kernel), zmem 1468 (by decide +kernel) (by decide +kernel), zmem 663 (by decide +kernel) (by decide +kernel), by decide +kernel⟩
theorem uJ4_333 : zCU RJ4 333 mJ5_setLength_d00df 1 := ⟨⟨zmem 1317 (by decide +kernel) (by decide +kernel), zmem 123 (by decide +kernel) (by decide +kernel), zmem 1319 (by decide +kernel) (by decide +kernel), ⟨by decide +kernel, by decide +kernel⟩, by decide +kernel⟩, zmem 1318 (by decide +kernel) (by decide +kernel), zmem 2341 (by decide +kernel) (by decide +kernel), zmem 663 (by decide +kernel) (by decide +kernel), by decide +kernel⟩
theorem fA_18 : Cond.fieldLink RJ5 18 "java/lang/String" "COMPACT_STRINGS" "Z" ∈ lw_good := zmem 642 (by decide +kernel) (by decide +kernel)
theorem fI_83 : Cond.fieldLink RJ6 83 "java/lang/Integer" "DigitOnes" "[B" ∈ lw_good := zmem 1436 (by decide +kernel) (by decide +kernel)
theorem fI_87 : Cond.fieldLink RJ6 87 "java/lang/Integer" "DigitTens" "[B" ∈ lw_good := zmem 1438 (by decide +kernel) (by decide +kernel)

