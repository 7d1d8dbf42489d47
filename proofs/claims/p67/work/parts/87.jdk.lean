/-! ===== THE BUILDER'S RULES ===== -/
section
variable {E : Ev} {y : Mt} {Z : Fx → State → Prop} {X : Fx} {pc : Nat} {lo st : List Value} {g : Sh} {i : Ni} {j : Nj} {cu su : Nat} {Q : Kp}
/-- y2 is what an object of class c answers with -/
def zSel (E : Ev) (c : Nat) (y2 : Mt) : Prop := ∀ (s : State) (a : Array Value), (∀ w ∈ lw_good, w.before a s = true) → zEnv E s → (Cond.selects (zcl c).1 (mN y2) (mN y2)).before a s = true
theorem zSel_of {c : Nat} {y2 : Mt} (h : Cond.selects (zcl c).1 (mN y2) (mN y2) ∈ lw_good) : zSel E c y2 := fun _ _ hts _ => hts _ h
theorem zSel_priv {c n : Nat} {y2 : Mt} (hy : (mN y2).cls ≠ "java/lang/invoke/MethodHandle" ∧ (mN y2).cls ≠ "java/lang/invoke/VarHandle") (h1 : Cond.instantiable (zcl c).1 n ∈ lw_good) (h2 : mN y2 ∈ zpriv) (h3 : Cond.instanceMethod (mN y2) ∈ lw_good)
    (h4 : Cond.sameMethod (mN y2).cls (mN y2).cls (mN y2).name (mN y2).desc ∈ lw_good) : zSel E c y2 := by
  intro s a hts hE
  obtain ⟨c9, k, hc, hk, -, hniab, -, -⟩ := Cond.instantiable_spec (hts _ h1)
  obtain ⟨mk, methM, hnamed, hmethM, -, -⟩ := Cond.instanceMethod_spec (hts _ h3)
  obtain ⟨cn, ck, r1, hcn, hck, hni, -, -⟩ := Cond.sameMethod_found (hts _ h4)
  have hfound : s.methodFound? (mN y2).cls (mN y2).name (mN y2).desc = some mk := State.methodFound?_of_named hnamed hy
  have hcls : mk.cls = cn := Option.some.inj ((findClass_of_methodNamed hnamed).symm.trans hcn)
  have hsel : selectMethod {} s.vm c9 mk = .method mk := selectMethod_private hmethM (Cond.privateMethod_at (hE.2.2.2.2.2.2.2.2.2.2.1.2.2.2.2.2.2.1 _ h2) mk methM hnamed hmethM)
  simp only [Cond.before, Cond.holds, Cond.value, hc, hfound, hnamed, hsel, hcls, hck]
  simp; exact hni
/-- a virtual call of a method that stands above the object's class -/
theorem r_cvB {y2 : Mt} {as : List Value} {r n c idx cu2 su2 : Nat} {st0 : List Value} (d : decode (mB y) pc = .ok (.invokevirtual idx, 3)) (k : zCB (mN y).cls idx y2 n) (ki : Cond.instanceMethod (mN y2) ∈ lw_good) (ks : zSel E c y2) (hst : st0 = as.reverse ++ .ref r :: st) (hn : as.length = n) (hH : mH y2 = []) (hf : zfit y y2 = true)
    (ht : gT g r = c + 1) (hc6 : c < 6) (hw : Nat.ble ((st.map fun v => v.category).sum) 8 = true) (hcu : cu + (mM y2).cells = cu2) (hsu : su + (mM y2).slots = su2) (hcu2 : Nat.ble cu2 (mM y).cells = true) (hsu2 : Nat.ble su2 (mM y).slots = true)
    (hC : zCon E y2 (.ref r :: as) g i j (zK E y Z X pc lo st cu2 su2)) : zR E y Z X pc lo st0 g i j cu su := by
  subst hcu; subst hsu; subst hst
  obtain ⟨p, e, R, s, m, args, below, meth, cc⟩ := X
  intro C H locs ls hR hS hl
  obtain ⟨hx, hb, -, hml, hown, hts, hE, -, hRm, -⟩ := id C
  obtain ⟨a, rfl⟩ := znz hR ht
  obtain ⟨-, -, cell, q1, q2, q3, -⟩ := hR.1 a c ht (by omega)
  have hcls := (hE.2.1.1 c _ (zcl_at hc6)).2.1
  refine zgo (st := st) (a9 := (cvs (.ref (a + 1) :: as)).toArray) (mc := (mM y2).cells) (ms := (mM y2).slots) ?_ C hS hl
  exact vx_runV (C := (zcl c).1) (n := n) (index := idx) (nL := mL y) (As := cvs as) (b := a) ⟨hx, hb, hml, hown, hts⟩ hC ⟨zcb hH k hts hRm hf, hts _ ki, ks s args hts hE⟩
    ⟨zblind, ⟨cell, q1, by rw [q3]; rfl, by rw [q2]; exact hcls⟩, fun U hU hW => zpre (as := .ref (a + 1) :: as) hE hR hS hU hW⟩ rfl (by rw [← hn]; simp [cvs]) hl.1 (by simp [cvs, cv, zrf, va_rf]) (zroom hw) d ⟨by rw [hRm]; exact Nat.le_of_ble_eq_true hcu2, by rw [hRm]; exact Nat.le_of_ble_eq_true hsu2⟩
/-- a call of the method above -/
def zCU (own : String) (idx : Nat) (y2 : Mt) (n : Nat) : Prop := zCB own idx y2 n ∧ Cond.instanceMethod (mN y2) ∈ lw_good ∧ Cond.sameMethod (mN y2).cls (mN y2).cls (mN y2).name (mN y2).desc ∈ lw_good ∧ Cond.superclass own (mN y2).cls ∈ lw_good ∧ (mN y2).name ≠ "<init>"
theorem r_sup {y2 : Mt} {as : List Value} {r n c idx cu2 su2 : Nat} {st0 : List Value} (d : decode (mB y) pc = .ok (.invokespecial idx, 3)) (k : zCU (mN y).cls idx y2 n) (hst : st0 = as.reverse ++ .ref r :: st) (hn : as.length = n) (hH : mH y2 = []) (hf : zfit y y2 = true)
    (ht : gT g r = c + 1) (hc6 : c < 6) (hw : Nat.ble ((st.map fun v => v.category).sum) 8 = true) (hcu : cu + (mM y2).cells = cu2) (hsu : su + (mM y2).slots = su2) (hcu2 : Nat.ble cu2 (mM y).cells = true) (hsu2 : Nat.ble su2 (mM y).slots = true)
    (hC : zConI E y2 (.ref r :: as) g i j (zK E y Z X pc lo st cu2 su2)) : zR E y Z X pc lo st0 g i j cu su := by
  subst hcu; subst hsu; subst hst
  obtain ⟨p, e, R, s, m, args, below, meth, cc⟩ := X
  intro C H locs ls hR hS hl
  obtain ⟨hx, hb, -, hml, hown, hts, hE, -, hRm, -⟩ := id C
  obtain ⟨a, rfl⟩ := znz hR ht
  obtain ⟨-, -, cell, q1, q2, q3, -⟩ := hR.1 a c ht (by omega)
  have hK9 := (hE.2.1.1 c _ (zcl_at hc6)).2
  obtain ⟨⟨h1, h2, h3, h4, h5⟩, k2, k3, k4, k5⟩ := k
  have hc : zcode y2 = .code (mN y2) (mB y2) (mL y2) (mR y2) := by unfold zcode; rw [hH]
  simp only [zfit, Bool.and_eq_true] at hf
  have hrun := va_runSU (R := R) (s := s) (args := args) (n := n) (index := idx) (nL := mL y) (As := cvs as) (b := a) (rest := cvs st) (H := H) (locs := locs) (cells := cu) (slots := su) (e := e) (below := below) (meth := meth) (g := F0 m pc ls (cvs (as.reverse ++ .ref (a + 1) :: st))) (own := (mN y).cls) hK9 ⟨hx, hb, hml, hown, hts⟩ hC
    ⟨⟨rfl, rfl, by rw [hRm]; exact Nat.le_of_ble_eq_true hf.1, by rw [hRm]; exact Nat.le_of_ble_eq_true hf.2, zwsat hts h3, by rw [← hc]; exact List.mem_cons_self⟩, hts _ h1, hts _ k3, hts _ k4, hts _ k2, hts _ h2, by rw [← hc]; exact hts _ h3, k5, fun sig h => by
      rw [h] at h5
      exact (Option.some.inj h5).symm⟩
    ⟨zblind, ⟨cell, q1, by rw [q3]; rfl, by rw [q2]; exact hK9.1⟩, fun U hU hW => zpre (as := .ref (a + 1) :: as) hE hR hS hU hW⟩ rfl (by rw [← hn]; simp [cvs]) hl.1 (by simp [cvs, cv, zrf, va_rf]) (zroom hw) d ⟨by rw [hRm]; exact Nat.le_of_ble_eq_true hcu2, by rw [hRm]; exact Nat.le_of_ble_eq_true hsu2⟩
  intro T hT Xs
  obtain ⟨v, st₀, t, T', L, h0, X', hL, e1, e2, ⟨v2, g2, i2, j2, hv, hrep, hk, hF⟩, stp⟩ := hrun T hT Xs
  cases Outcome.returned.inj hv
  have hS' := zKeep h0 e1 hS hL hF
  cases v2 with
  | none =>
    obtain ⟨t2, a1, b1⟩ := hk C T'.heap (locs ++ L) ls (by rw [e1]; exact hrep) hS' hl T' rfl X'
    exact ⟨t2, stp t2 a1, b1⟩
  | some v =>
    obtain ⟨t2, a1, b1⟩ := hk C T'.heap (locs ++ L) ls (by rw [e1]; exact hrep) hS' hl T' rfl X'
    exact ⟨t2, stp t2 a1, b1⟩
theorem r_iretI {x : Int32} {ty : FieldType} (d : decode (mB y) pc = .ok (.ireturn, 1)) (hr : mR y = some ty) (hn : narrow ty (.int x) = .int x) (hcu : Nat.ble cu (mM y).cells = true) (hsu : Nat.ble su (mM y).slots = true) (hq : Q (.inl (some (.int x))) g i j) : zR E y (zZI E y Q) X pc lo [.int x] g i j cu su := by
  obtain ⟨p, e, R, s, m, args, below, meth, cc⟩ := X
  intro C H locs ls hR hS hl
  refine W.widen (Nat.le_of_ble_eq_true hcu) (Nat.le_of_ble_eq_true hsu) ?_
  exact W.zret C.1 C.2.1 (C.2.2.1.trans hr) hn (fun t ht _ => ⟨some (.int x), g, i, j, rfl, by rw [ht]; exact hR, hq, hS.F ht⟩) hS.2.2 d C.2.2.2.2.2.2.2.1
theorem r_aretI {x : Nat} {rt : FieldType} (d : decode (mB y) pc = .ok (.areturn, 1)) (hr : mR y = some rt) (hrt : zrefty rt = true) (hcu : Nat.ble cu (mM y).cells = true) (hsu : Nat.ble su (mM y).slots = true) (hq : Q (.inl (some (.ref x))) g i j) : zR E y (zZI E y Q) X pc lo [.ref x] g i j cu su := by
  obtain ⟨p, e, R, s, m, args, below, meth, cc⟩ := X
  intro C H locs ls hR hS hl
  refine W.widen (Nat.le_of_ble_eq_true hcu) (Nat.le_of_ble_eq_true hsu) ?_
  refine W.aret (v := cv (.ref x)) C.1 C.2.1 (C.2.2.1.trans hr) ?_ ?_ (fun t ht _ => ⟨some (.ref x), g, i, j, rfl, by rw [ht]; exact hR, hq, hS.F ht⟩) hS.2.2 d C.2.2.2.2.2.2.2.1
  · cases rt <;> simp [zrefty] at hrt <;> simp
  · cases x with
    | zero => exact Or.inl rfl
    | succ n => exact Or.inr ⟨n, rfl⟩
/-- the digits' tables -/
theorem r_gdo {idx : Nat} (d : decode (mB y) pc = .ok (.getstatic idx, 3)) (hl : Cond.fieldLink (mN y).cls idx "java/lang/Integer" "DigitOnes" "[B" ∈ lw_good) (kk : zR E y Z X (pc + 3) lo (.ref (eS E 0 + 1) :: st) g i j cu su) : zR E y Z X pc lo st g i j cu su := by
  obtain ⟨p, e, R, s, m, args, below, meth, cc⟩ := X
  intro C H locs ls hR hS hl2
  obtain ⟨hx, hb, -, hml, hown, hts, hE, -⟩ := id C
  exact va_gets hx hb (v := .ref (eS E 0)) hE.2.2.2.2.2.2.2.2.2.2.1.2.2.1 hS hown (hts _ hl) (fun _ h => h) d (kk C H locs ls hR hS hl2)
theorem r_gdt {idx : Nat} (d : decode (mB y) pc = .ok (.getstatic idx, 3)) (hl : Cond.fieldLink (mN y).cls idx "java/lang/Integer" "DigitTens" "[B" ∈ lw_good) (kk : zR E y Z X (pc + 3) lo (.ref (eS E 1 + 1) :: st) g i j cu su) : zR E y Z X pc lo st g i j cu su := by
  obtain ⟨p, e, R, s, m, args, below, meth, cc⟩ := X
  intro C H locs ls hR hS hl2
  obtain ⟨hx, hb, -, hml, hown, hts, hE, -⟩ := id C
  exact va_gets hx hb (v := .ref (eS E 1)) hE.2.2.2.2.2.2.2.2.2.2.1.2.2.2.2.1 hS hown (hts _ hl) (fun _ h => h) d (kk C H locs ls hR hS hl2)
theorem r_bdo {k : Nat} (d : decode (mB y) pc = .ok (.baload, 1)) (hk : k < 100) (kk : zR E y Z X (pc + 1) lo (.int (nI (48 + k % 10)) :: st) g i j cu su) : zR E y Z X pc lo (.int (nI k) :: .ref (eS E 0 + 1) :: st) g i j cu su := by
  obtain ⟨p, e, R, s, m, args, below, meth, cc⟩ := X
  intro C H locs ls hR hS hl2
  obtain ⟨hx, hb, -, hml, hown, hts, hE, -⟩ := id C
  exact va_tb hx hb hE.2.2.2.2.2.2.2.2.2.2.1.2.2.2.1 hS (vp_in_nI hk (by decide)) (by rw [nI_clamp (show k < 2 ^ 31 by omega)]; rfl) d (kk C H locs ls hR hS hl2)
theorem r_bdt {k : Nat} (d : decode (mB y) pc = .ok (.baload, 1)) (hk : k < 100) (kk : zR E y Z X (pc + 1) lo (.int (nI (48 + k / 10)) :: st) g i j cu su) : zR E y Z X pc lo (.int (nI k) :: .ref (eS E 1 + 1) :: st) g i j cu su := by
  obtain ⟨p, e, R, s, m, args, below, meth, cc⟩ := X
  intro C H locs ls hR hS hl2
  obtain ⟨hx, hb, -, hml, hown, hts, hE, -⟩ := id C
  exact va_tb hx hb hE.2.2.2.2.2.2.2.2.2.2.1.2.2.2.2.2.1 hS (vp_in_nI hk (by decide)) (by rw [nI_clamp (show k < 2 ^ 31 by omega)]; rfl) d (kk C H locs ls hR hS hl2)
/-- a call by a name that another method answers -/
def zCO (own : String) (idx : Nat) (x y2 : Mt) (n : Nat) : Prop := Cond.methodLink own idx (mN x) ∈ lw_good ∧ Cond.sameMethod (mN x).cls (mN x).cls (mN x).name (mN x).desc ∈ lw_good ∧ Cond.instanceMethod (mN x) ∈ lw_good ∧ zcode x ∈ lw_good ∧ Cond.selects "java/lang/StringBuilder" (mN x) (mN y2) ∈ lw_good ∧ Cond.instanceMethod (mN y2) ∈ lw_good ∧ Cond.initialized (mN y2).cls ∈ lw_good ∧ zcode y2 ∈ lw_good ∧
  ((mN x).cls ≠ "java/lang/invoke/MethodHandle" ∧ (mN x).cls ≠ "java/lang/invoke/VarHandle") ∧ (parseMethodDescriptor (mN x).desc).map (fun d => d.parameters.length) = some n
theorem r_cvO {x y2 : Mt} {as : List Value} {r n idx cu2 su2 : Nat} {st0 : List Value} (d : decode (mB y) pc = .ok (.invokevirtual idx, 3)) (k : zCO (mN y).cls idx x y2 n) (hHx : mH x = []) (hst : st0 = as.reverse ++ .ref r :: st) (hn : as.length = n) (hH : mH y2 = []) (hf : zfit y y2 = true)
    (ht : gT g r = 6) (hw : Nat.ble ((st.map fun v => v.category).sum) 8 = true) (hcu : cu + (mM y2).cells = cu2) (hsu : su + (mM y2).slots = su2) (hcu2 : Nat.ble cu2 (mM y).cells = true) (hsu2 : Nat.ble su2 (mM y).slots = true)
    (hC : zConI E y2 (.ref r :: as) g i j (zK E y Z X pc lo st cu2 su2)) : zR E y Z X pc lo st0 g i j cu su := by
  subst hcu; subst hsu; subst hst
  obtain ⟨p, e, R, s, m, args, below, meth, cc⟩ := X
  intro C H locs ls hR hS hl
  obtain ⟨hx, hb, -, hml, hown, hts, hE, -, hRm, -⟩ := id C
  obtain ⟨a, rfl⟩ := znz (t := 5) hR ht
  obtain ⟨-, -, cell, q1, q2, q3, -⟩ := hR.1 a 5 ht (by omega)
  have hK9 := (hE.2.1.1 5 _ (zcl_at (show 5 < 6 by decide))).2
  obtain ⟨k1, k2, k3, k4, k5, k6, k7, k8, k9, k10⟩ := k
  have hc : zcode y2 = .code (mN y2) (mB y2) (mL y2) (mR y2) := by unfold zcode; rw [hH]
  have hcx : zcode x = .code (mN x) (mB x) (mL x) (mR x) := by unfold zcode; rw [hHx]
  simp only [zfit, Bool.and_eq_true] at hf
  have hrun := va_runU (x := mN x) (owner := (mN x).cls) (C := "java/lang/StringBuilder") (R := R) (s := s) (args := args) (n := n) (index := idx) (nL := mL y) (As := cvs as) (b := a) (rest := cvs st) (H := H) (locs := locs) (cells := cu) (slots := su) (e := e) (below := below) (meth := meth) (g := F0 m pc ls (cvs (as.reverse ++ .ref (a + 1) :: st))) (own := (mN y).cls) ⟨hx, hb, hml, hown, hts⟩ hC
    ⟨⟨rfl, rfl, by rw [hRm]; exact Nat.le_of_ble_eq_true hf.1, by rw [hRm]; exact Nat.le_of_ble_eq_true hf.2, zwsat hts k8, by rw [← hc]; exact List.mem_cons_self⟩, by rw [← hc]; exact hts _ k8, hts _ k7, k9, fun sig h => by
      rw [h] at k10
      exact (Option.some.inj k10).symm, hts _ k1, hts _ k2, va_Decl.of (hts _ k3) (by have := hts _ k4; rw [hcx] at this; exact this), hts _ k5, hts _ k6⟩
    ⟨zblind, ⟨cell, q1, by rw [q3]; rfl, by rw [q2]; exact hK9.1⟩, fun U hU hW => zpre (as := .ref (a + 1) :: as) hE hR hS hU hW⟩ rfl (by rw [← hn]; simp [cvs]) hl.1 (by simp [cvs, cv, zrf, va_rf]) (zroom hw) d ⟨by rw [hRm]; exact Nat.le_of_ble_eq_true hcu2, by rw [hRm]; exact Nat.le_of_ble_eq_true hsu2⟩
  intro T hT Xs
  obtain ⟨v, st₀, t, T', L, h0, X', hL, e1, e2, ⟨v2, g2, i2, j2, hv, hrep, hk, hF⟩, stp⟩ := hrun T hT Xs
  cases Outcome.returned.inj hv
  have hS' := zKeep h0 e1 hS hL hF
  cases v2 with
  | none =>
    obtain ⟨t2, a1, b1⟩ := hk C T'.heap (locs ++ L) ls (by rw [e1]; exact hrep) hS' hl T' rfl X'
    exact ⟨t2, stp t2 a1, b1⟩
  | some v =>
    obtain ⟨t2, a1, b1⟩ := hk C T'.heap (locs ++ L) ls (by rw [e1]; exact hrep) hS' hl T' rfl X'
    exact ⟨t2, stp t2 a1, b1⟩
/-- bytes are cloned -/
theorem r_clone {r n : Nat} {cu2 su2 : Nat} (d : decode (mB y) pc = .ok (.invokevirtual 310, 3)) (hown : (mN y).cls = RJ7) (ht : gT g r = 12) (hL : gL g r = n) (hfit : ∀ k, k < n → fits .byte (.int (i r k)) = true) (hfr : Nat.ble 1 (mM y).frames = true) (hlo : Nat.ble ((st.map fun v => v.category).sum + 14) (mM y).locals = true) (hcu : Nat.ble (cu + 1) (mM y).cells = true) (hsu : Nat.ble (su + n) (mM y).slots = true)
    (kk : ∀ q : Nat, q ≠ 0 → gT g q = 0 → zR E y Z X (pc + 3) lo (.ref q :: st) (wN g q 12 n) (wA i q (i r)) (wB j q (fun _ => 0)) (cu + 1) (su + n)) : zR E y Z X pc lo (.ref r :: st) g i j cu su := by
  obtain ⟨p, e, R, s, m, args, below, meth, cc⟩ := X
  intro C H locs ls hR hS hl
  obtain ⟨hx, hb, -, hml, hown2, hts, hE, -, hRm, -⟩ := id C
  rw [hown] at hown2
  obtain ⟨a, rfl⟩ := znz (t := 11) hR ht
  subst hL
  have hra := (hE.2.1.2 1 _ (zts_at E (show 1 < 6 by decide))).2
  have hnm : s.vm.findClass "[B" = some (eA E 1) := hra
  have hcl : va_Nw (.castable "[B" "java/lang/Cloneable") s := hE.2.2.2.2.2.2.2.2.1 ("[B", "java/lang/Cloneable") (by decide)
  obtain ⟨c0, t0', f1, f2, f3⟩ := Cond.castable_spec (va_Nw.use (A := args) rfl hcl)
  cases hnm.symm.trans f1
  have hc1 : H[a]? = some (vp_cell (eA E 1) (gL g (a + 1), .inl (i (a + 1)))) := zarr (t := 1) hR ht
  have hfr9 := zfresh hR
  intro T hT X
  have hcellT : T.heap[a]? = some (vp_cell (eA E 1) (gL g (a + 1), .inl (i (a + 1)))) := by rw [hT]; exact hc1
  obtain ⟨-, kA, hkA, comp, hkind⟩ := State.isArrayOf_alike X.warmed.alike ((hE.2.1.2 1 _ (zts_at E (show 1 < 6 by decide))).1 (gL g (a + 1)) (fun q => .int (i (a + 1) q)))
  obtain ⟨-, kS, hkS, compS, hkindS⟩ := (hE.2.1.2 1 _ (zts_at E (show 1 < 6 by decide))).1 (gL g (a + 1)) (fun q => .int (i (a + 1) q))
  have hsz : (vp_cell (eA E 1) (gL g (a + 1), .inl (i (a + 1)))).slots.size = gL g (a + 1) := arrV_size _ _ _
  obtain ⟨vm', X', st9⟩ := X.cloneArray hx (own := RJ7) (ad := "[B") (index := 310) hown2 (hts _ kcl_310) (hts _ kcl_s) (hts _ kcl_n) (hts _ kcl_i) (hts _ kcl_e) (a := a) (cell := vp_cell (eA E 1) (gL g (a + 1), .inl (i (a + 1)))) hcellT (fun k h => by cases h) (fun h => by cases h) hnm f2 f3
    (fun z v hv => by
      have hk' : T.vm.classes[eA E 1]? = some kA := hkA
      have hz : z < gL g (a + 1) := by
        have := (Array.getElem?_eq_some_iff.mp hv).1
        rw [hsz] at this
        exact this
      have hv2 : v = .int (i (a + 1) z) := by
        have h3 : (arrV (eA E 1) (gL g (a + 1)) (fun q => .int (i (a + 1) q))).slots[z]? = some v := hv
        rw [arrV_read _ _ hz] at h3
        exact (Option.some.inj h3).symm
      have h4 : fits (zar 1) (.int (i (a + 1) z)) = true := hfit z hz
      rw [← hv2] at h4
      show T.fitsSlot (eA E 1) .none z v = true
      simpa [State.fitsSlot, State.slotType?, hk', hkind] using h4)
    (g := F0 m pc ls (cvs (.ref (a + 1) :: st))) rfl (hl.1.trans hml.symm) (rest := cvs st) rfl (by rw [hb]; exact d) (by rw [hRm]; exact Nat.le_of_ble_eq_true hfr) (by show 2 * 0 + _ + 14 ≤ _; have := zloc hlo hRm; omega) (by rw [hRm]; exact Nat.le_of_ble_eq_true hcu) (by rw [hsz, hRm]; exact Nat.le_of_ble_eq_true hsu) (hloader := Vm.clonesLoader_of_array hkS hkindS)
  rw [hsz] at X'
  have hcellE : ({ cls := (vp_cell (eA E 1) (gL g (a + 1), .inl (i (a + 1)))).cls, slots := (vp_cell (eA E 1) (gL g (a + 1), .inl (i (a + 1)))).slots } : Cell) = vp_cell (eA E 1) (gL g (a + 1), .inl (i (a + 1))) := rfl
  rw [hcellE] at X' st9
  generalize hH1 : H.push (vp_cell (eA E 1) (gL g (a + 1), .inl (i (a + 1)))) = H1
  have z1 : H1.size = H.size + 1 := by rw [← hH1, Array.size_push]
  have e1 : H1[H.size]? = some (vp_cell (eA E 1) (gL g (a + 1), .inl (i (a + 1)))) := by rw [← hH1, Array.getElem?_push_size]
  have o1 : ∀ q : Nat, q < H.size → H1[q]? = H[q]? := fun q hq => by rw [← hH1, Array.getElem?_push, if_neg (Nat.ne_of_lt hq)]
  obtain ⟨t, b1, b2⟩ := kk (H.size + 1) (Nat.succ_ne_zero _) hfr9 C H1 locs ls (hR.grow (tg := 12) (Nat.le_trans hE.2.2.1 hS.1) hfr9 (fun r => rfl) o1 (fun r hr => ⟨wA_n hr, wB_n hr, by rw [gL_wN, if_neg hr], fun k => by rw [gR_wN, if_neg hr]⟩) (fun c2 h5 h6 => by omega) (fun t2 h5 => by
      have : t2 = 1 := by omega
      subst this
      refine ⟨by omega, ?_⟩
      rw [e1, gL_wN, if_pos rfl]
      show _ = some (vp_cell _ (_, .inl (wA i (H.size + 1) _ (H.size + 1))))
      rw [wA_s])) (zS_push hS (by omega) o1) hl
    ((T.setVm vm').pushCell (vp_cell (eA E 1) (gL g (a + 1), .inl (i (a + 1))))) (by rw [← hH1, ← hT]; rfl) X'
  refine ⟨t, st9 t ?_, b2⟩
  rw [hT]
  exact b1
/-- a cast to bytes -/
theorem r_castB {r : Nat} (d : decode (mB y) pc = .ok (.checkcast 311, 3)) (hown : (mN y).cls = RJ7) (ht : gT g r = 12) (kk : zR E y Z X (pc + 3) lo (.ref r :: st) g i j cu su) : zR E y Z X pc lo (.ref r :: st) g i j cu su := by
  obtain ⟨p, e, R, s, m, args, below, meth, cc⟩ := X
  intro C H locs ls hR hS hl
  obtain ⟨hx, hb, -, hml, hown2, hts, hE, -, hRm, -⟩ := id C
  rw [hown] at hown2
  obtain ⟨a, rfl⟩ := znz (t := 11) hR ht
  have hra := (hE.2.1.2 1 _ (zts_at E (show 1 < 6 by decide))).2
  exact va_castA hx hb hown2 (hts _ kcl_311) (zone (t := 1) hR ht) 0 rfl hra d (kk C H locs ls hR hS hl)
end

