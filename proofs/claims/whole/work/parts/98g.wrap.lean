/-! ===== THE LAW'S WRAPPERS ===== -/
/-- what a wrapper makes of an answer: the code f of an exception, or the value in out and 0 -/
def zLk (f : Nat → Option Int32) (ol : Nat) (K : Kp) : Kp := fun r g i j => match r with
  | .inl (some (.int v)) => gT g ol = 14 ∧ gL g ol = 1 ∧ ∀ j' : Nj, j' ol 0 = v.toInt64 → (∀ q, q ≠ ol → j' q = j q) → K (.inl (some (.int (nI 0)))) g i j'
  | .inl _ => False
  | .inr ec => ∃ v, f ec = some v ∧ K (.inl (some (.int v))) g i j
/-- .. of a truth -/
def zLb (f : Nat → Option Int32) (ol : Nat) (K : Kp) : Kp := fun r g i j => match r with
  | .inl (some (.int v)) => (v = nI 0 ∨ v = nI 1) ∧ gT g ol = 14 ∧ gL g ol = 1 ∧ ∀ j' : Nj, j' ol 0 = v.toInt64 → (∀ q, q ≠ ol → j' q = j q) → K (.inl (some (.int (nI 0)))) g i j'
  | .inl _ => False
  | .inr ec => ∃ v, f ec = some v ∧ K (.inl (some (.int v))) g i j
theorem wl_0 {j : Nj} {ol : Nat} {x : Int64} : wB j ol (vp_updL (j ol) (nI 0).toNatClampNeg x) ol 0 = x := by
  rw [wB_s]
  exact if_pos rfl
theorem wl_n {j : Nj} {ol : Nat} {f : Nat → Int64} (q : Nat) (h : q ≠ ol) : wB j ol f q = j q := wB_n h
theorem in_0 {g : Sh} {ol : Nat} (h : gL g ol = 1) : vp_in (nI 0) (gL g ol) := by
  rw [h]
  rintro (h | h)
  · exact absurd h (by decide)
  · exact absurd h (by decide)
theorem cl_13 : Cond.classLink RL 13 "java/lang/IllegalStateException" ∈ lw_good := zmem 809 (by decide +kernel) (by decide +kernel)
theorem cl_19 : Cond.classLink RL 19 "java/lang/IllegalArgumentException" ∈ lw_good := zmem 891 (by decide +kernel) (by decide +kernel)
theorem cl_24 : Cond.classLink RL 24 "java/lang/IndexOutOfBoundsException" ∈ lw_good := zmem 915 (by decide +kernel) (by decide +kernel)
theorem cl_73 : Cond.classLink RL 73 "java/util/NoSuchElementException" ∈ lw_good := zmem 1057 (by decide +kernel) (by decide +kernel)
def lf_0 (ec : Nat) : Option Int32 := if ec = 0 then some (nI 1) else none
set_option maxHeartbeats 4000000 in
set_option maxRecDepth 20000 in
theorem c_L_append {E : Ev} {g : Sh} {i : Ni} {j : Nj} {K : Kp} {c ol : Nat} {a0 a1 a2 a3 a4 : Int32} (ht : gT g c = 4) (h : ∀ K1 : Kp, (∀ r g' i' j', zLk lf_0 ol K r g' i' j' → K1 r g' i' j') → zCon E mX3_append [.ref c, .int a0, .int a1, .int a2, .int a3, .int a4] g i j K1) : zCon E mL_append [.ref c, .int a0, .int a1, .int a2, .int a3, .int a4, .ref ol] g i j K := by
  refine zcon_ofH (by decide +kernel) rfl rfl (lo := [.ref c, .int a0, .int a1, .int a2, .int a3, .int a4, .ref ol, zJ]) rfl (fun X => ?_)
  have Kv : ∀ (v : Int32) (g2 : Sh) (i2 : Ni) (j2 : Nj), gT g2 ol = 14 → gL g2 ol = 1 → (∀ j' : Nj, j' ol 0 = v.toInt64 → (∀ q, q ≠ ol → j' q = j2 q) → K (.inl (some (.int (nI 0)))) g2 i2 j') → zR E mL_append (zZ E mL_append K) X 14 [.ref c, .int a0, .int a1, .int a2, .int a3, .int a4, .ref ol, zJ] [.int v, .int (nI 0), .ref ol] g2 i2 j2 1 6 := by
    intro v g2 i2 j2 t1 t2 hk
    refine r_i2l qL_append_14 ?_
    refine r_last qL_append_15 (by assumption) (in_0 t2) ?_
    refine r_goto (t := 23) qL_append_16 (by decide) ?_
    refine r_iconst (v := nI 0) qL_append_23 (by decide) ?_
    refine r_iret qL_append_24 rfl rfl rfl rfl ?_
    exact hk _ wl_0 wl_n
  have Kx0 : ∀ (r : Nat) (g2 : Sh) (i2 : Ni) (j2 : Nj), K (.inl (some (.int (nI 1)))) g2 i2 j2 → zR E mL_append (zZ E mL_append K) X 19 [.ref c, .int a0, .int a1, .int a2, .int a3, .int a4, .ref ol, zJ] [.ref r] g2 i2 j2 1 6 := by
    intro r g2 i2 j2 hk
    refine r_as_8_7 qL_append_19 rfl rfl ?_
    refine r_iconst (v := nI 1) qL_append_21 (by decide) ?_
    refine r_iret qL_append_22 rfl rfl rfl rfl ?_
    exact hk
  refine r_aload qL_append_0 rfl ?_
  refine r_iconst (v := nI 0) qL_append_2 (by decide) ?_
  refine r_aload_n qL_append_3 rfl ?_
  refine r_iload_n qL_append_4 rfl ?_
  refine r_iload_n qL_append_5 rfl ?_
  refine r_iload_n qL_append_6 rfl ?_
  refine r_iload qL_append_7 rfl ?_
  refine r_iload qL_append_9 rfl ?_
  refine r_cv5 (cu2 := 1) (su2 := 6) qL_append_11 kL_7 rfl (by decide +kernel) (c := 3) (by assumption) (by decide) rfl rfl rfl rfl rfl rfl ?_
  refine h _ (fun r g2 i2 j2 hk => ?_)
  rcases r with (_ | v) | ec
  · exact hk.elim
  · cases v with
    | int v =>
      show zR E _ _ X 14 _ _ _ _ _ _ _
      exact Kv v g2 i2 j2 hk.1 hk.2.1 hk.2.2
    | _ => exact hk.elim
  · show zT E _ _ X _ _ _ _ _ _ _ _
    obtain ⟨v, hf, hk⟩ := hk
    by_cases h0 : ec = 0
    · subst h0
      cases (show some (nI 1) = some v from hf)
      exact t_catch (pre := []) (x := (0, 16, 19, 13)) (suf := []) rfl (fun z hz => absurd hz List.not_mem_nil) (by decide) (by decide) cl_13 (by decide) (fun r => Kx0 r g2 i2 j2 hk)
    rw [lf_0, if_neg h0] at hf
    cases hf
def lf_2 (ec : Nat) : Option Int32 := if ec = 2 then some (nI 1) else none
set_option maxHeartbeats 4000000 in
set_option maxRecDepth 20000 in
theorem c_L_bathDegrees {E : Ev} {g : Sh} {i : Ni} {j : Nj} {K : Kp} {c ol : Nat} {a0 : Int32} (ht : gT g c = 4) (h : ∀ K1 : Kp, (∀ r g' i' j', zLk lf_2 ol K r g' i' j' → K1 r g' i' j') → zCon E mX3_bathDegrees [.ref c, .int a0] g i j K1) : zCon E mL_bathDegrees [.ref c, .int a0, .ref ol] g i j K := by
  refine zcon_ofH (by decide +kernel) rfl rfl (lo := [.ref c, .int a0, .ref ol, zJ]) rfl (fun X => ?_)
  have Kv : ∀ (v : Int32) (g2 : Sh) (i2 : Ni) (j2 : Nj), gT g2 ol = 14 → gL g2 ol = 1 → (∀ j' : Nj, j' ol 0 = v.toInt64 → (∀ q, q ≠ ol → j' q = j2 q) → K (.inl (some (.int (nI 0)))) g2 i2 j') → zR E mL_bathDegrees (zZ E mL_bathDegrees K) X 7 [.ref c, .int a0, .ref ol, zJ] [.int v, .int (nI 0), .ref ol] g2 i2 j2 1 6 := by
    intro v g2 i2 j2 t1 t2 hk
    refine r_i2l qL_bathDegrees_7 ?_
    refine r_last qL_bathDegrees_8 (by assumption) (in_0 t2) ?_
    refine r_goto (t := 15) qL_bathDegrees_9 (by decide) ?_
    refine r_iconst (v := nI 0) qL_bathDegrees_15 (by decide) ?_
    refine r_iret qL_bathDegrees_16 rfl rfl rfl rfl ?_
    exact hk _ wl_0 wl_n
  have Kx0 : ∀ (r : Nat) (g2 : Sh) (i2 : Ni) (j2 : Nj), K (.inl (some (.int (nI 1)))) g2 i2 j2 → zR E mL_bathDegrees (zZ E mL_bathDegrees K) X 12 [.ref c, .int a0, .ref ol, zJ] [.ref r] g2 i2 j2 1 6 := by
    intro r g2 i2 j2 hk
    refine r_as_4_3 qL_bathDegrees_12 rfl rfl ?_
    refine r_iconst (v := nI 1) qL_bathDegrees_13 (by decide) ?_
    refine r_iret qL_bathDegrees_14 rfl rfl rfl rfl ?_
    exact hk
  refine r_aload_n qL_bathDegrees_0 rfl ?_
  refine r_iconst (v := nI 0) qL_bathDegrees_1 (by decide) ?_
  refine r_aload_n qL_bathDegrees_2 rfl ?_
  refine r_iload_n qL_bathDegrees_3 rfl ?_
  refine r_cv1 (cu2 := 1) (su2 := 6) qL_bathDegrees_4 kL_21 rfl (by decide +kernel) (c := 3) (by assumption) (by decide) rfl rfl rfl rfl rfl rfl ?_
  refine h _ (fun r g2 i2 j2 hk => ?_)
  rcases r with (_ | v) | ec
  · exact hk.elim
  · cases v with
    | int v =>
      show zR E _ _ X 7 _ _ _ _ _ _ _
      exact Kv v g2 i2 j2 hk.1 hk.2.1 hk.2.2
    | _ => exact hk.elim
  · show zT E _ _ X _ _ _ _ _ _ _ _
    obtain ⟨v, hf, hk⟩ := hk
    by_cases h2 : ec = 2
    · subst h2
      cases (show some (nI 1) = some v from hf)
      exact t_catch (pre := []) (x := (0, 9, 12, 24)) (suf := []) rfl (fun z hz => absurd hz List.not_mem_nil) (by decide) (by decide) cl_24 (by decide) (fun r => Kx0 r g2 i2 j2 hk)
    rw [lf_2, if_neg h2] at hf
    cases hf
set_option maxHeartbeats 4000000 in
set_option maxRecDepth 20000 in
theorem c_L_bathOf {E : Ev} {g : Sh} {i : Ni} {j : Nj} {K : Kp} {c ol : Nat} {a0 : Int32} (ht : gT g c = 4) (h : ∀ K1 : Kp, (∀ r g' i' j', zLk lf_2 ol K r g' i' j' → K1 r g' i' j') → zCon E mX3_bathOf [.ref c, .int a0] g i j K1) : zCon E mL_bathOf [.ref c, .int a0, .ref ol] g i j K := by
  refine zcon_ofH (by decide +kernel) rfl rfl (lo := [.ref c, .int a0, .ref ol, zJ]) rfl (fun X => ?_)
  have Kv : ∀ (v : Int32) (g2 : Sh) (i2 : Ni) (j2 : Nj), gT g2 ol = 14 → gL g2 ol = 1 → (∀ j' : Nj, j' ol 0 = v.toInt64 → (∀ q, q ≠ ol → j' q = j2 q) → K (.inl (some (.int (nI 0)))) g2 i2 j') → zR E mL_bathOf (zZ E mL_bathOf K) X 7 [.ref c, .int a0, .ref ol, zJ] [.int v, .int (nI 0), .ref ol] g2 i2 j2 1 6 := by
    intro v g2 i2 j2 t1 t2 hk
    refine r_i2l qL_bathOf_7 ?_
    refine r_last qL_bathOf_8 (by assumption) (in_0 t2) ?_
    refine r_goto (t := 15) qL_bathOf_9 (by decide) ?_
    refine r_iconst (v := nI 0) qL_bathOf_15 (by decide) ?_
    refine r_iret qL_bathOf_16 rfl rfl rfl rfl ?_
    exact hk _ wl_0 wl_n
  have Kx0 : ∀ (r : Nat) (g2 : Sh) (i2 : Ni) (j2 : Nj), K (.inl (some (.int (nI 1)))) g2 i2 j2 → zR E mL_bathOf (zZ E mL_bathOf K) X 12 [.ref c, .int a0, .ref ol, zJ] [.ref r] g2 i2 j2 1 6 := by
    intro r g2 i2 j2 hk
    refine r_as_4_3 qL_bathOf_12 rfl rfl ?_
    refine r_iconst (v := nI 1) qL_bathOf_13 (by decide) ?_
    refine r_iret qL_bathOf_14 rfl rfl rfl rfl ?_
    exact hk
  refine r_aload_n qL_bathOf_0 rfl ?_
  refine r_iconst (v := nI 0) qL_bathOf_1 (by decide) ?_
  refine r_aload_n qL_bathOf_2 rfl ?_
  refine r_iload_n qL_bathOf_3 rfl ?_
  refine r_cv1 (cu2 := 1) (su2 := 6) qL_bathOf_4 kL_54 rfl (by decide +kernel) (c := 3) (by assumption) (by decide) rfl rfl rfl rfl rfl rfl ?_
  refine h _ (fun r g2 i2 j2 hk => ?_)
  rcases r with (_ | v) | ec
  · exact hk.elim
  · cases v with
    | int v =>
      show zR E _ _ X 7 _ _ _ _ _ _ _
      exact Kv v g2 i2 j2 hk.1 hk.2.1 hk.2.2
    | _ => exact hk.elim
  · show zT E _ _ X _ _ _ _ _ _ _ _
    obtain ⟨v, hf, hk⟩ := hk
    by_cases h2 : ec = 2
    · subst h2
      cases (show some (nI 1) = some v from hf)
      exact t_catch (pre := []) (x := (0, 9, 12, 24)) (suf := []) rfl (fun z hz => absurd hz List.not_mem_nil) (by decide) (by decide) cl_24 (by decide) (fun r => Kx0 r g2 i2 j2 hk)
    rw [lf_2, if_neg h2] at hf
    cases hf
set_option maxHeartbeats 4000000 in
set_option maxRecDepth 20000 in
theorem c_L_bathsToMark {E : Ev} {g : Sh} {i : Ni} {j : Nj} {K : Kp} {c ol : Nat} {a0 : Int32} (ht : gT g c = 4) (h : ∀ K1 : Kp, (∀ r g' i' j', zLk lf_2 ol K r g' i' j' → K1 r g' i' j') → zCon E mX3_bathsToMark [.ref c, .int a0] g i j K1) : zCon E mL_bathsToMark [.ref c, .int a0, .ref ol] g i j K := by
  refine zcon_ofH (by decide +kernel) rfl rfl (lo := [.ref c, .int a0, .ref ol, zJ]) rfl (fun X => ?_)
  have Kv : ∀ (v : Int32) (g2 : Sh) (i2 : Ni) (j2 : Nj), gT g2 ol = 14 → gL g2 ol = 1 → (∀ j' : Nj, j' ol 0 = v.toInt64 → (∀ q, q ≠ ol → j' q = j2 q) → K (.inl (some (.int (nI 0)))) g2 i2 j') → zR E mL_bathsToMark (zZ E mL_bathsToMark K) X 7 [.ref c, .int a0, .ref ol, zJ] [.int v, .int (nI 0), .ref ol] g2 i2 j2 1 6 := by
    intro v g2 i2 j2 t1 t2 hk
    refine r_i2l qL_bathsToMark_7 ?_
    refine r_last qL_bathsToMark_8 (by assumption) (in_0 t2) ?_
    refine r_goto (t := 15) qL_bathsToMark_9 (by decide) ?_
    refine r_iconst (v := nI 0) qL_bathsToMark_15 (by decide) ?_
    refine r_iret qL_bathsToMark_16 rfl rfl rfl rfl ?_
    exact hk _ wl_0 wl_n
  have Kx0 : ∀ (r : Nat) (g2 : Sh) (i2 : Ni) (j2 : Nj), K (.inl (some (.int (nI 1)))) g2 i2 j2 → zR E mL_bathsToMark (zZ E mL_bathsToMark K) X 12 [.ref c, .int a0, .ref ol, zJ] [.ref r] g2 i2 j2 1 6 := by
    intro r g2 i2 j2 hk
    refine r_as_4_3 qL_bathsToMark_12 rfl rfl ?_
    refine r_iconst (v := nI 1) qL_bathsToMark_13 (by decide) ?_
    refine r_iret qL_bathsToMark_14 rfl rfl rfl rfl ?_
    exact hk
  refine r_aload_n qL_bathsToMark_0 rfl ?_
  refine r_iconst (v := nI 0) qL_bathsToMark_1 (by decide) ?_
  refine r_aload_n qL_bathsToMark_2 rfl ?_
  refine r_iload_n qL_bathsToMark_3 rfl ?_
  refine r_cv1 (cu2 := 1) (su2 := 6) qL_bathsToMark_4 kL_123 rfl (by decide +kernel) (c := 3) (by assumption) (by decide) rfl rfl rfl rfl rfl rfl ?_
  refine h _ (fun r g2 i2 j2 hk => ?_)
  rcases r with (_ | v) | ec
  · exact hk.elim
  · cases v with
    | int v =>
      show zR E _ _ X 7 _ _ _ _ _ _ _
      exact Kv v g2 i2 j2 hk.1 hk.2.1 hk.2.2
    | _ => exact hk.elim
  · show zT E _ _ X _ _ _ _ _ _ _ _
    obtain ⟨v, hf, hk⟩ := hk
    by_cases h2 : ec = 2
    · subst h2
      cases (show some (nI 1) = some v from hf)
      exact t_catch (pre := []) (x := (0, 9, 12, 24)) (suf := []) rfl (fun z hz => absurd hz List.not_mem_nil) (by decide) (by decide) cl_24 (by decide) (fun r => Kx0 r g2 i2 j2 hk)
    rw [lf_2, if_neg h2] at hf
    cases hf
def lf_20 (ec : Nat) : Option Int32 := if ec = 2 then some (nI 1) else if ec = 0 then some (nI 2) else none
set_option maxHeartbeats 4000000 in
set_option maxRecDepth 20000 in
theorem c_L_dip {E : Ev} {g : Sh} {i : Ni} {j : Nj} {K : Kp} {c ol : Nat} {a0 a1 : Int32} (ht : gT g c = 4) (h : ∀ K1 : Kp, (∀ r g' i' j', zLk lf_20 ol K r g' i' j' → K1 r g' i' j') → zCon E mX3_dip [.ref c, .int a0, .int a1] g i j K1) : zCon E mL_dip [.ref c, .int a0, .int a1, .ref ol] g i j K := by
  refine zcon_ofH (by decide +kernel) rfl rfl (lo := [.ref c, .int a0, .int a1, .ref ol, zJ]) rfl (fun X => ?_)
  have Kv : ∀ (v : Int32) (g2 : Sh) (i2 : Ni) (j2 : Nj), gT g2 ol = 14 → gL g2 ol = 1 → (∀ j' : Nj, j' ol 0 = v.toInt64 → (∀ q, q ≠ ol → j' q = j2 q) → K (.inl (some (.int (nI 0)))) g2 i2 j') → zR E mL_dip (zZ E mL_dip K) X 8 [.ref c, .int a0, .int a1, .ref ol, zJ] [.int v, .int (nI 0), .ref ol] g2 i2 j2 3 18 := by
    intro v g2 i2 j2 t1 t2 hk
    refine r_i2l qL_dip_8 ?_
    refine r_last qL_dip_9 (by assumption) (in_0 t2) ?_
    refine r_goto (t := 21) qL_dip_10 (by decide) ?_
    refine r_iconst (v := nI 0) qL_dip_21 (by decide) ?_
    refine r_iret qL_dip_22 rfl rfl rfl rfl ?_
    exact hk _ wl_0 wl_n
  have Kx0 : ∀ (r : Nat) (g2 : Sh) (i2 : Ni) (j2 : Nj), K (.inl (some (.int (nI 1)))) g2 i2 j2 → zR E mL_dip (zZ E mL_dip K) X 13 [.ref c, .int a0, .int a1, .ref ol, zJ] [.ref r] g2 i2 j2 3 18 := by
    intro r g2 i2 j2 hk
    refine r_as_5_4 qL_dip_13 rfl rfl ?_
    refine r_iconst (v := nI 1) qL_dip_15 (by decide) ?_
    refine r_iret qL_dip_16 rfl rfl rfl rfl ?_
    exact hk
  have Kx1 : ∀ (r : Nat) (g2 : Sh) (i2 : Ni) (j2 : Nj), K (.inl (some (.int (nI 2)))) g2 i2 j2 → zR E mL_dip (zZ E mL_dip K) X 17 [.ref c, .int a0, .int a1, .ref ol, zJ] [.ref r] g2 i2 j2 3 18 := by
    intro r g2 i2 j2 hk
    refine r_as_5_4 qL_dip_17 rfl rfl ?_
    refine r_iconst (v := nI 2) qL_dip_19 (by decide) ?_
    refine r_iret qL_dip_20 rfl rfl rfl rfl ?_
    exact hk
  refine r_aload_n qL_dip_0 rfl ?_
  refine r_iconst (v := nI 0) qL_dip_1 (by decide) ?_
  refine r_aload_n qL_dip_2 rfl ?_
  refine r_iload_n qL_dip_3 rfl ?_
  refine r_iload_n qL_dip_4 rfl ?_
  refine r_cv2 (cu2 := 3) (su2 := 18) qL_dip_5 kL_126 rfl (by decide +kernel) (c := 3) (by assumption) (by decide) rfl rfl rfl rfl rfl rfl ?_
  refine h _ (fun r g2 i2 j2 hk => ?_)
  rcases r with (_ | v) | ec
  · exact hk.elim
  · cases v with
    | int v =>
      show zR E _ _ X 8 _ _ _ _ _ _ _
      exact Kv v g2 i2 j2 hk.1 hk.2.1 hk.2.2
    | _ => exact hk.elim
  · show zT E _ _ X _ _ _ _ _ _ _ _
    obtain ⟨v, hf, hk⟩ := hk
    by_cases h2 : ec = 2
    · subst h2
      cases (show some (nI 1) = some v from hf)
      exact t_catch (pre := []) (x := (0, 10, 13, 24)) (suf := [(0, 10, 17, 13)]) rfl (fun z hz => absurd hz List.not_mem_nil) (by decide) (by decide) cl_24 (by decide) (fun r => Kx0 r g2 i2 j2 hk)
    by_cases h0 : ec = 0
    · subst h0
      cases (show some (nI 2) = some v from hf)
      exact t_catch (pre := [(0, 10, 13, 24)]) (x := (0, 10, 17, 13)) (suf := []) rfl (List.forall_mem_cons.mpr ⟨⟨by decide, _, cl_24, by decide⟩, List.forall_mem_nil _⟩) (by decide) (by decide) cl_13 (by decide) (fun r => Kx1 r g2 i2 j2 hk)
    rw [lf_20, if_neg h2, if_neg h0] at hf
    cases hf
set_option maxHeartbeats 4000000 in
set_option maxRecDepth 20000 in
theorem c_L_dipRefusal {E : Ev} {g : Sh} {i : Ni} {j : Nj} {K : Kp} {c ol : Nat} {a0 a1 : Int32} (ht : gT g c = 4) (h : ∀ K1 : Kp, (∀ r g' i' j', zLk lf_2 ol K r g' i' j' → K1 r g' i' j') → zCon E mX3_dipRefusal [.ref c, .int a0, .int a1] g i j K1) : zCon E mL_dipRefusal [.ref c, .int a0, .int a1, .ref ol] g i j K := by
  refine zcon_ofH (by decide +kernel) rfl rfl (lo := [.ref c, .int a0, .int a1, .ref ol, zJ]) rfl (fun X => ?_)
  have Kv : ∀ (v : Int32) (g2 : Sh) (i2 : Ni) (j2 : Nj), gT g2 ol = 14 → gL g2 ol = 1 → (∀ j' : Nj, j' ol 0 = v.toInt64 → (∀ q, q ≠ ol → j' q = j2 q) → K (.inl (some (.int (nI 0)))) g2 i2 j') → zR E mL_dipRefusal (zZ E mL_dipRefusal K) X 8 [.ref c, .int a0, .int a1, .ref ol, zJ] [.int v, .int (nI 0), .ref ol] g2 i2 j2 2 12 := by
    intro v g2 i2 j2 t1 t2 hk
    refine r_i2l qL_dipRefusal_8 ?_
    refine r_last qL_dipRefusal_9 (by assumption) (in_0 t2) ?_
    refine r_goto (t := 17) qL_dipRefusal_10 (by decide) ?_
    refine r_iconst (v := nI 0) qL_dipRefusal_17 (by decide) ?_
    refine r_iret qL_dipRefusal_18 rfl rfl rfl rfl ?_
    exact hk _ wl_0 wl_n
  have Kx0 : ∀ (r : Nat) (g2 : Sh) (i2 : Ni) (j2 : Nj), K (.inl (some (.int (nI 1)))) g2 i2 j2 → zR E mL_dipRefusal (zZ E mL_dipRefusal K) X 13 [.ref c, .int a0, .int a1, .ref ol, zJ] [.ref r] g2 i2 j2 2 12 := by
    intro r g2 i2 j2 hk
    refine r_as_5_4 qL_dipRefusal_13 rfl rfl ?_
    refine r_iconst (v := nI 1) qL_dipRefusal_15 (by decide) ?_
    refine r_iret qL_dipRefusal_16 rfl rfl rfl rfl ?_
    exact hk
  refine r_aload_n qL_dipRefusal_0 rfl ?_
  refine r_iconst (v := nI 0) qL_dipRefusal_1 (by decide) ?_
  refine r_aload_n qL_dipRefusal_2 rfl ?_
  refine r_iload_n qL_dipRefusal_3 rfl ?_
  refine r_iload_n qL_dipRefusal_4 rfl ?_
  refine r_cv2 (cu2 := 2) (su2 := 12) qL_dipRefusal_5 kL_96 rfl (by decide +kernel) (c := 3) (by assumption) (by decide) rfl rfl rfl rfl rfl rfl ?_
  refine h _ (fun r g2 i2 j2 hk => ?_)
  rcases r with (_ | v) | ec
  · exact hk.elim
  · cases v with
    | int v =>
      show zR E _ _ X 8 _ _ _ _ _ _ _
      exact Kv v g2 i2 j2 hk.1 hk.2.1 hk.2.2
    | _ => exact hk.elim
  · show zT E _ _ X _ _ _ _ _ _ _ _
    obtain ⟨v, hf, hk⟩ := hk
    by_cases h2 : ec = 2
    · subst h2
      cases (show some (nI 1) = some v from hf)
      exact t_catch (pre := []) (x := (0, 10, 13, 24)) (suf := []) rfl (fun z hz => absurd hz List.not_mem_nil) (by decide) (by decide) cl_24 (by decide) (fun r => Kx0 r g2 i2 j2 hk)
    rw [lf_2, if_neg h2] at hf
    cases hf
def lf_23 (ec : Nat) : Option Int32 := if ec = 2 then some (nI 1) else if ec = 3 then some (nI 2) else none
set_option maxHeartbeats 4000000 in
set_option maxRecDepth 20000 in
theorem c_L_disagreement {E : Ev} {g : Sh} {i : Ni} {j : Nj} {K : Kp} {c ol : Nat} {a0 a1 : Int32} (ht : gT g c = 4) (h : ∀ K1 : Kp, (∀ r g' i' j', zLk lf_23 ol K r g' i' j' → K1 r g' i' j') → zCon E mX3_disagreement [.ref c, .int a0, .int a1] g i j K1) : zCon E mL_disagreement [.ref c, .int a0, .int a1, .ref ol] g i j K := by
  refine zcon_ofH (by decide +kernel) rfl rfl (lo := [.ref c, .int a0, .int a1, .ref ol, zJ]) rfl (fun X => ?_)
  have Kv : ∀ (v : Int32) (g2 : Sh) (i2 : Ni) (j2 : Nj), gT g2 ol = 14 → gL g2 ol = 1 → (∀ j' : Nj, j' ol 0 = v.toInt64 → (∀ q, q ≠ ol → j' q = j2 q) → K (.inl (some (.int (nI 0)))) g2 i2 j') → zR E mL_disagreement (zZ E mL_disagreement K) X 8 [.ref c, .int a0, .int a1, .ref ol, zJ] [.int v, .int (nI 0), .ref ol] g2 i2 j2 4 24 := by
    intro v g2 i2 j2 t1 t2 hk
    refine r_i2l qL_disagreement_8 ?_
    refine r_last qL_disagreement_9 (by assumption) (in_0 t2) ?_
    refine r_goto (t := 21) qL_disagreement_10 (by decide) ?_
    refine r_iconst (v := nI 0) qL_disagreement_21 (by decide) ?_
    refine r_iret qL_disagreement_22 rfl rfl rfl rfl ?_
    exact hk _ wl_0 wl_n
  have Kx0 : ∀ (r : Nat) (g2 : Sh) (i2 : Ni) (j2 : Nj), K (.inl (some (.int (nI 1)))) g2 i2 j2 → zR E mL_disagreement (zZ E mL_disagreement K) X 13 [.ref c, .int a0, .int a1, .ref ol, zJ] [.ref r] g2 i2 j2 4 24 := by
    intro r g2 i2 j2 hk
    refine r_as_5_4 qL_disagreement_13 rfl rfl ?_
    refine r_iconst (v := nI 1) qL_disagreement_15 (by decide) ?_
    refine r_iret qL_disagreement_16 rfl rfl rfl rfl ?_
    exact hk
  have Kx1 : ∀ (r : Nat) (g2 : Sh) (i2 : Ni) (j2 : Nj), K (.inl (some (.int (nI 2)))) g2 i2 j2 → zR E mL_disagreement (zZ E mL_disagreement K) X 17 [.ref c, .int a0, .int a1, .ref ol, zJ] [.ref r] g2 i2 j2 4 24 := by
    intro r g2 i2 j2 hk
    refine r_as_5_4 qL_disagreement_17 rfl rfl ?_
    refine r_iconst (v := nI 2) qL_disagreement_19 (by decide) ?_
    refine r_iret qL_disagreement_20 rfl rfl rfl rfl ?_
    exact hk
  refine r_aload_n qL_disagreement_0 rfl ?_
  refine r_iconst (v := nI 0) qL_disagreement_1 (by decide) ?_
  refine r_aload_n qL_disagreement_2 rfl ?_
  refine r_iload_n qL_disagreement_3 rfl ?_
  refine r_iload_n qL_disagreement_4 rfl ?_
  refine r_cv2 (cu2 := 4) (su2 := 24) qL_disagreement_5 kL_117 rfl (by decide +kernel) (c := 3) (by assumption) (by decide) rfl rfl rfl rfl rfl rfl ?_
  refine h _ (fun r g2 i2 j2 hk => ?_)
  rcases r with (_ | v) | ec
  · exact hk.elim
  · cases v with
    | int v =>
      show zR E _ _ X 8 _ _ _ _ _ _ _
      exact Kv v g2 i2 j2 hk.1 hk.2.1 hk.2.2
    | _ => exact hk.elim
  · show zT E _ _ X _ _ _ _ _ _ _ _
    obtain ⟨v, hf, hk⟩ := hk
    by_cases h2 : ec = 2
    · subst h2
      cases (show some (nI 1) = some v from hf)
      exact t_catch (pre := []) (x := (0, 10, 13, 24)) (suf := [(0, 10, 17, 73)]) rfl (fun z hz => absurd hz List.not_mem_nil) (by decide) (by decide) cl_24 (by decide) (fun r => Kx0 r g2 i2 j2 hk)
    by_cases h3 : ec = 3
    · subst h3
      cases (show some (nI 2) = some v from hf)
      exact t_catch (pre := [(0, 10, 13, 24)]) (x := (0, 10, 17, 73)) (suf := []) rfl (List.forall_mem_cons.mpr ⟨⟨by decide, _, cl_24, by decide⟩, List.forall_mem_nil _⟩) (by decide) (by decide) cl_73 (by decide) (fun r => Kx1 r g2 i2 j2 hk)
    rw [lf_23, if_neg h2, if_neg h3] at hf
    cases hf
set_option maxHeartbeats 4000000 in
set_option maxRecDepth 20000 in
theorem c_L_erasePoint {E : Ev} {g : Sh} {i : Ni} {j : Nj} {K : Kp} {c ol : Nat} {a0 a1 : Int32} (ht : gT g c = 4) (h : ∀ K1 : Kp, (∀ r g' i' j', zLk lf_23 ol K r g' i' j' → K1 r g' i' j') → zCon E mX3_erasePoint [.ref c, .int a0, .int a1] g i j K1) : zCon E mL_erasePoint [.ref c, .int a0, .int a1, .ref ol] g i j K := by
  refine zcon_ofH (by decide +kernel) rfl rfl (lo := [.ref c, .int a0, .int a1, .ref ol, zJ]) rfl (fun X => ?_)
  have Kv : ∀ (v : Int32) (g2 : Sh) (i2 : Ni) (j2 : Nj), gT g2 ol = 14 → gL g2 ol = 1 → (∀ j' : Nj, j' ol 0 = v.toInt64 → (∀ q, q ≠ ol → j' q = j2 q) → K (.inl (some (.int (nI 0)))) g2 i2 j') → zR E mL_erasePoint (zZ E mL_erasePoint K) X 8 [.ref c, .int a0, .int a1, .ref ol, zJ] [.int v, .int (nI 0), .ref ol] g2 i2 j2 2 12 := by
    intro v g2 i2 j2 t1 t2 hk
    refine r_i2l qL_erasePoint_8 ?_
    refine r_last qL_erasePoint_9 (by assumption) (in_0 t2) ?_
    refine r_goto (t := 21) qL_erasePoint_10 (by decide) ?_
    refine r_iconst (v := nI 0) qL_erasePoint_21 (by decide) ?_
    refine r_iret qL_erasePoint_22 rfl rfl rfl rfl ?_
    exact hk _ wl_0 wl_n
  have Kx0 : ∀ (r : Nat) (g2 : Sh) (i2 : Ni) (j2 : Nj), K (.inl (some (.int (nI 1)))) g2 i2 j2 → zR E mL_erasePoint (zZ E mL_erasePoint K) X 13 [.ref c, .int a0, .int a1, .ref ol, zJ] [.ref r] g2 i2 j2 2 12 := by
    intro r g2 i2 j2 hk
    refine r_as_5_4 qL_erasePoint_13 rfl rfl ?_
    refine r_iconst (v := nI 1) qL_erasePoint_15 (by decide) ?_
    refine r_iret qL_erasePoint_16 rfl rfl rfl rfl ?_
    exact hk
  have Kx1 : ∀ (r : Nat) (g2 : Sh) (i2 : Ni) (j2 : Nj), K (.inl (some (.int (nI 2)))) g2 i2 j2 → zR E mL_erasePoint (zZ E mL_erasePoint K) X 17 [.ref c, .int a0, .int a1, .ref ol, zJ] [.ref r] g2 i2 j2 2 12 := by
    intro r g2 i2 j2 hk
    refine r_as_5_4 qL_erasePoint_17 rfl rfl ?_
    refine r_iconst (v := nI 2) qL_erasePoint_19 (by decide) ?_
    refine r_iret qL_erasePoint_20 rfl rfl rfl rfl ?_
    exact hk
  refine r_aload_n qL_erasePoint_0 rfl ?_
  refine r_iconst (v := nI 0) qL_erasePoint_1 (by decide) ?_
  refine r_aload_n qL_erasePoint_2 rfl ?_
  refine r_iload_n qL_erasePoint_3 rfl ?_
  refine r_iload_n qL_erasePoint_4 rfl ?_
  refine r_cv2 (cu2 := 2) (su2 := 12) qL_erasePoint_5 kL_135 rfl (by decide +kernel) (c := 3) (by assumption) (by decide) rfl rfl rfl rfl rfl rfl ?_
  refine h _ (fun r g2 i2 j2 hk => ?_)
  rcases r with (_ | v) | ec
  · exact hk.elim
  · cases v with
    | int v =>
      show zR E _ _ X 8 _ _ _ _ _ _ _
      exact Kv v g2 i2 j2 hk.1 hk.2.1 hk.2.2
    | _ => exact hk.elim
  · show zT E _ _ X _ _ _ _ _ _ _ _
    obtain ⟨v, hf, hk⟩ := hk
    by_cases h2 : ec = 2
    · subst h2
      cases (show some (nI 1) = some v from hf)
      exact t_catch (pre := []) (x := (0, 10, 13, 24)) (suf := [(0, 10, 17, 73)]) rfl (fun z hz => absurd hz List.not_mem_nil) (by decide) (by decide) cl_24 (by decide) (fun r => Kx0 r g2 i2 j2 hk)
    by_cases h3 : ec = 3
    · subst h3
      cases (show some (nI 2) = some v from hf)
      exact t_catch (pre := [(0, 10, 13, 24)]) (x := (0, 10, 17, 73)) (suf := []) rfl (List.forall_mem_cons.mpr ⟨⟨by decide, _, cl_24, by decide⟩, List.forall_mem_nil _⟩) (by decide) (by decide) cl_73 (by decide) (fun r => Kx1 r g2 i2 j2 hk)
    rw [lf_23, if_neg h2, if_neg h3] at hf
    cases hf
set_option maxHeartbeats 4000000 in
set_option maxRecDepth 20000 in
theorem c_L_fillOf {E : Ev} {g : Sh} {i : Ni} {j : Nj} {K : Kp} {c ol : Nat} {a0 : Int32} (ht : gT g c = 4) (h : ∀ K1 : Kp, (∀ r g' i' j', zLk lf_2 ol K r g' i' j' → K1 r g' i' j') → zCon E mX3_fillOf [.ref c, .int a0] g i j K1) : zCon E mL_fillOf [.ref c, .int a0, .ref ol] g i j K := by
  refine zcon_ofH (by decide +kernel) rfl rfl (lo := [.ref c, .int a0, .ref ol, zJ]) rfl (fun X => ?_)
  have Kv : ∀ (v : Int32) (g2 : Sh) (i2 : Ni) (j2 : Nj), gT g2 ol = 14 → gL g2 ol = 1 → (∀ j' : Nj, j' ol 0 = v.toInt64 → (∀ q, q ≠ ol → j' q = j2 q) → K (.inl (some (.int (nI 0)))) g2 i2 j') → zR E mL_fillOf (zZ E mL_fillOf K) X 7 [.ref c, .int a0, .ref ol, zJ] [.int v, .int (nI 0), .ref ol] g2 i2 j2 1 6 := by
    intro v g2 i2 j2 t1 t2 hk
    refine r_i2l qL_fillOf_7 ?_
    refine r_last qL_fillOf_8 (by assumption) (in_0 t2) ?_
    refine r_goto (t := 15) qL_fillOf_9 (by decide) ?_
    refine r_iconst (v := nI 0) qL_fillOf_15 (by decide) ?_
    refine r_iret qL_fillOf_16 rfl rfl rfl rfl ?_
    exact hk _ wl_0 wl_n
  have Kx0 : ∀ (r : Nat) (g2 : Sh) (i2 : Ni) (j2 : Nj), K (.inl (some (.int (nI 1)))) g2 i2 j2 → zR E mL_fillOf (zZ E mL_fillOf K) X 12 [.ref c, .int a0, .ref ol, zJ] [.ref r] g2 i2 j2 1 6 := by
    intro r g2 i2 j2 hk
    refine r_as_4_3 qL_fillOf_12 rfl rfl ?_
    refine r_iconst (v := nI 1) qL_fillOf_13 (by decide) ?_
    refine r_iret qL_fillOf_14 rfl rfl rfl rfl ?_
    exact hk
  refine r_aload_n qL_fillOf_0 rfl ?_
  refine r_iconst (v := nI 0) qL_fillOf_1 (by decide) ?_
  refine r_aload_n qL_fillOf_2 rfl ?_
  refine r_iload_n qL_fillOf_3 rfl ?_
  refine r_cv1 (cu2 := 1) (su2 := 6) qL_fillOf_4 kL_38 rfl (by decide +kernel) (c := 3) (by assumption) (by decide) rfl rfl rfl rfl rfl rfl ?_
  refine h _ (fun r g2 i2 j2 hk => ?_)
  rcases r with (_ | v) | ec
  · exact hk.elim
  · cases v with
    | int v =>
      show zR E _ _ X 7 _ _ _ _ _ _ _
      exact Kv v g2 i2 j2 hk.1 hk.2.1 hk.2.2
    | _ => exact hk.elim
  · show zT E _ _ X _ _ _ _ _ _ _ _
    obtain ⟨v, hf, hk⟩ := hk
    by_cases h2 : ec = 2
    · subst h2
      cases (show some (nI 1) = some v from hf)
      exact t_catch (pre := []) (x := (0, 9, 12, 24)) (suf := []) rfl (fun z hz => absurd hz List.not_mem_nil) (by decide) (by decide) cl_24 (by decide) (fun r => Kx0 r g2 i2 j2 hk)
    rw [lf_2, if_neg h2] at hf
    cases hf
set_option maxHeartbeats 4000000 in
set_option maxRecDepth 20000 in
theorem c_L_fitError {E : Ev} {g : Sh} {i : Ni} {j : Nj} {K : Kp} {c ol : Nat} {a0 : Int32} (ht : gT g c = 4) (h : ∀ K1 : Kp, (∀ r g' i' j', zLk lf_23 ol K r g' i' j' → K1 r g' i' j') → zCon E mX3_fitError [.ref c, .int a0] g i j K1) : zCon E mL_fitError [.ref c, .int a0, .ref ol] g i j K := by
  refine zcon_ofH (by decide +kernel) rfl rfl (lo := [.ref c, .int a0, .ref ol, zJ]) rfl (fun X => ?_)
  have Kv : ∀ (v : Int32) (g2 : Sh) (i2 : Ni) (j2 : Nj), gT g2 ol = 14 → gL g2 ol = 1 → (∀ j' : Nj, j' ol 0 = v.toInt64 → (∀ q, q ≠ ol → j' q = j2 q) → K (.inl (some (.int (nI 0)))) g2 i2 j') → zR E mL_fitError (zZ E mL_fitError K) X 7 [.ref c, .int a0, .ref ol, zJ] [.int v, .int (nI 0), .ref ol] g2 i2 j2 2 12 := by
    intro v g2 i2 j2 t1 t2 hk
    refine r_i2l qL_fitError_7 ?_
    refine r_last qL_fitError_8 (by assumption) (in_0 t2) ?_
    refine r_goto (t := 18) qL_fitError_9 (by decide) ?_
    refine r_iconst (v := nI 0) qL_fitError_18 (by decide) ?_
    refine r_iret qL_fitError_19 rfl rfl rfl rfl ?_
    exact hk _ wl_0 wl_n
  have Kx0 : ∀ (r : Nat) (g2 : Sh) (i2 : Ni) (j2 : Nj), K (.inl (some (.int (nI 1)))) g2 i2 j2 → zR E mL_fitError (zZ E mL_fitError K) X 12 [.ref c, .int a0, .ref ol, zJ] [.ref r] g2 i2 j2 2 12 := by
    intro r g2 i2 j2 hk
    refine r_as_4_3 qL_fitError_12 rfl rfl ?_
    refine r_iconst (v := nI 1) qL_fitError_13 (by decide) ?_
    refine r_iret qL_fitError_14 rfl rfl rfl rfl ?_
    exact hk
  have Kx1 : ∀ (r : Nat) (g2 : Sh) (i2 : Ni) (j2 : Nj), K (.inl (some (.int (nI 2)))) g2 i2 j2 → zR E mL_fitError (zZ E mL_fitError K) X 15 [.ref c, .int a0, .ref ol, zJ] [.ref r] g2 i2 j2 2 12 := by
    intro r g2 i2 j2 hk
    refine r_as_4_3 qL_fitError_15 rfl rfl ?_
    refine r_iconst (v := nI 2) qL_fitError_16 (by decide) ?_
    refine r_iret qL_fitError_17 rfl rfl rfl rfl ?_
    exact hk
  refine r_aload_n qL_fitError_0 rfl ?_
  refine r_iconst (v := nI 0) qL_fitError_1 (by decide) ?_
  refine r_aload_n qL_fitError_2 rfl ?_
  refine r_iload_n qL_fitError_3 rfl ?_
  refine r_cv1 (cu2 := 2) (su2 := 12) qL_fitError_4 kL_90 rfl (by decide +kernel) (c := 3) (by assumption) (by decide) rfl rfl rfl rfl rfl rfl ?_
  refine h _ (fun r g2 i2 j2 hk => ?_)
  rcases r with (_ | v) | ec
  · exact hk.elim
  · cases v with
    | int v =>
      show zR E _ _ X 7 _ _ _ _ _ _ _
      exact Kv v g2 i2 j2 hk.1 hk.2.1 hk.2.2
    | _ => exact hk.elim
  · show zT E _ _ X _ _ _ _ _ _ _ _
    obtain ⟨v, hf, hk⟩ := hk
    by_cases h2 : ec = 2
    · subst h2
      cases (show some (nI 1) = some v from hf)
      exact t_catch (pre := []) (x := (0, 9, 12, 24)) (suf := [(0, 9, 15, 73)]) rfl (fun z hz => absurd hz List.not_mem_nil) (by decide) (by decide) cl_24 (by decide) (fun r => Kx0 r g2 i2 j2 hk)
    by_cases h3 : ec = 3
    · subst h3
      cases (show some (nI 2) = some v from hf)
      exact t_catch (pre := [(0, 9, 12, 24)]) (x := (0, 9, 15, 73)) (suf := []) rfl (List.forall_mem_cons.mpr ⟨⟨by decide, _, cl_24, by decide⟩, List.forall_mem_nil _⟩) (by decide) (by decide) cl_73 (by decide) (fun r => Kx1 r g2 i2 j2 hk)
    rw [lf_23, if_neg h2, if_neg h3] at hf
    cases hf
def lf_21 (ec : Nat) : Option Int32 := if ec = 2 then some (nI 1) else if ec = 1 then some (nI 2) else none
set_option maxHeartbeats 4000000 in
set_option maxRecDepth 20000 in
theorem c_L_freeHeightAt {E : Ev} {g : Sh} {i : Ni} {j : Nj} {K : Kp} {c ol : Nat} {a0 a1 : Int32} (ht : gT g c = 4) (h : ∀ K1 : Kp, (∀ r g' i' j', zLk lf_21 ol K r g' i' j' → K1 r g' i' j') → zCon E mX3_freeHeightAt [.ref c, .int a0, .int a1] g i j K1) : zCon E mL_freeHeightAt [.ref c, .int a0, .int a1, .ref ol] g i j K := by
  refine zcon_ofH (by decide +kernel) rfl rfl (lo := [.ref c, .int a0, .int a1, .ref ol, zJ]) rfl (fun X => ?_)
  have Kv : ∀ (v : Int32) (g2 : Sh) (i2 : Ni) (j2 : Nj), gT g2 ol = 14 → gL g2 ol = 1 → (∀ j' : Nj, j' ol 0 = v.toInt64 → (∀ q, q ≠ ol → j' q = j2 q) → K (.inl (some (.int (nI 0)))) g2 i2 j') → zR E mL_freeHeightAt (zZ E mL_freeHeightAt K) X 8 [.ref c, .int a0, .int a1, .ref ol, zJ] [.int v, .int (nI 0), .ref ol] g2 i2 j2 2 12 := by
    intro v g2 i2 j2 t1 t2 hk
    refine r_i2l qL_freeHeightAt_8 ?_
    refine r_last qL_freeHeightAt_9 (by assumption) (in_0 t2) ?_
    refine r_goto (t := 21) qL_freeHeightAt_10 (by decide) ?_
    refine r_iconst (v := nI 0) qL_freeHeightAt_21 (by decide) ?_
    refine r_iret qL_freeHeightAt_22 rfl rfl rfl rfl ?_
    exact hk _ wl_0 wl_n
  have Kx0 : ∀ (r : Nat) (g2 : Sh) (i2 : Ni) (j2 : Nj), K (.inl (some (.int (nI 1)))) g2 i2 j2 → zR E mL_freeHeightAt (zZ E mL_freeHeightAt K) X 13 [.ref c, .int a0, .int a1, .ref ol, zJ] [.ref r] g2 i2 j2 2 12 := by
    intro r g2 i2 j2 hk
    refine r_as_5_4 qL_freeHeightAt_13 rfl rfl ?_
    refine r_iconst (v := nI 1) qL_freeHeightAt_15 (by decide) ?_
    refine r_iret qL_freeHeightAt_16 rfl rfl rfl rfl ?_
    exact hk
  have Kx1 : ∀ (r : Nat) (g2 : Sh) (i2 : Ni) (j2 : Nj), K (.inl (some (.int (nI 2)))) g2 i2 j2 → zR E mL_freeHeightAt (zZ E mL_freeHeightAt K) X 17 [.ref c, .int a0, .int a1, .ref ol, zJ] [.ref r] g2 i2 j2 2 12 := by
    intro r g2 i2 j2 hk
    refine r_as_5_4 qL_freeHeightAt_17 rfl rfl ?_
    refine r_iconst (v := nI 2) qL_freeHeightAt_19 (by decide) ?_
    refine r_iret qL_freeHeightAt_20 rfl rfl rfl rfl ?_
    exact hk
  refine r_aload_n qL_freeHeightAt_0 rfl ?_
  refine r_iconst (v := nI 0) qL_freeHeightAt_1 (by decide) ?_
  refine r_aload_n qL_freeHeightAt_2 rfl ?_
  refine r_iload_n qL_freeHeightAt_3 rfl ?_
  refine r_iload_n qL_freeHeightAt_4 rfl ?_
  refine r_cv2 (cu2 := 2) (su2 := 12) qL_freeHeightAt_5 kL_60 rfl (by decide +kernel) (c := 3) (by assumption) (by decide) rfl rfl rfl rfl rfl rfl ?_
  refine h _ (fun r g2 i2 j2 hk => ?_)
  rcases r with (_ | v) | ec
  · exact hk.elim
  · cases v with
    | int v =>
      show zR E _ _ X 8 _ _ _ _ _ _ _
      exact Kv v g2 i2 j2 hk.1 hk.2.1 hk.2.2
    | _ => exact hk.elim
  · show zT E _ _ X _ _ _ _ _ _ _ _
    obtain ⟨v, hf, hk⟩ := hk
    by_cases h2 : ec = 2
    · subst h2
      cases (show some (nI 1) = some v from hf)
      exact t_catch (pre := []) (x := (0, 10, 13, 24)) (suf := [(0, 10, 17, 19)]) rfl (fun z hz => absurd hz List.not_mem_nil) (by decide) (by decide) cl_24 (by decide) (fun r => Kx0 r g2 i2 j2 hk)
    by_cases h1 : ec = 1
    · subst h1
      cases (show some (nI 2) = some v from hf)
      exact t_catch (pre := [(0, 10, 13, 24)]) (x := (0, 10, 17, 19)) (suf := []) rfl (List.forall_mem_cons.mpr ⟨⟨by decide, _, cl_24, by decide⟩, List.forall_mem_nil _⟩) (by decide) (by decide) cl_19 (by decide) (fun r => Kx1 r g2 i2 j2 hk)
    rw [lf_21, if_neg h2, if_neg h1] at hf
    cases hf
set_option maxHeartbeats 4000000 in
set_option maxRecDepth 20000 in
theorem c_L_greatestTemperature {E : Ev} {g : Sh} {i : Ni} {j : Nj} {K : Kp} {c ol : Nat} {a0 : Int32} (ht : gT g c = 4) (h : ∀ K1 : Kp, (∀ r g' i' j', zLk lf_2 ol K r g' i' j' → K1 r g' i' j') → zCon E mX3_greatestTemperature [.ref c, .int a0] g i j K1) : zCon E mL_greatestTemperature [.ref c, .int a0, .ref ol] g i j K := by
  refine zcon_ofH (by decide +kernel) rfl rfl (lo := [.ref c, .int a0, .ref ol, zJ]) rfl (fun X => ?_)
  have Kv : ∀ (v : Int32) (g2 : Sh) (i2 : Ni) (j2 : Nj), gT g2 ol = 14 → gL g2 ol = 1 → (∀ j' : Nj, j' ol 0 = v.toInt64 → (∀ q, q ≠ ol → j' q = j2 q) → K (.inl (some (.int (nI 0)))) g2 i2 j') → zR E mL_greatestTemperature (zZ E mL_greatestTemperature K) X 7 [.ref c, .int a0, .ref ol, zJ] [.int v, .int (nI 0), .ref ol] g2 i2 j2 1 6 := by
    intro v g2 i2 j2 t1 t2 hk
    refine r_i2l qL_greatestTemperature_7 ?_
    refine r_last qL_greatestTemperature_8 (by assumption) (in_0 t2) ?_
    refine r_goto (t := 15) qL_greatestTemperature_9 (by decide) ?_
    refine r_iconst (v := nI 0) qL_greatestTemperature_15 (by decide) ?_
    refine r_iret qL_greatestTemperature_16 rfl rfl rfl rfl ?_
    exact hk _ wl_0 wl_n
  have Kx0 : ∀ (r : Nat) (g2 : Sh) (i2 : Ni) (j2 : Nj), K (.inl (some (.int (nI 1)))) g2 i2 j2 → zR E mL_greatestTemperature (zZ E mL_greatestTemperature K) X 12 [.ref c, .int a0, .ref ol, zJ] [.ref r] g2 i2 j2 1 6 := by
    intro r g2 i2 j2 hk
    refine r_as_4_3 qL_greatestTemperature_12 rfl rfl ?_
    refine r_iconst (v := nI 1) qL_greatestTemperature_13 (by decide) ?_
    refine r_iret qL_greatestTemperature_14 rfl rfl rfl rfl ?_
    exact hk
  refine r_aload_n qL_greatestTemperature_0 rfl ?_
  refine r_iconst (v := nI 0) qL_greatestTemperature_1 (by decide) ?_
  refine r_aload_n qL_greatestTemperature_2 rfl ?_
  refine r_iload_n qL_greatestTemperature_3 rfl ?_
  refine r_cv1 (cu2 := 1) (su2 := 6) qL_greatestTemperature_4 kL_64 rfl (by decide +kernel) (c := 3) (by assumption) (by decide) rfl rfl rfl rfl rfl rfl ?_
  refine h _ (fun r g2 i2 j2 hk => ?_)
  rcases r with (_ | v) | ec
  · exact hk.elim
  · cases v with
    | int v =>
      show zR E _ _ X 7 _ _ _ _ _ _ _
      exact Kv v g2 i2 j2 hk.1 hk.2.1 hk.2.2
    | _ => exact hk.elim
  · show zT E _ _ X _ _ _ _ _ _ _ _
    obtain ⟨v, hf, hk⟩ := hk
    by_cases h2 : ec = 2
    · subst h2
      cases (show some (nI 1) = some v from hf)
      exact t_catch (pre := []) (x := (0, 9, 12, 24)) (suf := []) rfl (fun z hz => absurd hz List.not_mem_nil) (by decide) (by decide) cl_24 (by decide) (fun r => Kx0 r g2 i2 j2 hk)
    rw [lf_2, if_neg h2] at hf
    cases hf
set_option maxHeartbeats 4000000 in
set_option maxRecDepth 20000 in
theorem c_L_hasScale {E : Ev} {g : Sh} {i : Ni} {j : Nj} {K : Kp} {c ol : Nat} {a0 : Int32} (ht : gT g c = 4) (h : ∀ K1 : Kp, (∀ r g' i' j', zLb lf_2 ol K r g' i' j' → K1 r g' i' j') → zCon E mX3_hasScale [.ref c, .int a0] g i j K1) : zCon E mL_hasScale [.ref c, .int a0, .ref ol] g i j K := by
  refine zcon_ofH (by decide +kernel) rfl rfl (lo := [.ref c, .int a0, .ref ol, zJ]) rfl (fun X => ?_)
  have Kv0 : ∀ (g2 : Sh) (i2 : Ni) (j2 : Nj), gT g2 ol = 14 → gL g2 ol = 1 → (∀ j' : Nj, j' ol 0 = (nI 0).toInt64 → (∀ q, q ≠ ol → j' q = j2 q) → K (.inl (some (.int (nI 0)))) g2 i2 j') → zR E mL_hasScale (zZ E mL_hasScale K) X 7 [.ref c, .int a0, .ref ol, zJ] [.int (nI 0), .int (nI 0), .ref ol] g2 i2 j2 1 6 := by
    intro g2 i2 j2 t1 t2 hk
    refine r_if_eq (t := 14) qL_hasScale_7 (by decide) (fun hc7 => ?_) (fun hc7 => absurd hc7 (by decide))
    refine r_lconst (v := 0) qL_hasScale_14 (by decide) ?_
    refine r_last qL_hasScale_15 (by assumption) (in_0 t2) ?_
    refine r_goto (t := 22) qL_hasScale_16 (by decide) ?_
    refine r_iconst (v := nI 0) qL_hasScale_22 (by decide) ?_
    refine r_iret qL_hasScale_23 rfl rfl rfl rfl ?_
    exact hk _ (wl_0.trans (by decide)) wl_n
  have Kv1 : ∀ (g2 : Sh) (i2 : Ni) (j2 : Nj), gT g2 ol = 14 → gL g2 ol = 1 → (∀ j' : Nj, j' ol 0 = (nI 1).toInt64 → (∀ q, q ≠ ol → j' q = j2 q) → K (.inl (some (.int (nI 0)))) g2 i2 j') → zR E mL_hasScale (zZ E mL_hasScale K) X 7 [.ref c, .int a0, .ref ol, zJ] [.int (nI 1), .int (nI 0), .ref ol] g2 i2 j2 1 6 := by
    intro g2 i2 j2 t1 t2 hk
    refine r_if_eq (t := 14) qL_hasScale_7 (by decide) (fun hc7 => absurd hc7 (by decide)) (fun hc7 => ?_)
    refine r_lconst (v := 1) qL_hasScale_10 (by decide) ?_
    refine r_goto (t := 15) qL_hasScale_11 (by decide) ?_
    refine r_last qL_hasScale_15 (by assumption) (in_0 t2) ?_
    refine r_goto (t := 22) qL_hasScale_16 (by decide) ?_
    refine r_iconst (v := nI 0) qL_hasScale_22 (by decide) ?_
    refine r_iret qL_hasScale_23 rfl rfl rfl rfl ?_
    exact hk _ (wl_0.trans (by decide)) wl_n
  have Kx0 : ∀ (r : Nat) (g2 : Sh) (i2 : Ni) (j2 : Nj), K (.inl (some (.int (nI 1)))) g2 i2 j2 → zR E mL_hasScale (zZ E mL_hasScale K) X 19 [.ref c, .int a0, .ref ol, zJ] [.ref r] g2 i2 j2 1 6 := by
    intro r g2 i2 j2 hk
    refine r_as_4_3 qL_hasScale_19 rfl rfl ?_
    refine r_iconst (v := nI 1) qL_hasScale_20 (by decide) ?_
    refine r_iret qL_hasScale_21 rfl rfl rfl rfl ?_
    exact hk
  refine r_aload_n qL_hasScale_0 rfl ?_
  refine r_iconst (v := nI 0) qL_hasScale_1 (by decide) ?_
  refine r_aload_n qL_hasScale_2 rfl ?_
  refine r_iload_n qL_hasScale_3 rfl ?_
  refine r_cv1 (cu2 := 1) (su2 := 6) qL_hasScale_4 kL_78 rfl (by decide +kernel) (c := 3) (by assumption) (by decide) rfl rfl rfl rfl rfl rfl ?_
  refine h _ (fun r g2 i2 j2 hk => ?_)
  rcases r with (_ | v) | ec
  · exact hk.elim
  · cases v with
    | int v =>
      show zR E _ _ X 7 _ _ _ _ _ _ _
      obtain ⟨hv, hk⟩ := hk
      rcases hv with rfl | rfl
      · exact Kv0 g2 i2 j2 hk.1 hk.2.1 hk.2.2
      · exact Kv1 g2 i2 j2 hk.1 hk.2.1 hk.2.2
    | _ => exact hk.elim
  · show zT E _ _ X _ _ _ _ _ _ _ _
    obtain ⟨v, hf, hk⟩ := hk
    by_cases h2 : ec = 2
    · subst h2
      cases (show some (nI 1) = some v from hf)
      exact t_catch (pre := []) (x := (0, 16, 19, 24)) (suf := []) rfl (fun z hz => absurd hz List.not_mem_nil) (by decide) (by decide) cl_24 (by decide) (fun r => Kx0 r g2 i2 j2 hk)
    rw [lf_2, if_neg h2] at hf
    cases hf
set_option maxHeartbeats 4000000 in
set_option maxRecDepth 20000 in
theorem c_L_height {E : Ev} {g : Sh} {i : Ni} {j : Nj} {K : Kp} {c ol : Nat} {a0 : Int32} (ht : gT g c = 4) (h : ∀ K1 : Kp, (∀ r g' i' j', zLk lf_2 ol K r g' i' j' → K1 r g' i' j') → zCon E mX3_height [.ref c, .int a0] g i j K1) : zCon E mL_height [.ref c, .int a0, .ref ol] g i j K := by
  refine zcon_ofH (by decide +kernel) rfl rfl (lo := [.ref c, .int a0, .ref ol, zJ]) rfl (fun X => ?_)
  have Kv : ∀ (v : Int32) (g2 : Sh) (i2 : Ni) (j2 : Nj), gT g2 ol = 14 → gL g2 ol = 1 → (∀ j' : Nj, j' ol 0 = v.toInt64 → (∀ q, q ≠ ol → j' q = j2 q) → K (.inl (some (.int (nI 0)))) g2 i2 j') → zR E mL_height (zZ E mL_height K) X 7 [.ref c, .int a0, .ref ol, zJ] [.int v, .int (nI 0), .ref ol] g2 i2 j2 1 6 := by
    intro v g2 i2 j2 t1 t2 hk
    refine r_i2l qL_height_7 ?_
    refine r_last qL_height_8 (by assumption) (in_0 t2) ?_
    refine r_goto (t := 15) qL_height_9 (by decide) ?_
    refine r_iconst (v := nI 0) qL_height_15 (by decide) ?_
    refine r_iret qL_height_16 rfl rfl rfl rfl ?_
    exact hk _ wl_0 wl_n
  have Kx0 : ∀ (r : Nat) (g2 : Sh) (i2 : Ni) (j2 : Nj), K (.inl (some (.int (nI 1)))) g2 i2 j2 → zR E mL_height (zZ E mL_height K) X 12 [.ref c, .int a0, .ref ol, zJ] [.ref r] g2 i2 j2 1 6 := by
    intro r g2 i2 j2 hk
    refine r_as_4_3 qL_height_12 rfl rfl ?_
    refine r_iconst (v := nI 1) qL_height_13 (by decide) ?_
    refine r_iret qL_height_14 rfl rfl rfl rfl ?_
    exact hk
  refine r_aload_n qL_height_0 rfl ?_
  refine r_iconst (v := nI 0) qL_height_1 (by decide) ?_
  refine r_aload_n qL_height_2 rfl ?_
  refine r_iload_n qL_height_3 rfl ?_
  refine r_cv1 (cu2 := 1) (su2 := 6) qL_height_4 kL_57 rfl (by decide +kernel) (c := 3) (by assumption) (by decide) rfl rfl rfl rfl rfl rfl ?_
  refine h _ (fun r g2 i2 j2 hk => ?_)
  rcases r with (_ | v) | ec
  · exact hk.elim
  · cases v with
    | int v =>
      show zR E _ _ X 7 _ _ _ _ _ _ _
      exact Kv v g2 i2 j2 hk.1 hk.2.1 hk.2.2
    | _ => exact hk.elim
  · show zT E _ _ X _ _ _ _ _ _ _ _
    obtain ⟨v, hf, hk⟩ := hk
    by_cases h2 : ec = 2
    · subst h2
      cases (show some (nI 1) = some v from hf)
      exact t_catch (pre := []) (x := (0, 9, 12, 24)) (suf := []) rfl (fun z hz => absurd hz List.not_mem_nil) (by decide) (by decide) cl_24 (by decide) (fun r => Kx0 r g2 i2 j2 hk)
    rw [lf_2, if_neg h2] at hf
    cases hf
set_option maxHeartbeats 4000000 in
set_option maxRecDepth 20000 in
theorem c_L_heightAfter {E : Ev} {g : Sh} {i : Ni} {j : Nj} {K : Kp} {c ol : Nat} {a0 a1 : Int32} (ht : gT g c = 4) (h : ∀ K1 : Kp, (∀ r g' i' j', zLk lf_21 ol K r g' i' j' → K1 r g' i' j') → zCon E mX3_heightAfter [.ref c, .int a0, .int a1] g i j K1) : zCon E mL_heightAfter [.ref c, .int a0, .int a1, .ref ol] g i j K := by
  refine zcon_ofH (by decide +kernel) rfl rfl (lo := [.ref c, .int a0, .int a1, .ref ol, zJ]) rfl (fun X => ?_)
  have Kv : ∀ (v : Int32) (g2 : Sh) (i2 : Ni) (j2 : Nj), gT g2 ol = 14 → gL g2 ol = 1 → (∀ j' : Nj, j' ol 0 = v.toInt64 → (∀ q, q ≠ ol → j' q = j2 q) → K (.inl (some (.int (nI 0)))) g2 i2 j') → zR E mL_heightAfter (zZ E mL_heightAfter K) X 8 [.ref c, .int a0, .int a1, .ref ol, zJ] [.int v, .int (nI 0), .ref ol] g2 i2 j2 2 12 := by
    intro v g2 i2 j2 t1 t2 hk
    refine r_i2l qL_heightAfter_8 ?_
    refine r_last qL_heightAfter_9 (by assumption) (in_0 t2) ?_
    refine r_goto (t := 21) qL_heightAfter_10 (by decide) ?_
    refine r_iconst (v := nI 0) qL_heightAfter_21 (by decide) ?_
    refine r_iret qL_heightAfter_22 rfl rfl rfl rfl ?_
    exact hk _ wl_0 wl_n
  have Kx0 : ∀ (r : Nat) (g2 : Sh) (i2 : Ni) (j2 : Nj), K (.inl (some (.int (nI 1)))) g2 i2 j2 → zR E mL_heightAfter (zZ E mL_heightAfter K) X 13 [.ref c, .int a0, .int a1, .ref ol, zJ] [.ref r] g2 i2 j2 2 12 := by
    intro r g2 i2 j2 hk
    refine r_as_5_4 qL_heightAfter_13 rfl rfl ?_
    refine r_iconst (v := nI 1) qL_heightAfter_15 (by decide) ?_
    refine r_iret qL_heightAfter_16 rfl rfl rfl rfl ?_
    exact hk
  have Kx1 : ∀ (r : Nat) (g2 : Sh) (i2 : Ni) (j2 : Nj), K (.inl (some (.int (nI 2)))) g2 i2 j2 → zR E mL_heightAfter (zZ E mL_heightAfter K) X 17 [.ref c, .int a0, .int a1, .ref ol, zJ] [.ref r] g2 i2 j2 2 12 := by
    intro r g2 i2 j2 hk
    refine r_as_5_4 qL_heightAfter_17 rfl rfl ?_
    refine r_iconst (v := nI 2) qL_heightAfter_19 (by decide) ?_
    refine r_iret qL_heightAfter_20 rfl rfl rfl rfl ?_
    exact hk
  refine r_aload_n qL_heightAfter_0 rfl ?_
  refine r_iconst (v := nI 0) qL_heightAfter_1 (by decide) ?_
  refine r_aload_n qL_heightAfter_2 rfl ?_
  refine r_iload_n qL_heightAfter_3 rfl ?_
  refine r_iload_n qL_heightAfter_4 rfl ?_
  refine r_cv2 (cu2 := 2) (su2 := 12) qL_heightAfter_5 kL_102 rfl (by decide +kernel) (c := 3) (by assumption) (by decide) rfl rfl rfl rfl rfl rfl ?_
  refine h _ (fun r g2 i2 j2 hk => ?_)
  rcases r with (_ | v) | ec
  · exact hk.elim
  · cases v with
    | int v =>
      show zR E _ _ X 8 _ _ _ _ _ _ _
      exact Kv v g2 i2 j2 hk.1 hk.2.1 hk.2.2
    | _ => exact hk.elim
  · show zT E _ _ X _ _ _ _ _ _ _ _
    obtain ⟨v, hf, hk⟩ := hk
    by_cases h2 : ec = 2
    · subst h2
      cases (show some (nI 1) = some v from hf)
      exact t_catch (pre := []) (x := (0, 10, 13, 24)) (suf := [(0, 10, 17, 19)]) rfl (fun z hz => absurd hz List.not_mem_nil) (by decide) (by decide) cl_24 (by decide) (fun r => Kx0 r g2 i2 j2 hk)
    by_cases h1 : ec = 1
    · subst h1
      cases (show some (nI 2) = some v from hf)
      exact t_catch (pre := [(0, 10, 13, 24)]) (x := (0, 10, 17, 19)) (suf := []) rfl (List.forall_mem_cons.mpr ⟨⟨by decide, _, cl_24, by decide⟩, List.forall_mem_nil _⟩) (by decide) (by decide) cl_19 (by decide) (fun r => Kx1 r g2 i2 j2 hk)
    rw [lf_21, if_neg h2, if_neg h1] at hf
    cases hf
set_option maxHeartbeats 4000000 in
set_option maxRecDepth 20000 in
theorem c_L_isLeaky {E : Ev} {g : Sh} {i : Ni} {j : Nj} {K : Kp} {c ol : Nat} {a0 : Int32} (ht : gT g c = 4) (h : ∀ K1 : Kp, (∀ r g' i' j', zLb lf_2 ol K r g' i' j' → K1 r g' i' j') → zCon E mX3_isLeaky [.ref c, .int a0] g i j K1) : zCon E mL_isLeaky [.ref c, .int a0, .ref ol] g i j K := by
  refine zcon_ofH (by decide +kernel) rfl rfl (lo := [.ref c, .int a0, .ref ol, zJ]) rfl (fun X => ?_)
  have Kv0 : ∀ (g2 : Sh) (i2 : Ni) (j2 : Nj), gT g2 ol = 14 → gL g2 ol = 1 → (∀ j' : Nj, j' ol 0 = (nI 0).toInt64 → (∀ q, q ≠ ol → j' q = j2 q) → K (.inl (some (.int (nI 0)))) g2 i2 j') → zR E mL_isLeaky (zZ E mL_isLeaky K) X 7 [.ref c, .int a0, .ref ol, zJ] [.int (nI 0), .int (nI 0), .ref ol] g2 i2 j2 1 6 := by
    intro g2 i2 j2 t1 t2 hk
    refine r_if_eq (t := 14) qL_isLeaky_7 (by decide) (fun hc7 => ?_) (fun hc7 => absurd hc7 (by decide))
    refine r_lconst (v := 0) qL_isLeaky_14 (by decide) ?_
    refine r_last qL_isLeaky_15 (by assumption) (in_0 t2) ?_
    refine r_goto (t := 22) qL_isLeaky_16 (by decide) ?_
    refine r_iconst (v := nI 0) qL_isLeaky_22 (by decide) ?_
    refine r_iret qL_isLeaky_23 rfl rfl rfl rfl ?_
    exact hk _ (wl_0.trans (by decide)) wl_n
  have Kv1 : ∀ (g2 : Sh) (i2 : Ni) (j2 : Nj), gT g2 ol = 14 → gL g2 ol = 1 → (∀ j' : Nj, j' ol 0 = (nI 1).toInt64 → (∀ q, q ≠ ol → j' q = j2 q) → K (.inl (some (.int (nI 0)))) g2 i2 j') → zR E mL_isLeaky (zZ E mL_isLeaky K) X 7 [.ref c, .int a0, .ref ol, zJ] [.int (nI 1), .int (nI 0), .ref ol] g2 i2 j2 1 6 := by
    intro g2 i2 j2 t1 t2 hk
    refine r_if_eq (t := 14) qL_isLeaky_7 (by decide) (fun hc7 => absurd hc7 (by decide)) (fun hc7 => ?_)
    refine r_lconst (v := 1) qL_isLeaky_10 (by decide) ?_
    refine r_goto (t := 15) qL_isLeaky_11 (by decide) ?_
    refine r_last qL_isLeaky_15 (by assumption) (in_0 t2) ?_
    refine r_goto (t := 22) qL_isLeaky_16 (by decide) ?_
    refine r_iconst (v := nI 0) qL_isLeaky_22 (by decide) ?_
    refine r_iret qL_isLeaky_23 rfl rfl rfl rfl ?_
    exact hk _ (wl_0.trans (by decide)) wl_n
  have Kx0 : ∀ (r : Nat) (g2 : Sh) (i2 : Ni) (j2 : Nj), K (.inl (some (.int (nI 1)))) g2 i2 j2 → zR E mL_isLeaky (zZ E mL_isLeaky K) X 19 [.ref c, .int a0, .ref ol, zJ] [.ref r] g2 i2 j2 1 6 := by
    intro r g2 i2 j2 hk
    refine r_as_4_3 qL_isLeaky_19 rfl rfl ?_
    refine r_iconst (v := nI 1) qL_isLeaky_20 (by decide) ?_
    refine r_iret qL_isLeaky_21 rfl rfl rfl rfl ?_
    exact hk
  refine r_aload_n qL_isLeaky_0 rfl ?_
  refine r_iconst (v := nI 0) qL_isLeaky_1 (by decide) ?_
  refine r_aload_n qL_isLeaky_2 rfl ?_
  refine r_iload_n qL_isLeaky_3 rfl ?_
  refine r_cv1 (cu2 := 1) (su2 := 6) qL_isLeaky_4 kL_51 rfl (by decide +kernel) (c := 3) (by assumption) (by decide) rfl rfl rfl rfl rfl rfl ?_
  refine h _ (fun r g2 i2 j2 hk => ?_)
  rcases r with (_ | v) | ec
  · exact hk.elim
  · cases v with
    | int v =>
      show zR E _ _ X 7 _ _ _ _ _ _ _
      obtain ⟨hv, hk⟩ := hk
      rcases hv with rfl | rfl
      · exact Kv0 g2 i2 j2 hk.1 hk.2.1 hk.2.2
      · exact Kv1 g2 i2 j2 hk.1 hk.2.1 hk.2.2
    | _ => exact hk.elim
  · show zT E _ _ X _ _ _ _ _ _ _ _
    obtain ⟨v, hf, hk⟩ := hk
    by_cases h2 : ec = 2
    · subst h2
      cases (show some (nI 1) = some v from hf)
      exact t_catch (pre := []) (x := (0, 16, 19, 24)) (suf := []) rfl (fun z hz => absurd hz List.not_mem_nil) (by decide) (by decide) cl_24 (by decide) (fun r => Kx0 r g2 i2 j2 hk)
    rw [lf_2, if_neg h2] at hf
    cases hf
set_option maxHeartbeats 4000000 in
set_option maxRecDepth 20000 in
theorem c_L_isSettled {E : Ev} {g : Sh} {i : Ni} {j : Nj} {K : Kp} {c ol : Nat} {a0 : Int32} (ht : gT g c = 4) (h : ∀ K1 : Kp, (∀ r g' i' j', zLb lf_2 ol K r g' i' j' → K1 r g' i' j') → zCon E mX3_isSettled [.ref c, .int a0] g i j K1) : zCon E mL_isSettled [.ref c, .int a0, .ref ol] g i j K := by
  refine zcon_ofH (by decide +kernel) rfl rfl (lo := [.ref c, .int a0, .ref ol, zJ]) rfl (fun X => ?_)
  have Kv0 : ∀ (g2 : Sh) (i2 : Ni) (j2 : Nj), gT g2 ol = 14 → gL g2 ol = 1 → (∀ j' : Nj, j' ol 0 = (nI 0).toInt64 → (∀ q, q ≠ ol → j' q = j2 q) → K (.inl (some (.int (nI 0)))) g2 i2 j') → zR E mL_isSettled (zZ E mL_isSettled K) X 7 [.ref c, .int a0, .ref ol, zJ] [.int (nI 0), .int (nI 0), .ref ol] g2 i2 j2 1 6 := by
    intro g2 i2 j2 t1 t2 hk
    refine r_if_eq (t := 14) qL_isSettled_7 (by decide) (fun hc7 => ?_) (fun hc7 => absurd hc7 (by decide))
    refine r_lconst (v := 0) qL_isSettled_14 (by decide) ?_
    refine r_last qL_isSettled_15 (by assumption) (in_0 t2) ?_
    refine r_goto (t := 22) qL_isSettled_16 (by decide) ?_
    refine r_iconst (v := nI 0) qL_isSettled_22 (by decide) ?_
    refine r_iret qL_isSettled_23 rfl rfl rfl rfl ?_
    exact hk _ (wl_0.trans (by decide)) wl_n
  have Kv1 : ∀ (g2 : Sh) (i2 : Ni) (j2 : Nj), gT g2 ol = 14 → gL g2 ol = 1 → (∀ j' : Nj, j' ol 0 = (nI 1).toInt64 → (∀ q, q ≠ ol → j' q = j2 q) → K (.inl (some (.int (nI 0)))) g2 i2 j') → zR E mL_isSettled (zZ E mL_isSettled K) X 7 [.ref c, .int a0, .ref ol, zJ] [.int (nI 1), .int (nI 0), .ref ol] g2 i2 j2 1 6 := by
    intro g2 i2 j2 t1 t2 hk
    refine r_if_eq (t := 14) qL_isSettled_7 (by decide) (fun hc7 => absurd hc7 (by decide)) (fun hc7 => ?_)
    refine r_lconst (v := 1) qL_isSettled_10 (by decide) ?_
    refine r_goto (t := 15) qL_isSettled_11 (by decide) ?_
    refine r_last qL_isSettled_15 (by assumption) (in_0 t2) ?_
    refine r_goto (t := 22) qL_isSettled_16 (by decide) ?_
    refine r_iconst (v := nI 0) qL_isSettled_22 (by decide) ?_
    refine r_iret qL_isSettled_23 rfl rfl rfl rfl ?_
    exact hk _ (wl_0.trans (by decide)) wl_n
  have Kx0 : ∀ (r : Nat) (g2 : Sh) (i2 : Ni) (j2 : Nj), K (.inl (some (.int (nI 1)))) g2 i2 j2 → zR E mL_isSettled (zZ E mL_isSettled K) X 19 [.ref c, .int a0, .ref ol, zJ] [.ref r] g2 i2 j2 1 6 := by
    intro r g2 i2 j2 hk
    refine r_as_4_3 qL_isSettled_19 rfl rfl ?_
    refine r_iconst (v := nI 1) qL_isSettled_20 (by decide) ?_
    refine r_iret qL_isSettled_21 rfl rfl rfl rfl ?_
    exact hk
  refine r_aload_n qL_isSettled_0 rfl ?_
  refine r_iconst (v := nI 0) qL_isSettled_1 (by decide) ?_
  refine r_aload_n qL_isSettled_2 rfl ?_
  refine r_iload_n qL_isSettled_3 rfl ?_
  refine r_cv1 (cu2 := 1) (su2 := 6) qL_isSettled_4 kL_47 rfl (by decide +kernel) (c := 3) (by assumption) (by decide) rfl rfl rfl rfl rfl rfl ?_
  refine h _ (fun r g2 i2 j2 hk => ?_)
  rcases r with (_ | v) | ec
  · exact hk.elim
  · cases v with
    | int v =>
      show zR E _ _ X 7 _ _ _ _ _ _ _
      obtain ⟨hv, hk⟩ := hk
      rcases hv with rfl | rfl
      · exact Kv0 g2 i2 j2 hk.1 hk.2.1 hk.2.2
      · exact Kv1 g2 i2 j2 hk.1 hk.2.1 hk.2.2
    | _ => exact hk.elim
  · show zT E _ _ X _ _ _ _ _ _ _ _
    obtain ⟨v, hf, hk⟩ := hk
    by_cases h2 : ec = 2
    · subst h2
      cases (show some (nI 1) = some v from hf)
      exact t_catch (pre := []) (x := (0, 16, 19, 24)) (suf := []) rfl (fun z hz => absurd hz List.not_mem_nil) (by decide) (by decide) cl_24 (by decide) (fun r => Kx0 r g2 i2 j2 hk)
    rw [lf_2, if_neg h2] at hf
    cases hf
set_option maxHeartbeats 4000000 in
set_option maxRecDepth 20000 in
theorem c_L_layThumb {E : Ev} {g : Sh} {i : Ni} {j : Nj} {K : Kp} {c ol : Nat} {a0 a1 : Int32} (ht : gT g c = 4) (h : ∀ K1 : Kp, (∀ r g' i' j', zLk lf_21 ol K r g' i' j' → K1 r g' i' j') → zCon E mX3_layThumb [.ref c, .int a0, .int a1] g i j K1) : zCon E mL_layThumb [.ref c, .int a0, .int a1, .ref ol] g i j K := by
  refine zcon_ofH (by decide +kernel) rfl rfl (lo := [.ref c, .int a0, .int a1, .ref ol, zJ]) rfl (fun X => ?_)
  have Kv : ∀ (v : Int32) (g2 : Sh) (i2 : Ni) (j2 : Nj), gT g2 ol = 14 → gL g2 ol = 1 → (∀ j' : Nj, j' ol 0 = v.toInt64 → (∀ q, q ≠ ol → j' q = j2 q) → K (.inl (some (.int (nI 0)))) g2 i2 j') → zR E mL_layThumb (zZ E mL_layThumb K) X 8 [.ref c, .int a0, .int a1, .ref ol, zJ] [.int v, .int (nI 0), .ref ol] g2 i2 j2 2 12 := by
    intro v g2 i2 j2 t1 t2 hk
    refine r_i2l qL_layThumb_8 ?_
    refine r_last qL_layThumb_9 (by assumption) (in_0 t2) ?_
    refine r_goto (t := 21) qL_layThumb_10 (by decide) ?_
    refine r_iconst (v := nI 0) qL_layThumb_21 (by decide) ?_
    refine r_iret qL_layThumb_22 rfl rfl rfl rfl ?_
    exact hk _ wl_0 wl_n
  have Kx0 : ∀ (r : Nat) (g2 : Sh) (i2 : Ni) (j2 : Nj), K (.inl (some (.int (nI 1)))) g2 i2 j2 → zR E mL_layThumb (zZ E mL_layThumb K) X 13 [.ref c, .int a0, .int a1, .ref ol, zJ] [.ref r] g2 i2 j2 2 12 := by
    intro r g2 i2 j2 hk
    refine r_as_5_4 qL_layThumb_13 rfl rfl ?_
    refine r_iconst (v := nI 1) qL_layThumb_15 (by decide) ?_
    refine r_iret qL_layThumb_16 rfl rfl rfl rfl ?_
    exact hk
  have Kx1 : ∀ (r : Nat) (g2 : Sh) (i2 : Ni) (j2 : Nj), K (.inl (some (.int (nI 2)))) g2 i2 j2 → zR E mL_layThumb (zZ E mL_layThumb K) X 17 [.ref c, .int a0, .int a1, .ref ol, zJ] [.ref r] g2 i2 j2 2 12 := by
    intro r g2 i2 j2 hk
    refine r_as_5_4 qL_layThumb_17 rfl rfl ?_
    refine r_iconst (v := nI 2) qL_layThumb_19 (by decide) ?_
    refine r_iret qL_layThumb_20 rfl rfl rfl rfl ?_
    exact hk
  refine r_aload_n qL_layThumb_0 rfl ?_
  refine r_iconst (v := nI 0) qL_layThumb_1 (by decide) ?_
  refine r_aload_n qL_layThumb_2 rfl ?_
  refine r_iload_n qL_layThumb_3 rfl ?_
  refine r_iload_n qL_layThumb_4 rfl ?_
  refine r_cv2 (cu2 := 2) (su2 := 12) qL_layThumb_5 kL_138 rfl (by decide +kernel) (c := 3) (by assumption) (by decide) rfl rfl rfl rfl rfl rfl ?_
  refine h _ (fun r g2 i2 j2 hk => ?_)
  rcases r with (_ | v) | ec
  · exact hk.elim
  · cases v with
    | int v =>
      show zR E _ _ X 8 _ _ _ _ _ _ _
      exact Kv v g2 i2 j2 hk.1 hk.2.1 hk.2.2
    | _ => exact hk.elim
  · show zT E _ _ X _ _ _ _ _ _ _ _
    obtain ⟨v, hf, hk⟩ := hk
    by_cases h2 : ec = 2
    · subst h2
      cases (show some (nI 1) = some v from hf)
      exact t_catch (pre := []) (x := (0, 10, 13, 24)) (suf := [(0, 10, 17, 19)]) rfl (fun z hz => absurd hz List.not_mem_nil) (by decide) (by decide) cl_24 (by decide) (fun r => Kx0 r g2 i2 j2 hk)
    by_cases h1 : ec = 1
    · subst h1
      cases (show some (nI 2) = some v from hf)
      exact t_catch (pre := [(0, 10, 13, 24)]) (x := (0, 10, 17, 19)) (suf := []) rfl (List.forall_mem_cons.mpr ⟨⟨by decide, _, cl_24, by decide⟩, List.forall_mem_nil _⟩) (by decide) (by decide) cl_19 (by decide) (fun r => Kx1 r g2 i2 j2 hk)
    rw [lf_21, if_neg h2, if_neg h1] at hf
    cases hf
set_option maxHeartbeats 4000000 in
set_option maxRecDepth 20000 in
theorem c_L_lift {E : Ev} {g : Sh} {i : Ni} {j : Nj} {K : Kp} {c ol : Nat} {a0 : Int32} (ht : gT g c = 4) (h : ∀ K1 : Kp, (∀ r g' i' j', zLk lf_20 ol K r g' i' j' → K1 r g' i' j') → zCon E mX3_lift [.ref c, .int a0] g i j K1) : zCon E mL_lift [.ref c, .int a0, .ref ol] g i j K := by
  refine zcon_ofH (by decide +kernel) rfl rfl (lo := [.ref c, .int a0, .ref ol, zJ]) rfl (fun X => ?_)
  have Kv : ∀ (v : Int32) (g2 : Sh) (i2 : Ni) (j2 : Nj), gT g2 ol = 14 → gL g2 ol = 1 → (∀ j' : Nj, j' ol 0 = v.toInt64 → (∀ q, q ≠ ol → j' q = j2 q) → K (.inl (some (.int (nI 0)))) g2 i2 j') → zR E mL_lift (zZ E mL_lift K) X 7 [.ref c, .int a0, .ref ol, zJ] [.int v, .int (nI 0), .ref ol] g2 i2 j2 2 12 := by
    intro v g2 i2 j2 t1 t2 hk
    refine r_i2l qL_lift_7 ?_
    refine r_last qL_lift_8 (by assumption) (in_0 t2) ?_
    refine r_goto (t := 18) qL_lift_9 (by decide) ?_
    refine r_iconst (v := nI 0) qL_lift_18 (by decide) ?_
    refine r_iret qL_lift_19 rfl rfl rfl rfl ?_
    exact hk _ wl_0 wl_n
  have Kx0 : ∀ (r : Nat) (g2 : Sh) (i2 : Ni) (j2 : Nj), K (.inl (some (.int (nI 1)))) g2 i2 j2 → zR E mL_lift (zZ E mL_lift K) X 12 [.ref c, .int a0, .ref ol, zJ] [.ref r] g2 i2 j2 2 12 := by
    intro r g2 i2 j2 hk
    refine r_as_4_3 qL_lift_12 rfl rfl ?_
    refine r_iconst (v := nI 1) qL_lift_13 (by decide) ?_
    refine r_iret qL_lift_14 rfl rfl rfl rfl ?_
    exact hk
  have Kx1 : ∀ (r : Nat) (g2 : Sh) (i2 : Ni) (j2 : Nj), K (.inl (some (.int (nI 2)))) g2 i2 j2 → zR E mL_lift (zZ E mL_lift K) X 15 [.ref c, .int a0, .ref ol, zJ] [.ref r] g2 i2 j2 2 12 := by
    intro r g2 i2 j2 hk
    refine r_as_4_3 qL_lift_15 rfl rfl ?_
    refine r_iconst (v := nI 2) qL_lift_16 (by decide) ?_
    refine r_iret qL_lift_17 rfl rfl rfl rfl ?_
    exact hk
  refine r_aload_n qL_lift_0 rfl ?_
  refine r_iconst (v := nI 0) qL_lift_1 (by decide) ?_
  refine r_aload_n qL_lift_2 rfl ?_
  refine r_iload_n qL_lift_3 rfl ?_
  refine r_cv1 (cu2 := 2) (su2 := 12) qL_lift_4 kL_129 rfl (by decide +kernel) (c := 3) (by assumption) (by decide) rfl rfl rfl rfl rfl rfl ?_
  refine h _ (fun r g2 i2 j2 hk => ?_)
  rcases r with (_ | v) | ec
  · exact hk.elim
  · cases v with
    | int v =>
      show zR E _ _ X 7 _ _ _ _ _ _ _
      exact Kv v g2 i2 j2 hk.1 hk.2.1 hk.2.2
    | _ => exact hk.elim
  · show zT E _ _ X _ _ _ _ _ _ _ _
    obtain ⟨v, hf, hk⟩ := hk
    by_cases h2 : ec = 2
    · subst h2
      cases (show some (nI 1) = some v from hf)
      exact t_catch (pre := []) (x := (0, 9, 12, 24)) (suf := [(0, 9, 15, 13)]) rfl (fun z hz => absurd hz List.not_mem_nil) (by decide) (by decide) cl_24 (by decide) (fun r => Kx0 r g2 i2 j2 hk)
    by_cases h0 : ec = 0
    · subst h0
      cases (show some (nI 2) = some v from hf)
      exact t_catch (pre := [(0, 9, 12, 24)]) (x := (0, 9, 15, 13)) (suf := []) rfl (List.forall_mem_cons.mpr ⟨⟨by decide, _, cl_24, by decide⟩, List.forall_mem_nil _⟩) (by decide) (by decide) cl_13 (by decide) (fun r => Kx1 r g2 i2 j2 hk)
    rw [lf_20, if_neg h2, if_neg h0] at hf
    cases hf
def lf_1 (ec : Nat) : Option Int32 := if ec = 1 then some (nI 1) else none
set_option maxHeartbeats 4000000 in
set_option maxRecDepth 20000 in
theorem c_L_lossAfter {E : Ev} {g : Sh} {i : Ni} {j : Nj} {K : Kp} {c ol : Nat} {a0 : Int32} (ht : gT g c = 4) (h : ∀ K1 : Kp, (∀ r g' i' j', zLk lf_1 ol K r g' i' j' → K1 r g' i' j') → zCon E mX3_lossAfter [.ref c, .int a0] g i j K1) : zCon E mL_lossAfter [.ref c, .int a0, .ref ol] g i j K := by
  refine zcon_ofH (by decide +kernel) rfl rfl (lo := [.ref c, .int a0, .ref ol, zJ]) rfl (fun X => ?_)
  have Kv : ∀ (v : Int32) (g2 : Sh) (i2 : Ni) (j2 : Nj), gT g2 ol = 14 → gL g2 ol = 1 → (∀ j' : Nj, j' ol 0 = v.toInt64 → (∀ q, q ≠ ol → j' q = j2 q) → K (.inl (some (.int (nI 0)))) g2 i2 j') → zR E mL_lossAfter (zZ E mL_lossAfter K) X 7 [.ref c, .int a0, .ref ol, zJ] [.int v, .int (nI 0), .ref ol] g2 i2 j2 1 6 := by
    intro v g2 i2 j2 t1 t2 hk
    refine r_i2l qL_lossAfter_7 ?_
    refine r_last qL_lossAfter_8 (by assumption) (in_0 t2) ?_
    refine r_goto (t := 15) qL_lossAfter_9 (by decide) ?_
    refine r_iconst (v := nI 0) qL_lossAfter_15 (by decide) ?_
    refine r_iret qL_lossAfter_16 rfl rfl rfl rfl ?_
    exact hk _ wl_0 wl_n
  have Kx0 : ∀ (r : Nat) (g2 : Sh) (i2 : Ni) (j2 : Nj), K (.inl (some (.int (nI 1)))) g2 i2 j2 → zR E mL_lossAfter (zZ E mL_lossAfter K) X 12 [.ref c, .int a0, .ref ol, zJ] [.ref r] g2 i2 j2 1 6 := by
    intro r g2 i2 j2 hk
    refine r_as_4_3 qL_lossAfter_12 rfl rfl ?_
    refine r_iconst (v := nI 1) qL_lossAfter_13 (by decide) ?_
    refine r_iret qL_lossAfter_14 rfl rfl rfl rfl ?_
    exact hk
  refine r_aload_n qL_lossAfter_0 rfl ?_
  refine r_iconst (v := nI 0) qL_lossAfter_1 (by decide) ?_
  refine r_aload_n qL_lossAfter_2 rfl ?_
  refine r_iload_n qL_lossAfter_3 rfl ?_
  refine r_cv1 (cu2 := 1) (su2 := 6) qL_lossAfter_4 kL_120 rfl (by decide +kernel) (c := 3) (by assumption) (by decide) rfl rfl rfl rfl rfl rfl ?_
  refine h _ (fun r g2 i2 j2 hk => ?_)
  rcases r with (_ | v) | ec
  · exact hk.elim
  · cases v with
    | int v =>
      show zR E _ _ X 7 _ _ _ _ _ _ _
      exact Kv v g2 i2 j2 hk.1 hk.2.1 hk.2.2
    | _ => exact hk.elim
  · show zT E _ _ X _ _ _ _ _ _ _ _
    obtain ⟨v, hf, hk⟩ := hk
    by_cases h1 : ec = 1
    · subst h1
      cases (show some (nI 1) = some v from hf)
      exact t_catch (pre := []) (x := (0, 9, 12, 19)) (suf := []) rfl (fun z hz => absurd hz List.not_mem_nil) (by decide) (by decide) cl_19 (by decide) (fun r => Kx0 r g2 i2 j2 hk)
    rw [lf_1, if_neg h1] at hf
    cases hf
set_option maxHeartbeats 4000000 in
set_option maxRecDepth 20000 in
theorem c_L_mark {E : Ev} {g : Sh} {i : Ni} {j : Nj} {K : Kp} {c ol : Nat} {a0 : Int32} (ht : gT g c = 4) (h : ∀ K1 : Kp, (∀ r g' i' j', zLk lf_20 ol K r g' i' j' → K1 r g' i' j') → zCon E mX3_mark [.ref c, .int a0] g i j K1) : zCon E mL_mark [.ref c, .int a0, .ref ol] g i j K := by
  refine zcon_ofH (by decide +kernel) rfl rfl (lo := [.ref c, .int a0, .ref ol, zJ]) rfl (fun X => ?_)
  have Kv : ∀ (v : Int32) (g2 : Sh) (i2 : Ni) (j2 : Nj), gT g2 ol = 14 → gL g2 ol = 1 → (∀ j' : Nj, j' ol 0 = v.toInt64 → (∀ q, q ≠ ol → j' q = j2 q) → K (.inl (some (.int (nI 0)))) g2 i2 j') → zR E mL_mark (zZ E mL_mark K) X 7 [.ref c, .int a0, .ref ol, zJ] [.int v, .int (nI 0), .ref ol] g2 i2 j2 2 12 := by
    intro v g2 i2 j2 t1 t2 hk
    refine r_i2l qL_mark_7 ?_
    refine r_last qL_mark_8 (by assumption) (in_0 t2) ?_
    refine r_goto (t := 18) qL_mark_9 (by decide) ?_
    refine r_iconst (v := nI 0) qL_mark_18 (by decide) ?_
    refine r_iret qL_mark_19 rfl rfl rfl rfl ?_
    exact hk _ wl_0 wl_n
  have Kx0 : ∀ (r : Nat) (g2 : Sh) (i2 : Ni) (j2 : Nj), K (.inl (some (.int (nI 1)))) g2 i2 j2 → zR E mL_mark (zZ E mL_mark K) X 12 [.ref c, .int a0, .ref ol, zJ] [.ref r] g2 i2 j2 2 12 := by
    intro r g2 i2 j2 hk
    refine r_as_4_3 qL_mark_12 rfl rfl ?_
    refine r_iconst (v := nI 1) qL_mark_13 (by decide) ?_
    refine r_iret qL_mark_14 rfl rfl rfl rfl ?_
    exact hk
  have Kx1 : ∀ (r : Nat) (g2 : Sh) (i2 : Ni) (j2 : Nj), K (.inl (some (.int (nI 2)))) g2 i2 j2 → zR E mL_mark (zZ E mL_mark K) X 15 [.ref c, .int a0, .ref ol, zJ] [.ref r] g2 i2 j2 2 12 := by
    intro r g2 i2 j2 hk
    refine r_as_4_3 qL_mark_15 rfl rfl ?_
    refine r_iconst (v := nI 2) qL_mark_16 (by decide) ?_
    refine r_iret qL_mark_17 rfl rfl rfl rfl ?_
    exact hk
  refine r_aload_n qL_mark_0 rfl ?_
  refine r_iconst (v := nI 0) qL_mark_1 (by decide) ?_
  refine r_aload_n qL_mark_2 rfl ?_
  refine r_iload_n qL_mark_3 rfl ?_
  refine r_cv1 (cu2 := 2) (su2 := 12) qL_mark_4 kL_132 rfl (by decide +kernel) (c := 3) (by assumption) (by decide) rfl rfl rfl rfl rfl rfl ?_
  refine h _ (fun r g2 i2 j2 hk => ?_)
  rcases r with (_ | v) | ec
  · exact hk.elim
  · cases v with
    | int v =>
      show zR E _ _ X 7 _ _ _ _ _ _ _
      exact Kv v g2 i2 j2 hk.1 hk.2.1 hk.2.2
    | _ => exact hk.elim
  · show zT E _ _ X _ _ _ _ _ _ _ _
    obtain ⟨v, hf, hk⟩ := hk
    by_cases h2 : ec = 2
    · subst h2
      cases (show some (nI 1) = some v from hf)
      exact t_catch (pre := []) (x := (0, 9, 12, 24)) (suf := [(0, 9, 15, 13)]) rfl (fun z hz => absurd hz List.not_mem_nil) (by decide) (by decide) cl_24 (by decide) (fun r => Kx0 r g2 i2 j2 hk)
    by_cases h0 : ec = 0
    · subst h0
      cases (show some (nI 2) = some v from hf)
      exact t_catch (pre := [(0, 9, 12, 24)]) (x := (0, 9, 15, 13)) (suf := []) rfl (List.forall_mem_cons.mpr ⟨⟨by decide, _, cl_24, by decide⟩, List.forall_mem_nil _⟩) (by decide) (by decide) cl_13 (by decide) (fun r => Kx1 r g2 i2 j2 hk)
    rw [lf_20, if_neg h2, if_neg h0] at hf
    cases hf
set_option maxHeartbeats 4000000 in
set_option maxRecDepth 20000 in
theorem c_L_markRefusal {E : Ev} {g : Sh} {i : Ni} {j : Nj} {K : Kp} {c ol : Nat} {a0 : Int32} (ht : gT g c = 4) (h : ∀ K1 : Kp, (∀ r g' i' j', zLk lf_2 ol K r g' i' j' → K1 r g' i' j') → zCon E mX3_markRefusal [.ref c, .int a0] g i j K1) : zCon E mL_markRefusal [.ref c, .int a0, .ref ol] g i j K := by
  refine zcon_ofH (by decide +kernel) rfl rfl (lo := [.ref c, .int a0, .ref ol, zJ]) rfl (fun X => ?_)
  have Kv : ∀ (v : Int32) (g2 : Sh) (i2 : Ni) (j2 : Nj), gT g2 ol = 14 → gL g2 ol = 1 → (∀ j' : Nj, j' ol 0 = v.toInt64 → (∀ q, q ≠ ol → j' q = j2 q) → K (.inl (some (.int (nI 0)))) g2 i2 j') → zR E mL_markRefusal (zZ E mL_markRefusal K) X 7 [.ref c, .int a0, .ref ol, zJ] [.int v, .int (nI 0), .ref ol] g2 i2 j2 1 6 := by
    intro v g2 i2 j2 t1 t2 hk
    refine r_i2l qL_markRefusal_7 ?_
    refine r_last qL_markRefusal_8 (by assumption) (in_0 t2) ?_
    refine r_goto (t := 15) qL_markRefusal_9 (by decide) ?_
    refine r_iconst (v := nI 0) qL_markRefusal_15 (by decide) ?_
    refine r_iret qL_markRefusal_16 rfl rfl rfl rfl ?_
    exact hk _ wl_0 wl_n
  have Kx0 : ∀ (r : Nat) (g2 : Sh) (i2 : Ni) (j2 : Nj), K (.inl (some (.int (nI 1)))) g2 i2 j2 → zR E mL_markRefusal (zZ E mL_markRefusal K) X 12 [.ref c, .int a0, .ref ol, zJ] [.ref r] g2 i2 j2 1 6 := by
    intro r g2 i2 j2 hk
    refine r_as_4_3 qL_markRefusal_12 rfl rfl ?_
    refine r_iconst (v := nI 1) qL_markRefusal_13 (by decide) ?_
    refine r_iret qL_markRefusal_14 rfl rfl rfl rfl ?_
    exact hk
  refine r_aload_n qL_markRefusal_0 rfl ?_
  refine r_iconst (v := nI 0) qL_markRefusal_1 (by decide) ?_
  refine r_aload_n qL_markRefusal_2 rfl ?_
  refine r_iload_n qL_markRefusal_3 rfl ?_
  refine r_cv1 (cu2 := 1) (su2 := 6) qL_markRefusal_4 kL_99 rfl (by decide +kernel) (c := 3) (by assumption) (by decide) rfl rfl rfl rfl rfl rfl ?_
  refine h _ (fun r g2 i2 j2 hk => ?_)
  rcases r with (_ | v) | ec
  · exact hk.elim
  · cases v with
    | int v =>
      show zR E _ _ X 7 _ _ _ _ _ _ _
      exact Kv v g2 i2 j2 hk.1 hk.2.1 hk.2.2
    | _ => exact hk.elim
  · show zT E _ _ X _ _ _ _ _ _ _ _
    obtain ⟨v, hf, hk⟩ := hk
    by_cases h2 : ec = 2
    · subst h2
      cases (show some (nI 1) = some v from hf)
      exact t_catch (pre := []) (x := (0, 9, 12, 24)) (suf := []) rfl (fun z hz => absurd hz List.not_mem_nil) (by decide) (by decide) cl_24 (by decide) (fun r => Kx0 r g2 i2 j2 hk)
    rw [lf_2, if_neg h2] at hf
    cases hf
set_option maxHeartbeats 4000000 in
set_option maxRecDepth 20000 in
theorem c_L_minutesUntilHeight {E : Ev} {g : Sh} {i : Ni} {j : Nj} {K : Kp} {c ol : Nat} {a0 a1 : Int32} (ht : gT g c = 4) (h : ∀ K1 : Kp, (∀ r g' i' j', zLk lf_21 ol K r g' i' j' → K1 r g' i' j') → zCon E mX3_minutesUntilHeight [.ref c, .int a0, .int a1] g i j K1) : zCon E mL_minutesUntilHeight [.ref c, .int a0, .int a1, .ref ol] g i j K := by
  refine zcon_ofH (by decide +kernel) rfl rfl (lo := [.ref c, .int a0, .int a1, .ref ol, zJ]) rfl (fun X => ?_)
  have Kv : ∀ (v : Int32) (g2 : Sh) (i2 : Ni) (j2 : Nj), gT g2 ol = 14 → gL g2 ol = 1 → (∀ j' : Nj, j' ol 0 = v.toInt64 → (∀ q, q ≠ ol → j' q = j2 q) → K (.inl (some (.int (nI 0)))) g2 i2 j') → zR E mL_minutesUntilHeight (zZ E mL_minutesUntilHeight K) X 8 [.ref c, .int a0, .int a1, .ref ol, zJ] [.int v, .int (nI 0), .ref ol] g2 i2 j2 2 12 := by
    intro v g2 i2 j2 t1 t2 hk
    refine r_i2l qL_minutesUntilHeight_8 ?_
    refine r_last qL_minutesUntilHeight_9 (by assumption) (in_0 t2) ?_
    refine r_goto (t := 21) qL_minutesUntilHeight_10 (by decide) ?_
    refine r_iconst (v := nI 0) qL_minutesUntilHeight_21 (by decide) ?_
    refine r_iret qL_minutesUntilHeight_22 rfl rfl rfl rfl ?_
    exact hk _ wl_0 wl_n
  have Kx0 : ∀ (r : Nat) (g2 : Sh) (i2 : Ni) (j2 : Nj), K (.inl (some (.int (nI 1)))) g2 i2 j2 → zR E mL_minutesUntilHeight (zZ E mL_minutesUntilHeight K) X 13 [.ref c, .int a0, .int a1, .ref ol, zJ] [.ref r] g2 i2 j2 2 12 := by
    intro r g2 i2 j2 hk
    refine r_as_5_4 qL_minutesUntilHeight_13 rfl rfl ?_
    refine r_iconst (v := nI 1) qL_minutesUntilHeight_15 (by decide) ?_
    refine r_iret qL_minutesUntilHeight_16 rfl rfl rfl rfl ?_
    exact hk
  have Kx1 : ∀ (r : Nat) (g2 : Sh) (i2 : Ni) (j2 : Nj), K (.inl (some (.int (nI 2)))) g2 i2 j2 → zR E mL_minutesUntilHeight (zZ E mL_minutesUntilHeight K) X 17 [.ref c, .int a0, .int a1, .ref ol, zJ] [.ref r] g2 i2 j2 2 12 := by
    intro r g2 i2 j2 hk
    refine r_as_5_4 qL_minutesUntilHeight_17 rfl rfl ?_
    refine r_iconst (v := nI 2) qL_minutesUntilHeight_19 (by decide) ?_
    refine r_iret qL_minutesUntilHeight_20 rfl rfl rfl rfl ?_
    exact hk
  refine r_aload_n qL_minutesUntilHeight_0 rfl ?_
  refine r_iconst (v := nI 0) qL_minutesUntilHeight_1 (by decide) ?_
  refine r_aload_n qL_minutesUntilHeight_2 rfl ?_
  refine r_iload_n qL_minutesUntilHeight_3 rfl ?_
  refine r_iload_n qL_minutesUntilHeight_4 rfl ?_
  refine r_cv2 (cu2 := 2) (su2 := 12) qL_minutesUntilHeight_5 kL_114 rfl (by decide +kernel) (c := 3) (by assumption) (by decide) rfl rfl rfl rfl rfl rfl ?_
  refine h _ (fun r g2 i2 j2 hk => ?_)
  rcases r with (_ | v) | ec
  · exact hk.elim
  · cases v with
    | int v =>
      show zR E _ _ X 8 _ _ _ _ _ _ _
      exact Kv v g2 i2 j2 hk.1 hk.2.1 hk.2.2
    | _ => exact hk.elim
  · show zT E _ _ X _ _ _ _ _ _ _ _
    obtain ⟨v, hf, hk⟩ := hk
    by_cases h2 : ec = 2
    · subst h2
      cases (show some (nI 1) = some v from hf)
      exact t_catch (pre := []) (x := (0, 10, 13, 24)) (suf := [(0, 10, 17, 19)]) rfl (fun z hz => absurd hz List.not_mem_nil) (by decide) (by decide) cl_24 (by decide) (fun r => Kx0 r g2 i2 j2 hk)
    by_cases h1 : ec = 1
    · subst h1
      cases (show some (nI 2) = some v from hf)
      exact t_catch (pre := [(0, 10, 13, 24)]) (x := (0, 10, 17, 19)) (suf := []) rfl (List.forall_mem_cons.mpr ⟨⟨by decide, _, cl_24, by decide⟩, List.forall_mem_nil _⟩) (by decide) (by decide) cl_19 (by decide) (fun r => Kx1 r g2 i2 j2 hk)
    rw [lf_21, if_neg h2, if_neg h1] at hf
    cases hf
set_option maxHeartbeats 4000000 in
set_option maxRecDepth 20000 in
theorem c_L_minutesUntilSettled {E : Ev} {g : Sh} {i : Ni} {j : Nj} {K : Kp} {c ol : Nat} {a0 : Int32} (ht : gT g c = 4) (h : ∀ K1 : Kp, (∀ r g' i' j', zLk lf_2 ol K r g' i' j' → K1 r g' i' j') → zCon E mX3_minutesUntilSettled [.ref c, .int a0] g i j K1) : zCon E mL_minutesUntilSettled [.ref c, .int a0, .ref ol] g i j K := by
  refine zcon_ofH (by decide +kernel) rfl rfl (lo := [.ref c, .int a0, .ref ol, zJ]) rfl (fun X => ?_)
  have Kv : ∀ (v : Int32) (g2 : Sh) (i2 : Ni) (j2 : Nj), gT g2 ol = 14 → gL g2 ol = 1 → (∀ j' : Nj, j' ol 0 = v.toInt64 → (∀ q, q ≠ ol → j' q = j2 q) → K (.inl (some (.int (nI 0)))) g2 i2 j') → zR E mL_minutesUntilSettled (zZ E mL_minutesUntilSettled K) X 7 [.ref c, .int a0, .ref ol, zJ] [.int v, .int (nI 0), .ref ol] g2 i2 j2 1 6 := by
    intro v g2 i2 j2 t1 t2 hk
    refine r_i2l qL_minutesUntilSettled_7 ?_
    refine r_last qL_minutesUntilSettled_8 (by assumption) (in_0 t2) ?_
    refine r_goto (t := 15) qL_minutesUntilSettled_9 (by decide) ?_
    refine r_iconst (v := nI 0) qL_minutesUntilSettled_15 (by decide) ?_
    refine r_iret qL_minutesUntilSettled_16 rfl rfl rfl rfl ?_
    exact hk _ wl_0 wl_n
  have Kx0 : ∀ (r : Nat) (g2 : Sh) (i2 : Ni) (j2 : Nj), K (.inl (some (.int (nI 1)))) g2 i2 j2 → zR E mL_minutesUntilSettled (zZ E mL_minutesUntilSettled K) X 12 [.ref c, .int a0, .ref ol, zJ] [.ref r] g2 i2 j2 1 6 := by
    intro r g2 i2 j2 hk
    refine r_as_4_3 qL_minutesUntilSettled_12 rfl rfl ?_
    refine r_iconst (v := nI 1) qL_minutesUntilSettled_13 (by decide) ?_
    refine r_iret qL_minutesUntilSettled_14 rfl rfl rfl rfl ?_
    exact hk
  refine r_aload_n qL_minutesUntilSettled_0 rfl ?_
  refine r_iconst (v := nI 0) qL_minutesUntilSettled_1 (by decide) ?_
  refine r_aload_n qL_minutesUntilSettled_2 rfl ?_
  refine r_iload_n qL_minutesUntilSettled_3 rfl ?_
  refine r_cv1 (cu2 := 1) (su2 := 6) qL_minutesUntilSettled_4 kL_108 rfl (by decide +kernel) (c := 3) (by assumption) (by decide) rfl rfl rfl rfl rfl rfl ?_
  refine h _ (fun r g2 i2 j2 hk => ?_)
  rcases r with (_ | v) | ec
  · exact hk.elim
  · cases v with
    | int v =>
      show zR E _ _ X 7 _ _ _ _ _ _ _
      exact Kv v g2 i2 j2 hk.1 hk.2.1 hk.2.2
    | _ => exact hk.elim
  · show zT E _ _ X _ _ _ _ _ _ _ _
    obtain ⟨v, hf, hk⟩ := hk
    by_cases h2 : ec = 2
    · subst h2
      cases (show some (nI 1) = some v from hf)
      exact t_catch (pre := []) (x := (0, 9, 12, 24)) (suf := []) rfl (fun z hz => absurd hz List.not_mem_nil) (by decide) (by decide) cl_24 (by decide) (fun r => Kx0 r g2 i2 j2 hk)
    rw [lf_2, if_neg h2] at hf
    cases hf
set_option maxHeartbeats 4000000 in
set_option maxRecDepth 20000 in
theorem c_L_minutesUntilSpill {E : Ev} {g : Sh} {i : Ni} {j : Nj} {K : Kp} {c ol : Nat} {a0 : Int32} (ht : gT g c = 4) (h : ∀ K1 : Kp, (∀ r g' i' j', zLk lf_2 ol K r g' i' j' → K1 r g' i' j') → zCon E mX3_minutesUntilSpill [.ref c, .int a0] g i j K1) : zCon E mL_minutesUntilSpill [.ref c, .int a0, .ref ol] g i j K := by
  refine zcon_ofH (by decide +kernel) rfl rfl (lo := [.ref c, .int a0, .ref ol, zJ]) rfl (fun X => ?_)
  have Kv : ∀ (v : Int32) (g2 : Sh) (i2 : Ni) (j2 : Nj), gT g2 ol = 14 → gL g2 ol = 1 → (∀ j' : Nj, j' ol 0 = v.toInt64 → (∀ q, q ≠ ol → j' q = j2 q) → K (.inl (some (.int (nI 0)))) g2 i2 j') → zR E mL_minutesUntilSpill (zZ E mL_minutesUntilSpill K) X 7 [.ref c, .int a0, .ref ol, zJ] [.int v, .int (nI 0), .ref ol] g2 i2 j2 1 6 := by
    intro v g2 i2 j2 t1 t2 hk
    refine r_i2l qL_minutesUntilSpill_7 ?_
    refine r_last qL_minutesUntilSpill_8 (by assumption) (in_0 t2) ?_
    refine r_goto (t := 15) qL_minutesUntilSpill_9 (by decide) ?_
    refine r_iconst (v := nI 0) qL_minutesUntilSpill_15 (by decide) ?_
    refine r_iret qL_minutesUntilSpill_16 rfl rfl rfl rfl ?_
    exact hk _ wl_0 wl_n
  have Kx0 : ∀ (r : Nat) (g2 : Sh) (i2 : Ni) (j2 : Nj), K (.inl (some (.int (nI 1)))) g2 i2 j2 → zR E mL_minutesUntilSpill (zZ E mL_minutesUntilSpill K) X 12 [.ref c, .int a0, .ref ol, zJ] [.ref r] g2 i2 j2 1 6 := by
    intro r g2 i2 j2 hk
    refine r_as_4_3 qL_minutesUntilSpill_12 rfl rfl ?_
    refine r_iconst (v := nI 1) qL_minutesUntilSpill_13 (by decide) ?_
    refine r_iret qL_minutesUntilSpill_14 rfl rfl rfl rfl ?_
    exact hk
  refine r_aload_n qL_minutesUntilSpill_0 rfl ?_
  refine r_iconst (v := nI 0) qL_minutesUntilSpill_1 (by decide) ?_
  refine r_aload_n qL_minutesUntilSpill_2 rfl ?_
  refine r_iload_n qL_minutesUntilSpill_3 rfl ?_
  refine r_cv1 (cu2 := 1) (su2 := 6) qL_minutesUntilSpill_4 kL_111 rfl (by decide +kernel) (c := 3) (by assumption) (by decide) rfl rfl rfl rfl rfl rfl ?_
  refine h _ (fun r g2 i2 j2 hk => ?_)
  rcases r with (_ | v) | ec
  · exact hk.elim
  · cases v with
    | int v =>
      show zR E _ _ X 7 _ _ _ _ _ _ _
      exact Kv v g2 i2 j2 hk.1 hk.2.1 hk.2.2
    | _ => exact hk.elim
  · show zT E _ _ X _ _ _ _ _ _ _ _
    obtain ⟨v, hf, hk⟩ := hk
    by_cases h2 : ec = 2
    · subst h2
      cases (show some (nI 1) = some v from hf)
      exact t_catch (pre := []) (x := (0, 9, 12, 24)) (suf := []) rfl (fun z hz => absurd hz List.not_mem_nil) (by decide) (by decide) cl_24 (by decide) (fun r => Kx0 r g2 i2 j2 hk)
    rw [lf_2, if_neg h2] at hf
    cases hf
def lf_3 (ec : Nat) : Option Int32 := if ec = 3 then some (nI 1) else none
set_option maxHeartbeats 4000000 in
set_option maxRecDepth 20000 in
theorem c_L_outputByte {E : Ev} {g : Sh} {i : Ni} {j : Nj} {K : Kp} {c ol : Nat} {a0 : Int32} (ht : gT g c = 4) (h : ∀ K1 : Kp, (∀ r g' i' j', zLk lf_3 ol K r g' i' j' → K1 r g' i' j') → zCon E mX3_outputByte [.ref c, .int a0] g i j K1) : zCon E mL_outputByte [.ref c, .int a0, .ref ol] g i j K := by
  refine zcon_ofH (by decide +kernel) rfl rfl (lo := [.ref c, .int a0, .ref ol, zJ]) rfl (fun X => ?_)
  have Kv : ∀ (v : Int32) (g2 : Sh) (i2 : Ni) (j2 : Nj), gT g2 ol = 14 → gL g2 ol = 1 → (∀ j' : Nj, j' ol 0 = v.toInt64 → (∀ q, q ≠ ol → j' q = j2 q) → K (.inl (some (.int (nI 0)))) g2 i2 j') → zR E mL_outputByte (zZ E mL_outputByte K) X 7 [.ref c, .int a0, .ref ol, zJ] [.int v, .int (nI 0), .ref ol] g2 i2 j2 1 6 := by
    intro v g2 i2 j2 t1 t2 hk
    refine r_i2l qL_outputByte_7 ?_
    refine r_last qL_outputByte_8 (by assumption) (in_0 t2) ?_
    refine r_goto (t := 15) qL_outputByte_9 (by decide) ?_
    refine r_iconst (v := nI 0) qL_outputByte_15 (by decide) ?_
    refine r_iret qL_outputByte_16 rfl rfl rfl rfl ?_
    exact hk _ wl_0 wl_n
  have Kx0 : ∀ (r : Nat) (g2 : Sh) (i2 : Ni) (j2 : Nj), K (.inl (some (.int (nI 1)))) g2 i2 j2 → zR E mL_outputByte (zZ E mL_outputByte K) X 12 [.ref c, .int a0, .ref ol, zJ] [.ref r] g2 i2 j2 1 6 := by
    intro r g2 i2 j2 hk
    refine r_as_4_3 qL_outputByte_12 rfl rfl ?_
    refine r_iconst (v := nI 1) qL_outputByte_13 (by decide) ?_
    refine r_iret qL_outputByte_14 rfl rfl rfl rfl ?_
    exact hk
  refine r_aload_n qL_outputByte_0 rfl ?_
  refine r_iconst (v := nI 0) qL_outputByte_1 (by decide) ?_
  refine r_aload_n qL_outputByte_2 rfl ?_
  refine r_iload_n qL_outputByte_3 rfl ?_
  refine r_cv1 (cu2 := 1) (su2 := 6) qL_outputByte_4 kL_167 rfl (by decide +kernel) (c := 3) (by assumption) (by decide) rfl rfl rfl rfl rfl rfl ?_
  refine h _ (fun r g2 i2 j2 hk => ?_)
  rcases r with (_ | v) | ec
  · exact hk.elim
  · cases v with
    | int v =>
      show zR E _ _ X 7 _ _ _ _ _ _ _
      exact Kv v g2 i2 j2 hk.1 hk.2.1 hk.2.2
    | _ => exact hk.elim
  · show zT E _ _ X _ _ _ _ _ _ _ _
    obtain ⟨v, hf, hk⟩ := hk
    by_cases h3 : ec = 3
    · subst h3
      cases (show some (nI 1) = some v from hf)
      exact t_catch (pre := []) (x := (0, 9, 12, 73)) (suf := []) rfl (fun z hz => absurd hz List.not_mem_nil) (by decide) (by decide) cl_73 (by decide) (fun r => Kx0 r g2 i2 j2 hk)
    rw [lf_3, if_neg h3] at hf
    cases hf
set_option maxHeartbeats 4000000 in
set_option maxRecDepth 20000 in
theorem c_L_pass {E : Ev} {g : Sh} {i : Ni} {j : Nj} {K : Kp} {c ol : Nat} {a0 : Int32} (ht : gT g c = 4) (h : ∀ K1 : Kp, (∀ r g' i' j', zLk lf_1 ol K r g' i' j' → K1 r g' i' j') → zCon E mX3_pass [.ref c, .int a0] g i j K1) : zCon E mL_pass [.ref c, .int a0, .ref ol] g i j K := by
  refine zcon_ofH (by decide +kernel) rfl rfl (lo := [.ref c, .int a0, .ref ol, zJ]) rfl (fun X => ?_)
  have Kv : ∀ (v : Int32) (g2 : Sh) (i2 : Ni) (j2 : Nj), gT g2 ol = 14 → gL g2 ol = 1 → (∀ j' : Nj, j' ol 0 = v.toInt64 → (∀ q, q ≠ ol → j' q = j2 q) → K (.inl (some (.int (nI 0)))) g2 i2 j') → zR E mL_pass (zZ E mL_pass K) X 7 [.ref c, .int a0, .ref ol, zJ] [.int v, .int (nI 0), .ref ol] g2 i2 j2 1 6 := by
    intro v g2 i2 j2 t1 t2 hk
    refine r_i2l qL_pass_7 ?_
    refine r_last qL_pass_8 (by assumption) (in_0 t2) ?_
    refine r_goto (t := 15) qL_pass_9 (by decide) ?_
    refine r_iconst (v := nI 0) qL_pass_15 (by decide) ?_
    refine r_iret qL_pass_16 rfl rfl rfl rfl ?_
    exact hk _ wl_0 wl_n
  have Kx0 : ∀ (r : Nat) (g2 : Sh) (i2 : Ni) (j2 : Nj), K (.inl (some (.int (nI 1)))) g2 i2 j2 → zR E mL_pass (zZ E mL_pass K) X 12 [.ref c, .int a0, .ref ol, zJ] [.ref r] g2 i2 j2 1 6 := by
    intro r g2 i2 j2 hk
    refine r_as_4_3 qL_pass_12 rfl rfl ?_
    refine r_iconst (v := nI 1) qL_pass_13 (by decide) ?_
    refine r_iret qL_pass_14 rfl rfl rfl rfl ?_
    exact hk
  refine r_aload_n qL_pass_0 rfl ?_
  refine r_iconst (v := nI 0) qL_pass_1 (by decide) ?_
  refine r_aload_n qL_pass_2 rfl ?_
  refine r_iload_n qL_pass_3 rfl ?_
  refine r_cv1 (cu2 := 1) (su2 := 6) qL_pass_4 kL_151 rfl (by decide +kernel) (c := 3) (by assumption) (by decide) rfl rfl rfl rfl rfl rfl ?_
  refine h _ (fun r g2 i2 j2 hk => ?_)
  rcases r with (_ | v) | ec
  · exact hk.elim
  · cases v with
    | int v =>
      show zR E _ _ X 7 _ _ _ _ _ _ _
      exact Kv v g2 i2 j2 hk.1 hk.2.1 hk.2.2
    | _ => exact hk.elim
  · show zT E _ _ X _ _ _ _ _ _ _ _
    obtain ⟨v, hf, hk⟩ := hk
    by_cases h1 : ec = 1
    · subst h1
      cases (show some (nI 1) = some v from hf)
      exact t_catch (pre := []) (x := (0, 9, 12, 19)) (suf := []) rfl (fun z hz => absurd hz List.not_mem_nil) (by decide) (by decide) cl_19 (by decide) (fun r => Kx0 r g2 i2 j2 hk)
    rw [lf_1, if_neg h1] at hf
    cases hf
set_option maxHeartbeats 4000000 in
set_option maxRecDepth 20000 in
theorem c_L_pointCount {E : Ev} {g : Sh} {i : Ni} {j : Nj} {K : Kp} {c ol : Nat} {a0 : Int32} (ht : gT g c = 4) (h : ∀ K1 : Kp, (∀ r g' i' j', zLk lf_2 ol K r g' i' j' → K1 r g' i' j') → zCon E mX3_pointCount [.ref c, .int a0] g i j K1) : zCon E mL_pointCount [.ref c, .int a0, .ref ol] g i j K := by
  refine zcon_ofH (by decide +kernel) rfl rfl (lo := [.ref c, .int a0, .ref ol, zJ]) rfl (fun X => ?_)
  have Kv : ∀ (v : Int32) (g2 : Sh) (i2 : Ni) (j2 : Nj), gT g2 ol = 14 → gL g2 ol = 1 → (∀ j' : Nj, j' ol 0 = v.toInt64 → (∀ q, q ≠ ol → j' q = j2 q) → K (.inl (some (.int (nI 0)))) g2 i2 j') → zR E mL_pointCount (zZ E mL_pointCount K) X 7 [.ref c, .int a0, .ref ol, zJ] [.int v, .int (nI 0), .ref ol] g2 i2 j2 1 6 := by
    intro v g2 i2 j2 t1 t2 hk
    refine r_i2l qL_pointCount_7 ?_
    refine r_last qL_pointCount_8 (by assumption) (in_0 t2) ?_
    refine r_goto (t := 15) qL_pointCount_9 (by decide) ?_
    refine r_iconst (v := nI 0) qL_pointCount_15 (by decide) ?_
    refine r_iret qL_pointCount_16 rfl rfl rfl rfl ?_
    exact hk _ wl_0 wl_n
  have Kx0 : ∀ (r : Nat) (g2 : Sh) (i2 : Ni) (j2 : Nj), K (.inl (some (.int (nI 1)))) g2 i2 j2 → zR E mL_pointCount (zZ E mL_pointCount K) X 12 [.ref c, .int a0, .ref ol, zJ] [.ref r] g2 i2 j2 1 6 := by
    intro r g2 i2 j2 hk
    refine r_as_4_3 qL_pointCount_12 rfl rfl ?_
    refine r_iconst (v := nI 1) qL_pointCount_13 (by decide) ?_
    refine r_iret qL_pointCount_14 rfl rfl rfl rfl ?_
    exact hk
  refine r_aload_n qL_pointCount_0 rfl ?_
  refine r_iconst (v := nI 0) qL_pointCount_1 (by decide) ?_
  refine r_aload_n qL_pointCount_2 rfl ?_
  refine r_iload_n qL_pointCount_3 rfl ?_
  refine r_cv1 (cu2 := 1) (su2 := 6) qL_pointCount_4 kL_67 rfl (by decide +kernel) (c := 3) (by assumption) (by decide) rfl rfl rfl rfl rfl rfl ?_
  refine h _ (fun r g2 i2 j2 hk => ?_)
  rcases r with (_ | v) | ec
  · exact hk.elim
  · cases v with
    | int v =>
      show zR E _ _ X 7 _ _ _ _ _ _ _
      exact Kv v g2 i2 j2 hk.1 hk.2.1 hk.2.2
    | _ => exact hk.elim
  · show zT E _ _ X _ _ _ _ _ _ _ _
    obtain ⟨v, hf, hk⟩ := hk
    by_cases h2 : ec = 2
    · subst h2
      cases (show some (nI 1) = some v from hf)
      exact t_catch (pre := []) (x := (0, 9, 12, 24)) (suf := []) rfl (fun z hz => absurd hz List.not_mem_nil) (by decide) (by decide) cl_24 (by decide) (fun r => Kx0 r g2 i2 j2 hk)
    rw [lf_2, if_neg h2] at hf
    cases hf
set_option maxHeartbeats 4000000 in
set_option maxRecDepth 20000 in
theorem c_L_pointDegrees {E : Ev} {g : Sh} {i : Ni} {j : Nj} {K : Kp} {c ol : Nat} {a0 a1 : Int32} (ht : gT g c = 4) (h : ∀ K1 : Kp, (∀ r g' i' j', zLk lf_23 ol K r g' i' j' → K1 r g' i' j') → zCon E mX3_pointDegrees [.ref c, .int a0, .int a1] g i j K1) : zCon E mL_pointDegrees [.ref c, .int a0, .int a1, .ref ol] g i j K := by
  refine zcon_ofH (by decide +kernel) rfl rfl (lo := [.ref c, .int a0, .int a1, .ref ol, zJ]) rfl (fun X => ?_)
  have Kv : ∀ (v : Int32) (g2 : Sh) (i2 : Ni) (j2 : Nj), gT g2 ol = 14 → gL g2 ol = 1 → (∀ j' : Nj, j' ol 0 = v.toInt64 → (∀ q, q ≠ ol → j' q = j2 q) → K (.inl (some (.int (nI 0)))) g2 i2 j') → zR E mL_pointDegrees (zZ E mL_pointDegrees K) X 8 [.ref c, .int a0, .int a1, .ref ol, zJ] [.int v, .int (nI 0), .ref ol] g2 i2 j2 2 12 := by
    intro v g2 i2 j2 t1 t2 hk
    refine r_i2l qL_pointDegrees_8 ?_
    refine r_last qL_pointDegrees_9 (by assumption) (in_0 t2) ?_
    refine r_goto (t := 21) qL_pointDegrees_10 (by decide) ?_
    refine r_iconst (v := nI 0) qL_pointDegrees_21 (by decide) ?_
    refine r_iret qL_pointDegrees_22 rfl rfl rfl rfl ?_
    exact hk _ wl_0 wl_n
  have Kx0 : ∀ (r : Nat) (g2 : Sh) (i2 : Ni) (j2 : Nj), K (.inl (some (.int (nI 1)))) g2 i2 j2 → zR E mL_pointDegrees (zZ E mL_pointDegrees K) X 13 [.ref c, .int a0, .int a1, .ref ol, zJ] [.ref r] g2 i2 j2 2 12 := by
    intro r g2 i2 j2 hk
    refine r_as_5_4 qL_pointDegrees_13 rfl rfl ?_
    refine r_iconst (v := nI 1) qL_pointDegrees_15 (by decide) ?_
    refine r_iret qL_pointDegrees_16 rfl rfl rfl rfl ?_
    exact hk
  have Kx1 : ∀ (r : Nat) (g2 : Sh) (i2 : Ni) (j2 : Nj), K (.inl (some (.int (nI 2)))) g2 i2 j2 → zR E mL_pointDegrees (zZ E mL_pointDegrees K) X 17 [.ref c, .int a0, .int a1, .ref ol, zJ] [.ref r] g2 i2 j2 2 12 := by
    intro r g2 i2 j2 hk
    refine r_as_5_4 qL_pointDegrees_17 rfl rfl ?_
    refine r_iconst (v := nI 2) qL_pointDegrees_19 (by decide) ?_
    refine r_iret qL_pointDegrees_20 rfl rfl rfl rfl ?_
    exact hk
  refine r_aload_n qL_pointDegrees_0 rfl ?_
  refine r_iconst (v := nI 0) qL_pointDegrees_1 (by decide) ?_
  refine r_aload_n qL_pointDegrees_2 rfl ?_
  refine r_iload_n qL_pointDegrees_3 rfl ?_
  refine r_iload_n qL_pointDegrees_4 rfl ?_
  refine r_cv2 (cu2 := 2) (su2 := 12) qL_pointDegrees_5 kL_70 rfl (by decide +kernel) (c := 3) (by assumption) (by decide) rfl rfl rfl rfl rfl rfl ?_
  refine h _ (fun r g2 i2 j2 hk => ?_)
  rcases r with (_ | v) | ec
  · exact hk.elim
  · cases v with
    | int v =>
      show zR E _ _ X 8 _ _ _ _ _ _ _
      exact Kv v g2 i2 j2 hk.1 hk.2.1 hk.2.2
    | _ => exact hk.elim
  · show zT E _ _ X _ _ _ _ _ _ _ _
    obtain ⟨v, hf, hk⟩ := hk
    by_cases h2 : ec = 2
    · subst h2
      cases (show some (nI 1) = some v from hf)
      exact t_catch (pre := []) (x := (0, 10, 13, 24)) (suf := [(0, 10, 17, 73)]) rfl (fun z hz => absurd hz List.not_mem_nil) (by decide) (by decide) cl_24 (by decide) (fun r => Kx0 r g2 i2 j2 hk)
    by_cases h3 : ec = 3
    · subst h3
      cases (show some (nI 2) = some v from hf)
      exact t_catch (pre := [(0, 10, 13, 24)]) (x := (0, 10, 17, 73)) (suf := []) rfl (List.forall_mem_cons.mpr ⟨⟨by decide, _, cl_24, by decide⟩, List.forall_mem_nil _⟩) (by decide) (by decide) cl_73 (by decide) (fun r => Kx1 r g2 i2 j2 hk)
    rw [lf_23, if_neg h2, if_neg h3] at hf
    cases hf
set_option maxHeartbeats 4000000 in
set_option maxRecDepth 20000 in
theorem c_L_pointHeight {E : Ev} {g : Sh} {i : Ni} {j : Nj} {K : Kp} {c ol : Nat} {a0 a1 : Int32} (ht : gT g c = 4) (h : ∀ K1 : Kp, (∀ r g' i' j', zLk lf_23 ol K r g' i' j' → K1 r g' i' j') → zCon E mX3_pointHeight [.ref c, .int a0, .int a1] g i j K1) : zCon E mL_pointHeight [.ref c, .int a0, .int a1, .ref ol] g i j K := by
  refine zcon_ofH (by decide +kernel) rfl rfl (lo := [.ref c, .int a0, .int a1, .ref ol, zJ]) rfl (fun X => ?_)
  have Kv : ∀ (v : Int32) (g2 : Sh) (i2 : Ni) (j2 : Nj), gT g2 ol = 14 → gL g2 ol = 1 → (∀ j' : Nj, j' ol 0 = v.toInt64 → (∀ q, q ≠ ol → j' q = j2 q) → K (.inl (some (.int (nI 0)))) g2 i2 j') → zR E mL_pointHeight (zZ E mL_pointHeight K) X 8 [.ref c, .int a0, .int a1, .ref ol, zJ] [.int v, .int (nI 0), .ref ol] g2 i2 j2 2 12 := by
    intro v g2 i2 j2 t1 t2 hk
    refine r_i2l qL_pointHeight_8 ?_
    refine r_last qL_pointHeight_9 (by assumption) (in_0 t2) ?_
    refine r_goto (t := 21) qL_pointHeight_10 (by decide) ?_
    refine r_iconst (v := nI 0) qL_pointHeight_21 (by decide) ?_
    refine r_iret qL_pointHeight_22 rfl rfl rfl rfl ?_
    exact hk _ wl_0 wl_n
  have Kx0 : ∀ (r : Nat) (g2 : Sh) (i2 : Ni) (j2 : Nj), K (.inl (some (.int (nI 1)))) g2 i2 j2 → zR E mL_pointHeight (zZ E mL_pointHeight K) X 13 [.ref c, .int a0, .int a1, .ref ol, zJ] [.ref r] g2 i2 j2 2 12 := by
    intro r g2 i2 j2 hk
    refine r_as_5_4 qL_pointHeight_13 rfl rfl ?_
    refine r_iconst (v := nI 1) qL_pointHeight_15 (by decide) ?_
    refine r_iret qL_pointHeight_16 rfl rfl rfl rfl ?_
    exact hk
  have Kx1 : ∀ (r : Nat) (g2 : Sh) (i2 : Ni) (j2 : Nj), K (.inl (some (.int (nI 2)))) g2 i2 j2 → zR E mL_pointHeight (zZ E mL_pointHeight K) X 17 [.ref c, .int a0, .int a1, .ref ol, zJ] [.ref r] g2 i2 j2 2 12 := by
    intro r g2 i2 j2 hk
    refine r_as_5_4 qL_pointHeight_17 rfl rfl ?_
    refine r_iconst (v := nI 2) qL_pointHeight_19 (by decide) ?_
    refine r_iret qL_pointHeight_20 rfl rfl rfl rfl ?_
    exact hk
  refine r_aload_n qL_pointHeight_0 rfl ?_
  refine r_iconst (v := nI 0) qL_pointHeight_1 (by decide) ?_
  refine r_aload_n qL_pointHeight_2 rfl ?_
  refine r_iload_n qL_pointHeight_3 rfl ?_
  refine r_iload_n qL_pointHeight_4 rfl ?_
  refine r_cv2 (cu2 := 2) (su2 := 12) qL_pointHeight_5 kL_75 rfl (by decide +kernel) (c := 3) (by assumption) (by decide) rfl rfl rfl rfl rfl rfl ?_
  refine h _ (fun r g2 i2 j2 hk => ?_)
  rcases r with (_ | v) | ec
  · exact hk.elim
  · cases v with
    | int v =>
      show zR E _ _ X 8 _ _ _ _ _ _ _
      exact Kv v g2 i2 j2 hk.1 hk.2.1 hk.2.2
    | _ => exact hk.elim
  · show zT E _ _ X _ _ _ _ _ _ _ _
    obtain ⟨v, hf, hk⟩ := hk
    by_cases h2 : ec = 2
    · subst h2
      cases (show some (nI 1) = some v from hf)
      exact t_catch (pre := []) (x := (0, 10, 13, 24)) (suf := [(0, 10, 17, 73)]) rfl (fun z hz => absurd hz List.not_mem_nil) (by decide) (by decide) cl_24 (by decide) (fun r => Kx0 r g2 i2 j2 hk)
    by_cases h3 : ec = 3
    · subst h3
      cases (show some (nI 2) = some v from hf)
      exact t_catch (pre := [(0, 10, 13, 24)]) (x := (0, 10, 17, 73)) (suf := []) rfl (List.forall_mem_cons.mpr ⟨⟨by decide, _, cl_24, by decide⟩, List.forall_mem_nil _⟩) (by decide) (by decide) cl_73 (by decide) (fun r => Kx1 r g2 i2 j2 hk)
    rw [lf_23, if_neg h2, if_neg h3] at hf
    cases hf
set_option maxHeartbeats 4000000 in
set_option maxRecDepth 20000 in
theorem c_L_printTube {E : Ev} {g : Sh} {i : Ni} {j : Nj} {K : Kp} {c ol : Nat} {a0 : Int32} (ht : gT g c = 4) (h : ∀ K1 : Kp, (∀ r g' i' j', zLk lf_2 ol K r g' i' j' → K1 r g' i' j') → zCon E mX3_printTube [.ref c, .int a0] g i j K1) : zCon E mL_printTube [.ref c, .int a0, .ref ol] g i j K := by
  refine zcon_ofH (by decide +kernel) rfl rfl (lo := [.ref c, .int a0, .ref ol, zJ]) rfl (fun X => ?_)
  have Kv : ∀ (v : Int32) (g2 : Sh) (i2 : Ni) (j2 : Nj), gT g2 ol = 14 → gL g2 ol = 1 → (∀ j' : Nj, j' ol 0 = v.toInt64 → (∀ q, q ≠ ol → j' q = j2 q) → K (.inl (some (.int (nI 0)))) g2 i2 j') → zR E mL_printTube (zZ E mL_printTube K) X 7 [.ref c, .int a0, .ref ol, zJ] [.int v, .int (nI 0), .ref ol] g2 i2 j2 14 1046 := by
    intro v g2 i2 j2 t1 t2 hk
    refine r_i2l qL_printTube_7 ?_
    refine r_last qL_printTube_8 (by assumption) (in_0 t2) ?_
    refine r_goto (t := 15) qL_printTube_9 (by decide) ?_
    refine r_iconst (v := nI 0) qL_printTube_15 (by decide) ?_
    refine r_iret qL_printTube_16 rfl rfl rfl rfl ?_
    exact hk _ wl_0 wl_n
  have Kx0 : ∀ (r : Nat) (g2 : Sh) (i2 : Ni) (j2 : Nj), K (.inl (some (.int (nI 1)))) g2 i2 j2 → zR E mL_printTube (zZ E mL_printTube K) X 12 [.ref c, .int a0, .ref ol, zJ] [.ref r] g2 i2 j2 14 1046 := by
    intro r g2 i2 j2 hk
    refine r_as_4_3 qL_printTube_12 rfl rfl ?_
    refine r_iconst (v := nI 1) qL_printTube_13 (by decide) ?_
    refine r_iret qL_printTube_14 rfl rfl rfl rfl ?_
    exact hk
  refine r_aload_n qL_printTube_0 rfl ?_
  refine r_iconst (v := nI 0) qL_printTube_1 (by decide) ?_
  refine r_aload_n qL_printTube_2 rfl ?_
  refine r_iload_n qL_printTube_3 rfl ?_
  refine r_cv1 (cu2 := 14) (su2 := 1046) qL_printTube_4 kL_164 rfl (by decide +kernel) (c := 3) (by assumption) (by decide) rfl rfl rfl rfl rfl rfl ?_
  refine h _ (fun r g2 i2 j2 hk => ?_)
  rcases r with (_ | v) | ec
  · exact hk.elim
  · cases v with
    | int v =>
      show zR E _ _ X 7 _ _ _ _ _ _ _
      exact Kv v g2 i2 j2 hk.1 hk.2.1 hk.2.2
    | _ => exact hk.elim
  · show zT E _ _ X _ _ _ _ _ _ _ _
    obtain ⟨v, hf, hk⟩ := hk
    by_cases h2 : ec = 2
    · subst h2
      cases (show some (nI 1) = some v from hf)
      exact t_catch (pre := []) (x := (0, 9, 12, 24)) (suf := []) rfl (fun z hz => absurd hz List.not_mem_nil) (by decide) (by decide) cl_24 (by decide) (fun r => Kx0 r g2 i2 j2 hk)
    rw [lf_2, if_neg h2] at hf
    cases hf
set_option maxHeartbeats 4000000 in
set_option maxRecDepth 20000 in
theorem c_L_reading {E : Ev} {g : Sh} {i : Ni} {j : Nj} {K : Kp} {c ol : Nat} {a0 : Int32} (ht : gT g c = 4) (h : ∀ K1 : Kp, (∀ r g' i' j', zLk lf_23 ol K r g' i' j' → K1 r g' i' j') → zCon E mX3_reading [.ref c, .int a0] g i j K1) : zCon E mL_reading [.ref c, .int a0, .ref ol] g i j K := by
  refine zcon_ofH (by decide +kernel) rfl rfl (lo := [.ref c, .int a0, .ref ol, zJ]) rfl (fun X => ?_)
  have Kv : ∀ (v : Int32) (g2 : Sh) (i2 : Ni) (j2 : Nj), gT g2 ol = 14 → gL g2 ol = 1 → (∀ j' : Nj, j' ol 0 = v.toInt64 → (∀ q, q ≠ ol → j' q = j2 q) → K (.inl (some (.int (nI 0)))) g2 i2 j') → zR E mL_reading (zZ E mL_reading K) X 7 [.ref c, .int a0, .ref ol, zJ] [.int v, .int (nI 0), .ref ol] g2 i2 j2 2 12 := by
    intro v g2 i2 j2 t1 t2 hk
    refine r_i2l qL_reading_7 ?_
    refine r_last qL_reading_8 (by assumption) (in_0 t2) ?_
    refine r_goto (t := 18) qL_reading_9 (by decide) ?_
    refine r_iconst (v := nI 0) qL_reading_18 (by decide) ?_
    refine r_iret qL_reading_19 rfl rfl rfl rfl ?_
    exact hk _ wl_0 wl_n
  have Kx0 : ∀ (r : Nat) (g2 : Sh) (i2 : Ni) (j2 : Nj), K (.inl (some (.int (nI 1)))) g2 i2 j2 → zR E mL_reading (zZ E mL_reading K) X 12 [.ref c, .int a0, .ref ol, zJ] [.ref r] g2 i2 j2 2 12 := by
    intro r g2 i2 j2 hk
    refine r_as_4_3 qL_reading_12 rfl rfl ?_
    refine r_iconst (v := nI 1) qL_reading_13 (by decide) ?_
    refine r_iret qL_reading_14 rfl rfl rfl rfl ?_
    exact hk
  have Kx1 : ∀ (r : Nat) (g2 : Sh) (i2 : Ni) (j2 : Nj), K (.inl (some (.int (nI 2)))) g2 i2 j2 → zR E mL_reading (zZ E mL_reading K) X 15 [.ref c, .int a0, .ref ol, zJ] [.ref r] g2 i2 j2 2 12 := by
    intro r g2 i2 j2 hk
    refine r_as_4_3 qL_reading_15 rfl rfl ?_
    refine r_iconst (v := nI 2) qL_reading_16 (by decide) ?_
    refine r_iret qL_reading_17 rfl rfl rfl rfl ?_
    exact hk
  refine r_aload_n qL_reading_0 rfl ?_
  refine r_iconst (v := nI 0) qL_reading_1 (by decide) ?_
  refine r_aload_n qL_reading_2 rfl ?_
  refine r_iload_n qL_reading_3 rfl ?_
  refine r_cv1 (cu2 := 2) (su2 := 12) qL_reading_4 kL_81 rfl (by decide +kernel) (c := 3) (by assumption) (by decide) rfl rfl rfl rfl rfl rfl ?_
  refine h _ (fun r g2 i2 j2 hk => ?_)
  rcases r with (_ | v) | ec
  · exact hk.elim
  · cases v with
    | int v =>
      show zR E _ _ X 7 _ _ _ _ _ _ _
      exact Kv v g2 i2 j2 hk.1 hk.2.1 hk.2.2
    | _ => exact hk.elim
  · show zT E _ _ X _ _ _ _ _ _ _ _
    obtain ⟨v, hf, hk⟩ := hk
    by_cases h2 : ec = 2
    · subst h2
      cases (show some (nI 1) = some v from hf)
      exact t_catch (pre := []) (x := (0, 9, 12, 24)) (suf := [(0, 9, 15, 73)]) rfl (fun z hz => absurd hz List.not_mem_nil) (by decide) (by decide) cl_24 (by decide) (fun r => Kx0 r g2 i2 j2 hk)
    by_cases h3 : ec = 3
    · subst h3
      cases (show some (nI 2) = some v from hf)
      exact t_catch (pre := [(0, 9, 12, 24)]) (x := (0, 9, 15, 73)) (suf := []) rfl (List.forall_mem_cons.mpr ⟨⟨by decide, _, cl_24, by decide⟩, List.forall_mem_nil _⟩) (by decide) (by decide) cl_73 (by decide) (fun r => Kx1 r g2 i2 j2 hk)
    rw [lf_23, if_neg h2, if_neg h3] at hf
    cases hf
set_option maxHeartbeats 4000000 in
set_option maxRecDepth 20000 in
theorem c_L_readingError {E : Ev} {g : Sh} {i : Ni} {j : Nj} {K : Kp} {c ol : Nat} {a0 : Int32} (ht : gT g c = 4) (h : ∀ K1 : Kp, (∀ r g' i' j', zLk lf_23 ol K r g' i' j' → K1 r g' i' j') → zCon E mX3_readingError [.ref c, .int a0] g i j K1) : zCon E mL_readingError [.ref c, .int a0, .ref ol] g i j K := by
  refine zcon_ofH (by decide +kernel) rfl rfl (lo := [.ref c, .int a0, .ref ol, zJ]) rfl (fun X => ?_)
  have Kv : ∀ (v : Int32) (g2 : Sh) (i2 : Ni) (j2 : Nj), gT g2 ol = 14 → gL g2 ol = 1 → (∀ j' : Nj, j' ol 0 = v.toInt64 → (∀ q, q ≠ ol → j' q = j2 q) → K (.inl (some (.int (nI 0)))) g2 i2 j') → zR E mL_readingError (zZ E mL_readingError K) X 7 [.ref c, .int a0, .ref ol, zJ] [.int v, .int (nI 0), .ref ol] g2 i2 j2 2 12 := by
    intro v g2 i2 j2 t1 t2 hk
    refine r_i2l qL_readingError_7 ?_
    refine r_last qL_readingError_8 (by assumption) (in_0 t2) ?_
    refine r_goto (t := 18) qL_readingError_9 (by decide) ?_
    refine r_iconst (v := nI 0) qL_readingError_18 (by decide) ?_
    refine r_iret qL_readingError_19 rfl rfl rfl rfl ?_
    exact hk _ wl_0 wl_n
  have Kx0 : ∀ (r : Nat) (g2 : Sh) (i2 : Ni) (j2 : Nj), K (.inl (some (.int (nI 1)))) g2 i2 j2 → zR E mL_readingError (zZ E mL_readingError K) X 12 [.ref c, .int a0, .ref ol, zJ] [.ref r] g2 i2 j2 2 12 := by
    intro r g2 i2 j2 hk
    refine r_as_4_3 qL_readingError_12 rfl rfl ?_
    refine r_iconst (v := nI 1) qL_readingError_13 (by decide) ?_
    refine r_iret qL_readingError_14 rfl rfl rfl rfl ?_
    exact hk
  have Kx1 : ∀ (r : Nat) (g2 : Sh) (i2 : Ni) (j2 : Nj), K (.inl (some (.int (nI 2)))) g2 i2 j2 → zR E mL_readingError (zZ E mL_readingError K) X 15 [.ref c, .int a0, .ref ol, zJ] [.ref r] g2 i2 j2 2 12 := by
    intro r g2 i2 j2 hk
    refine r_as_4_3 qL_readingError_15 rfl rfl ?_
    refine r_iconst (v := nI 2) qL_readingError_16 (by decide) ?_
    refine r_iret qL_readingError_17 rfl rfl rfl rfl ?_
    exact hk
  refine r_aload_n qL_readingError_0 rfl ?_
  refine r_iconst (v := nI 0) qL_readingError_1 (by decide) ?_
  refine r_aload_n qL_readingError_2 rfl ?_
  refine r_iload_n qL_readingError_3 rfl ?_
  refine r_cv1 (cu2 := 2) (su2 := 12) qL_readingError_4 kL_84 rfl (by decide +kernel) (c := 3) (by assumption) (by decide) rfl rfl rfl rfl rfl rfl ?_
  refine h _ (fun r g2 i2 j2 hk => ?_)
  rcases r with (_ | v) | ec
  · exact hk.elim
  · cases v with
    | int v =>
      show zR E _ _ X 7 _ _ _ _ _ _ _
      exact Kv v g2 i2 j2 hk.1 hk.2.1 hk.2.2
    | _ => exact hk.elim
  · show zT E _ _ X _ _ _ _ _ _ _ _
    obtain ⟨v, hf, hk⟩ := hk
    by_cases h2 : ec = 2
    · subst h2
      cases (show some (nI 1) = some v from hf)
      exact t_catch (pre := []) (x := (0, 9, 12, 24)) (suf := [(0, 9, 15, 73)]) rfl (fun z hz => absurd hz List.not_mem_nil) (by decide) (by decide) cl_24 (by decide) (fun r => Kx0 r g2 i2 j2 hk)
    by_cases h3 : ec = 3
    · subst h3
      cases (show some (nI 2) = some v from hf)
      exact t_catch (pre := [(0, 9, 12, 24)]) (x := (0, 9, 15, 73)) (suf := []) rfl (List.forall_mem_cons.mpr ⟨⟨by decide, _, cl_24, by decide⟩, List.forall_mem_nil _⟩) (by decide) (by decide) cl_73 (by decide) (fun r => Kx1 r g2 i2 j2 hk)
    rw [lf_23, if_neg h2, if_neg h3] at hf
    cases hf
set_option maxHeartbeats 4000000 in
set_option maxRecDepth 20000 in
theorem c_L_restore {E : Ev} {g : Sh} {i : Ni} {j : Nj} {K : Kp} {c ol : Nat} {a0 : Int32} (ht : gT g c = 4) (h : ∀ K1 : Kp, (∀ r g' i' j', zLk lf_20 ol K r g' i' j' → K1 r g' i' j') → zCon E mX3_restore [.ref c, .int a0] g i j K1) : zCon E mL_restore [.ref c, .int a0, .ref ol] g i j K := by
  refine zcon_ofH (by decide +kernel) rfl rfl (lo := [.ref c, .int a0, .ref ol, zJ]) rfl (fun X => ?_)
  have Kv : ∀ (v : Int32) (g2 : Sh) (i2 : Ni) (j2 : Nj), gT g2 ol = 14 → gL g2 ol = 1 → (∀ j' : Nj, j' ol 0 = v.toInt64 → (∀ q, q ≠ ol → j' q = j2 q) → K (.inl (some (.int (nI 0)))) g2 i2 j') → zR E mL_restore (zZ E mL_restore K) X 7 [.ref c, .int a0, .ref ol, zJ] [.int v, .int (nI 0), .ref ol] g2 i2 j2 2 12 := by
    intro v g2 i2 j2 t1 t2 hk
    refine r_i2l qL_restore_7 ?_
    refine r_last qL_restore_8 (by assumption) (in_0 t2) ?_
    refine r_goto (t := 18) qL_restore_9 (by decide) ?_
    refine r_iconst (v := nI 0) qL_restore_18 (by decide) ?_
    refine r_iret qL_restore_19 rfl rfl rfl rfl ?_
    exact hk _ wl_0 wl_n
  have Kx0 : ∀ (r : Nat) (g2 : Sh) (i2 : Ni) (j2 : Nj), K (.inl (some (.int (nI 1)))) g2 i2 j2 → zR E mL_restore (zZ E mL_restore K) X 12 [.ref c, .int a0, .ref ol, zJ] [.ref r] g2 i2 j2 2 12 := by
    intro r g2 i2 j2 hk
    refine r_as_4_3 qL_restore_12 rfl rfl ?_
    refine r_iconst (v := nI 1) qL_restore_13 (by decide) ?_
    refine r_iret qL_restore_14 rfl rfl rfl rfl ?_
    exact hk
  have Kx1 : ∀ (r : Nat) (g2 : Sh) (i2 : Ni) (j2 : Nj), K (.inl (some (.int (nI 2)))) g2 i2 j2 → zR E mL_restore (zZ E mL_restore K) X 15 [.ref c, .int a0, .ref ol, zJ] [.ref r] g2 i2 j2 2 12 := by
    intro r g2 i2 j2 hk
    refine r_as_4_3 qL_restore_15 rfl rfl ?_
    refine r_iconst (v := nI 2) qL_restore_16 (by decide) ?_
    refine r_iret qL_restore_17 rfl rfl rfl rfl ?_
    exact hk
  refine r_aload_n qL_restore_0 rfl ?_
  refine r_iconst (v := nI 0) qL_restore_1 (by decide) ?_
  refine r_aload_n qL_restore_2 rfl ?_
  refine r_iload_n qL_restore_3 rfl ?_
  refine r_cv1 (cu2 := 2) (su2 := 12) qL_restore_4 kL_157 rfl (by decide +kernel) (c := 3) (by assumption) (by decide) rfl rfl rfl rfl rfl rfl ?_
  refine h _ (fun r g2 i2 j2 hk => ?_)
  rcases r with (_ | v) | ec
  · exact hk.elim
  · cases v with
    | int v =>
      show zR E _ _ X 7 _ _ _ _ _ _ _
      exact Kv v g2 i2 j2 hk.1 hk.2.1 hk.2.2
    | _ => exact hk.elim
  · show zT E _ _ X _ _ _ _ _ _ _ _
    obtain ⟨v, hf, hk⟩ := hk
    by_cases h2 : ec = 2
    · subst h2
      cases (show some (nI 1) = some v from hf)
      exact t_catch (pre := []) (x := (0, 9, 12, 24)) (suf := [(0, 9, 15, 13)]) rfl (fun z hz => absurd hz List.not_mem_nil) (by decide) (by decide) cl_24 (by decide) (fun r => Kx0 r g2 i2 j2 hk)
    by_cases h0 : ec = 0
    · subst h0
      cases (show some (nI 2) = some v from hf)
      exact t_catch (pre := [(0, 9, 12, 24)]) (x := (0, 9, 15, 13)) (suf := []) rfl (List.forall_mem_cons.mpr ⟨⟨by decide, _, cl_24, by decide⟩, List.forall_mem_nil _⟩) (by decide) (by decide) cl_13 (by decide) (fun r => Kx1 r g2 i2 j2 hk)
    rw [lf_20, if_neg h2, if_neg h0] at hf
    cases hf
set_option maxHeartbeats 4000000 in
set_option maxRecDepth 20000 in
theorem c_L_save {E : Ev} {g : Sh} {i : Ni} {j : Nj} {K : Kp} {c ol : Nat} {a0 : Int32} (ht : gT g c = 4) (h : ∀ K1 : Kp, (∀ r g' i' j', zLk lf_2 ol K r g' i' j' → K1 r g' i' j') → zCon E mX3_save [.ref c, .int a0] g i j K1) : zCon E mL_save [.ref c, .int a0, .ref ol] g i j K := by
  refine zcon_ofH (by decide +kernel) rfl rfl (lo := [.ref c, .int a0, .ref ol, zJ]) rfl (fun X => ?_)
  have Kv : ∀ (v : Int32) (g2 : Sh) (i2 : Ni) (j2 : Nj), gT g2 ol = 14 → gL g2 ol = 1 → (∀ j' : Nj, j' ol 0 = v.toInt64 → (∀ q, q ≠ ol → j' q = j2 q) → K (.inl (some (.int (nI 0)))) g2 i2 j') → zR E mL_save (zZ E mL_save K) X 7 [.ref c, .int a0, .ref ol, zJ] [.int v, .int (nI 0), .ref ol] g2 i2 j2 1 6 := by
    intro v g2 i2 j2 t1 t2 hk
    refine r_i2l qL_save_7 ?_
    refine r_last qL_save_8 (by assumption) (in_0 t2) ?_
    refine r_goto (t := 15) qL_save_9 (by decide) ?_
    refine r_iconst (v := nI 0) qL_save_15 (by decide) ?_
    refine r_iret qL_save_16 rfl rfl rfl rfl ?_
    exact hk _ wl_0 wl_n
  have Kx0 : ∀ (r : Nat) (g2 : Sh) (i2 : Ni) (j2 : Nj), K (.inl (some (.int (nI 1)))) g2 i2 j2 → zR E mL_save (zZ E mL_save K) X 12 [.ref c, .int a0, .ref ol, zJ] [.ref r] g2 i2 j2 1 6 := by
    intro r g2 i2 j2 hk
    refine r_as_4_3 qL_save_12 rfl rfl ?_
    refine r_iconst (v := nI 1) qL_save_13 (by decide) ?_
    refine r_iret qL_save_14 rfl rfl rfl rfl ?_
    exact hk
  refine r_aload_n qL_save_0 rfl ?_
  refine r_iconst (v := nI 0) qL_save_1 (by decide) ?_
  refine r_aload_n qL_save_2 rfl ?_
  refine r_iload_n qL_save_3 rfl ?_
  refine r_cv1 (cu2 := 1) (su2 := 6) qL_save_4 kL_154 rfl (by decide +kernel) (c := 3) (by assumption) (by decide) rfl rfl rfl rfl rfl rfl ?_
  refine h _ (fun r g2 i2 j2 hk => ?_)
  rcases r with (_ | v) | ec
  · exact hk.elim
  · cases v with
    | int v =>
      show zR E _ _ X 7 _ _ _ _ _ _ _
      exact Kv v g2 i2 j2 hk.1 hk.2.1 hk.2.2
    | _ => exact hk.elim
  · show zT E _ _ X _ _ _ _ _ _ _ _
    obtain ⟨v, hf, hk⟩ := hk
    by_cases h2 : ec = 2
    · subst h2
      cases (show some (nI 1) = some v from hf)
      exact t_catch (pre := []) (x := (0, 9, 12, 24)) (suf := []) rfl (fun z hz => absurd hz List.not_mem_nil) (by decide) (by decide) cl_24 (by decide) (fun r => Kx0 r g2 i2 j2 hk)
    rw [lf_2, if_neg h2] at hf
    cases hf
def lf_213 (ec : Nat) : Option Int32 := if ec = 2 then some (nI 1) else if ec = 1 then some (nI 2) else if ec = 3 then some (nI 3) else none
set_option maxHeartbeats 4000000 in
set_option maxRecDepth 20000 in
theorem c_L_scaleAt {E : Ev} {g : Sh} {i : Ni} {j : Nj} {K : Kp} {c ol : Nat} {a0 a1 : Int32} (ht : gT g c = 4) (h : ∀ K1 : Kp, (∀ r g' i' j', zLk lf_213 ol K r g' i' j' → K1 r g' i' j') → zCon E mX3_scaleAt [.ref c, .int a0, .int a1] g i j K1) : zCon E mL_scaleAt [.ref c, .int a0, .int a1, .ref ol] g i j K := by
  refine zcon_ofH (by decide +kernel) rfl rfl (lo := [.ref c, .int a0, .int a1, .ref ol, zJ]) rfl (fun X => ?_)
  have Kv : ∀ (v : Int32) (g2 : Sh) (i2 : Ni) (j2 : Nj), gT g2 ol = 14 → gL g2 ol = 1 → (∀ j' : Nj, j' ol 0 = v.toInt64 → (∀ q, q ≠ ol → j' q = j2 q) → K (.inl (some (.int (nI 0)))) g2 i2 j') → zR E mL_scaleAt (zZ E mL_scaleAt K) X 8 [.ref c, .int a0, .int a1, .ref ol, zJ] [.int v, .int (nI 0), .ref ol] g2 i2 j2 3 18 := by
    intro v g2 i2 j2 t1 t2 hk
    refine r_i2l qL_scaleAt_8 ?_
    refine r_last qL_scaleAt_9 (by assumption) (in_0 t2) ?_
    refine r_goto (t := 25) qL_scaleAt_10 (by decide) ?_
    refine r_iconst (v := nI 0) qL_scaleAt_25 (by decide) ?_
    refine r_iret qL_scaleAt_26 rfl rfl rfl rfl ?_
    exact hk _ wl_0 wl_n
  have Kx0 : ∀ (r : Nat) (g2 : Sh) (i2 : Ni) (j2 : Nj), K (.inl (some (.int (nI 1)))) g2 i2 j2 → zR E mL_scaleAt (zZ E mL_scaleAt K) X 13 [.ref c, .int a0, .int a1, .ref ol, zJ] [.ref r] g2 i2 j2 3 18 := by
    intro r g2 i2 j2 hk
    refine r_as_5_4 qL_scaleAt_13 rfl rfl ?_
    refine r_iconst (v := nI 1) qL_scaleAt_15 (by decide) ?_
    refine r_iret qL_scaleAt_16 rfl rfl rfl rfl ?_
    exact hk
  have Kx1 : ∀ (r : Nat) (g2 : Sh) (i2 : Ni) (j2 : Nj), K (.inl (some (.int (nI 2)))) g2 i2 j2 → zR E mL_scaleAt (zZ E mL_scaleAt K) X 17 [.ref c, .int a0, .int a1, .ref ol, zJ] [.ref r] g2 i2 j2 3 18 := by
    intro r g2 i2 j2 hk
    refine r_as_5_4 qL_scaleAt_17 rfl rfl ?_
    refine r_iconst (v := nI 2) qL_scaleAt_19 (by decide) ?_
    refine r_iret qL_scaleAt_20 rfl rfl rfl rfl ?_
    exact hk
  have Kx2 : ∀ (r : Nat) (g2 : Sh) (i2 : Ni) (j2 : Nj), K (.inl (some (.int (nI 3)))) g2 i2 j2 → zR E mL_scaleAt (zZ E mL_scaleAt K) X 21 [.ref c, .int a0, .int a1, .ref ol, zJ] [.ref r] g2 i2 j2 3 18 := by
    intro r g2 i2 j2 hk
    refine r_as_5_4 qL_scaleAt_21 rfl rfl ?_
    refine r_iconst (v := nI 3) qL_scaleAt_23 (by decide) ?_
    refine r_iret qL_scaleAt_24 rfl rfl rfl rfl ?_
    exact hk
  refine r_aload_n qL_scaleAt_0 rfl ?_
  refine r_iconst (v := nI 0) qL_scaleAt_1 (by decide) ?_
  refine r_aload_n qL_scaleAt_2 rfl ?_
  refine r_iload_n qL_scaleAt_3 rfl ?_
  refine r_iload_n qL_scaleAt_4 rfl ?_
  refine r_cv2 (cu2 := 3) (su2 := 18) qL_scaleAt_5 kL_87 rfl (by decide +kernel) (c := 3) (by assumption) (by decide) rfl rfl rfl rfl rfl rfl ?_
  refine h _ (fun r g2 i2 j2 hk => ?_)
  rcases r with (_ | v) | ec
  · exact hk.elim
  · cases v with
    | int v =>
      show zR E _ _ X 8 _ _ _ _ _ _ _
      exact Kv v g2 i2 j2 hk.1 hk.2.1 hk.2.2
    | _ => exact hk.elim
  · show zT E _ _ X _ _ _ _ _ _ _ _
    obtain ⟨v, hf, hk⟩ := hk
    by_cases h2 : ec = 2
    · subst h2
      cases (show some (nI 1) = some v from hf)
      exact t_catch (pre := []) (x := (0, 10, 13, 24)) (suf := [(0, 10, 17, 19), (0, 10, 21, 73)]) rfl (fun z hz => absurd hz List.not_mem_nil) (by decide) (by decide) cl_24 (by decide) (fun r => Kx0 r g2 i2 j2 hk)
    by_cases h1 : ec = 1
    · subst h1
      cases (show some (nI 2) = some v from hf)
      exact t_catch (pre := [(0, 10, 13, 24)]) (x := (0, 10, 17, 19)) (suf := [(0, 10, 21, 73)]) rfl (List.forall_mem_cons.mpr ⟨⟨by decide, _, cl_24, by decide⟩, List.forall_mem_nil _⟩) (by decide) (by decide) cl_19 (by decide) (fun r => Kx1 r g2 i2 j2 hk)
    by_cases h3 : ec = 3
    · subst h3
      cases (show some (nI 3) = some v from hf)
      exact t_catch (pre := [(0, 10, 13, 24), (0, 10, 17, 19)]) (x := (0, 10, 21, 73)) (suf := []) rfl (List.forall_mem_cons.mpr ⟨⟨by decide, _, cl_24, by decide⟩, List.forall_mem_cons.mpr ⟨⟨by decide, _, cl_19, by decide⟩, List.forall_mem_nil _⟩⟩) (by decide) (by decide) cl_73 (by decide) (fun r => Kx2 r g2 i2 j2 hk)
    rw [lf_213, if_neg h2, if_neg h1, if_neg h3] at hf
    cases hf
set_option maxHeartbeats 4000000 in
set_option maxRecDepth 20000 in
theorem c_L_sensitivity {E : Ev} {g : Sh} {i : Ni} {j : Nj} {K : Kp} {c ol : Nat} {a0 : Int32} (ht : gT g c = 4) (h : ∀ K1 : Kp, (∀ r g' i' j', zLk lf_2 ol K r g' i' j' → K1 r g' i' j') → zCon E mX3_sensitivity [.ref c, .int a0] g i j K1) : zCon E mL_sensitivity [.ref c, .int a0, .ref ol] g i j K := by
  refine zcon_ofH (by decide +kernel) rfl rfl (lo := [.ref c, .int a0, .ref ol, zJ]) rfl (fun X => ?_)
  have Kv : ∀ (v : Int32) (g2 : Sh) (i2 : Ni) (j2 : Nj), gT g2 ol = 14 → gL g2 ol = 1 → (∀ j' : Nj, j' ol 0 = v.toInt64 → (∀ q, q ≠ ol → j' q = j2 q) → K (.inl (some (.int (nI 0)))) g2 i2 j') → zR E mL_sensitivity (zZ E mL_sensitivity K) X 7 [.ref c, .int a0, .ref ol, zJ] [.int v, .int (nI 0), .ref ol] g2 i2 j2 1 6 := by
    intro v g2 i2 j2 t1 t2 hk
    refine r_i2l qL_sensitivity_7 ?_
    refine r_last qL_sensitivity_8 (by assumption) (in_0 t2) ?_
    refine r_goto (t := 15) qL_sensitivity_9 (by decide) ?_
    refine r_iconst (v := nI 0) qL_sensitivity_15 (by decide) ?_
    refine r_iret qL_sensitivity_16 rfl rfl rfl rfl ?_
    exact hk _ wl_0 wl_n
  have Kx0 : ∀ (r : Nat) (g2 : Sh) (i2 : Ni) (j2 : Nj), K (.inl (some (.int (nI 1)))) g2 i2 j2 → zR E mL_sensitivity (zZ E mL_sensitivity K) X 12 [.ref c, .int a0, .ref ol, zJ] [.ref r] g2 i2 j2 1 6 := by
    intro r g2 i2 j2 hk
    refine r_as_4_3 qL_sensitivity_12 rfl rfl ?_
    refine r_iconst (v := nI 1) qL_sensitivity_13 (by decide) ?_
    refine r_iret qL_sensitivity_14 rfl rfl rfl rfl ?_
    exact hk
  refine r_aload_n qL_sensitivity_0 rfl ?_
  refine r_iconst (v := nI 0) qL_sensitivity_1 (by decide) ?_
  refine r_aload_n qL_sensitivity_2 rfl ?_
  refine r_iload_n qL_sensitivity_3 rfl ?_
  refine r_cv1 (cu2 := 1) (su2 := 6) qL_sensitivity_4 kL_93 rfl (by decide +kernel) (c := 3) (by assumption) (by decide) rfl rfl rfl rfl rfl rfl ?_
  refine h _ (fun r g2 i2 j2 hk => ?_)
  rcases r with (_ | v) | ec
  · exact hk.elim
  · cases v with
    | int v =>
      show zR E _ _ X 7 _ _ _ _ _ _ _
      exact Kv v g2 i2 j2 hk.1 hk.2.1 hk.2.2
    | _ => exact hk.elim
  · show zT E _ _ X _ _ _ _ _ _ _ _
    obtain ⟨v, hf, hk⟩ := hk
    by_cases h2 : ec = 2
    · subst h2
      cases (show some (nI 1) = some v from hf)
      exact t_catch (pre := []) (x := (0, 9, 12, 24)) (suf := []) rfl (fun z hz => absurd hz List.not_mem_nil) (by decide) (by decide) cl_24 (by decide) (fun r => Kx0 r g2 i2 j2 hk)
    rw [lf_2, if_neg h2] at hf
    cases hf
set_option maxHeartbeats 4000000 in
set_option maxRecDepth 20000 in
theorem c_L_setLeaky {E : Ev} {g : Sh} {i : Ni} {j : Nj} {K : Kp} {c ol : Nat} {a0 a1 : Int32} (ht : gT g c = 4) (h : ∀ K1 : Kp, (∀ r g' i' j', zLb lf_2 ol K r g' i' j' → K1 r g' i' j') → zCon E mX3_setLeaky [.ref c, .int a0, .int a1] g i j K1) : zCon E mL_setLeaky [.ref c, .int a0, .int a1, .ref ol] g i j K := by
  refine zcon_ofH (by decide +kernel) rfl rfl (lo := [.ref c, .int a0, .int a1, .ref ol, zJ]) rfl (fun X => ?_)
  have Kv0 : ∀ (g2 : Sh) (i2 : Ni) (j2 : Nj), gT g2 ol = 14 → gL g2 ol = 1 → (∀ j' : Nj, j' ol 0 = (nI 0).toInt64 → (∀ q, q ≠ ol → j' q = j2 q) → K (.inl (some (.int (nI 0)))) g2 i2 j') → zR E mL_setLeaky (zZ E mL_setLeaky K) X 8 [.ref c, .int a0, .int a1, .ref ol, zJ] [.int (nI 0), .int (nI 0), .ref ol] g2 i2 j2 1 6 := by
    intro g2 i2 j2 t1 t2 hk
    refine r_if_eq (t := 15) qL_setLeaky_8 (by decide) (fun hc8 => ?_) (fun hc8 => absurd hc8 (by decide))
    refine r_lconst (v := 0) qL_setLeaky_15 (by decide) ?_
    refine r_last qL_setLeaky_16 (by assumption) (in_0 t2) ?_
    refine r_goto (t := 24) qL_setLeaky_17 (by decide) ?_
    refine r_iconst (v := nI 0) qL_setLeaky_24 (by decide) ?_
    refine r_iret qL_setLeaky_25 rfl rfl rfl rfl ?_
    exact hk _ (wl_0.trans (by decide)) wl_n
  have Kv1 : ∀ (g2 : Sh) (i2 : Ni) (j2 : Nj), gT g2 ol = 14 → gL g2 ol = 1 → (∀ j' : Nj, j' ol 0 = (nI 1).toInt64 → (∀ q, q ≠ ol → j' q = j2 q) → K (.inl (some (.int (nI 0)))) g2 i2 j') → zR E mL_setLeaky (zZ E mL_setLeaky K) X 8 [.ref c, .int a0, .int a1, .ref ol, zJ] [.int (nI 1), .int (nI 0), .ref ol] g2 i2 j2 1 6 := by
    intro g2 i2 j2 t1 t2 hk
    refine r_if_eq (t := 15) qL_setLeaky_8 (by decide) (fun hc8 => absurd hc8 (by decide)) (fun hc8 => ?_)
    refine r_lconst (v := 1) qL_setLeaky_11 (by decide) ?_
    refine r_goto (t := 16) qL_setLeaky_12 (by decide) ?_
    refine r_last qL_setLeaky_16 (by assumption) (in_0 t2) ?_
    refine r_goto (t := 24) qL_setLeaky_17 (by decide) ?_
    refine r_iconst (v := nI 0) qL_setLeaky_24 (by decide) ?_
    refine r_iret qL_setLeaky_25 rfl rfl rfl rfl ?_
    exact hk _ (wl_0.trans (by decide)) wl_n
  have Kx0 : ∀ (r : Nat) (g2 : Sh) (i2 : Ni) (j2 : Nj), K (.inl (some (.int (nI 1)))) g2 i2 j2 → zR E mL_setLeaky (zZ E mL_setLeaky K) X 20 [.ref c, .int a0, .int a1, .ref ol, zJ] [.ref r] g2 i2 j2 1 6 := by
    intro r g2 i2 j2 hk
    refine r_as_5_4 qL_setLeaky_20 rfl rfl ?_
    refine r_iconst (v := nI 1) qL_setLeaky_22 (by decide) ?_
    refine r_iret qL_setLeaky_23 rfl rfl rfl rfl ?_
    exact hk
  refine r_aload_n qL_setLeaky_0 rfl ?_
  refine r_iconst (v := nI 0) qL_setLeaky_1 (by decide) ?_
  refine r_aload_n qL_setLeaky_2 rfl ?_
  refine r_iload_n qL_setLeaky_3 rfl ?_
  refine r_iload_n qL_setLeaky_4 rfl ?_
  refine r_cv2 (cu2 := 1) (su2 := 6) qL_setLeaky_5 kL_147 rfl (by decide +kernel) (c := 3) (by assumption) (by decide) rfl rfl rfl rfl rfl rfl ?_
  refine h _ (fun r g2 i2 j2 hk => ?_)
  rcases r with (_ | v) | ec
  · exact hk.elim
  · cases v with
    | int v =>
      show zR E _ _ X 8 _ _ _ _ _ _ _
      obtain ⟨hv, hk⟩ := hk
      rcases hv with rfl | rfl
      · exact Kv0 g2 i2 j2 hk.1 hk.2.1 hk.2.2
      · exact Kv1 g2 i2 j2 hk.1 hk.2.1 hk.2.2
    | _ => exact hk.elim
  · show zT E _ _ X _ _ _ _ _ _ _ _
    obtain ⟨v, hf, hk⟩ := hk
    by_cases h2 : ec = 2
    · subst h2
      cases (show some (nI 1) = some v from hf)
      exact t_catch (pre := []) (x := (0, 17, 20, 24)) (suf := []) rfl (fun z hz => absurd hz List.not_mem_nil) (by decide) (by decide) cl_24 (by decide) (fun r => Kx0 r g2 i2 j2 hk)
    rw [lf_2, if_neg h2] at hf
    cases hf
set_option maxHeartbeats 4000000 in
set_option maxRecDepth 20000 in
theorem c_L_setRoom {E : Ev} {g : Sh} {i : Ni} {j : Nj} {K : Kp} {c ol : Nat} {a0 : Int32} (ht : gT g c = 4) (h : ∀ K1 : Kp, (∀ r g' i' j', zLk lf_1 ol K r g' i' j' → K1 r g' i' j') → zCon E mX3_setRoom [.ref c, .int a0] g i j K1) : zCon E mL_setRoom [.ref c, .int a0, .ref ol] g i j K := by
  refine zcon_ofH (by decide +kernel) rfl rfl (lo := [.ref c, .int a0, .ref ol, zJ]) rfl (fun X => ?_)
  have Kv : ∀ (v : Int32) (g2 : Sh) (i2 : Ni) (j2 : Nj), gT g2 ol = 14 → gL g2 ol = 1 → (∀ j' : Nj, j' ol 0 = v.toInt64 → (∀ q, q ≠ ol → j' q = j2 q) → K (.inl (some (.int (nI 0)))) g2 i2 j') → zR E mL_setRoom (zZ E mL_setRoom K) X 7 [.ref c, .int a0, .ref ol, zJ] [.int v, .int (nI 0), .ref ol] g2 i2 j2 1 6 := by
    intro v g2 i2 j2 t1 t2 hk
    refine r_i2l qL_setRoom_7 ?_
    refine r_last qL_setRoom_8 (by assumption) (in_0 t2) ?_
    refine r_goto (t := 15) qL_setRoom_9 (by decide) ?_
    refine r_iconst (v := nI 0) qL_setRoom_15 (by decide) ?_
    refine r_iret qL_setRoom_16 rfl rfl rfl rfl ?_
    exact hk _ wl_0 wl_n
  have Kx0 : ∀ (r : Nat) (g2 : Sh) (i2 : Ni) (j2 : Nj), K (.inl (some (.int (nI 1)))) g2 i2 j2 → zR E mL_setRoom (zZ E mL_setRoom K) X 12 [.ref c, .int a0, .ref ol, zJ] [.ref r] g2 i2 j2 1 6 := by
    intro r g2 i2 j2 hk
    refine r_as_4_3 qL_setRoom_12 rfl rfl ?_
    refine r_iconst (v := nI 1) qL_setRoom_13 (by decide) ?_
    refine r_iret qL_setRoom_14 rfl rfl rfl rfl ?_
    exact hk
  refine r_aload_n qL_setRoom_0 rfl ?_
  refine r_iconst (v := nI 0) qL_setRoom_1 (by decide) ?_
  refine r_aload_n qL_setRoom_2 rfl ?_
  refine r_iload_n qL_setRoom_3 rfl ?_
  refine r_cv1 (cu2 := 1) (su2 := 6) qL_setRoom_4 kL_144 rfl (by decide +kernel) (c := 3) (by assumption) (by decide) rfl rfl rfl rfl rfl rfl ?_
  refine h _ (fun r g2 i2 j2 hk => ?_)
  rcases r with (_ | v) | ec
  · exact hk.elim
  · cases v with
    | int v =>
      show zR E _ _ X 7 _ _ _ _ _ _ _
      exact Kv v g2 i2 j2 hk.1 hk.2.1 hk.2.2
    | _ => exact hk.elim
  · show zT E _ _ X _ _ _ _ _ _ _ _
    obtain ⟨v, hf, hk⟩ := hk
    by_cases h1 : ec = 1
    · subst h1
      cases (show some (nI 1) = some v from hf)
      exact t_catch (pre := []) (x := (0, 9, 12, 19)) (suf := []) rfl (fun z hz => absurd hz List.not_mem_nil) (by decide) (by decide) cl_19 (by decide) (fun r => Kx0 r g2 i2 j2 hk)
    rw [lf_1, if_neg h1] at hf
    cases hf
set_option maxHeartbeats 4000000 in
set_option maxRecDepth 20000 in
theorem c_L_spiritInTubes {E : Ev} {g : Sh} {i : Ni} {j : Nj} {K : Kp} {c ol : Nat} {a0 : Int32} (ht : gT g c = 4) (h : ∀ K1 : Kp, (∀ r g' i' j', zLk lf_2 ol K r g' i' j' → K1 r g' i' j') → zCon E mX3_spiritInTubes [.ref c, .int a0] g i j K1) : zCon E mL_spiritInTubes [.ref c, .int a0, .ref ol] g i j K := by
  refine zcon_ofH (by decide +kernel) rfl rfl (lo := [.ref c, .int a0, .ref ol, zJ]) rfl (fun X => ?_)
  have Kv : ∀ (v : Int32) (g2 : Sh) (i2 : Ni) (j2 : Nj), gT g2 ol = 14 → gL g2 ol = 1 → (∀ j' : Nj, j' ol 0 = v.toInt64 → (∀ q, q ≠ ol → j' q = j2 q) → K (.inl (some (.int (nI 0)))) g2 i2 j') → zR E mL_spiritInTubes (zZ E mL_spiritInTubes K) X 7 [.ref c, .int a0, .ref ol, zJ] [.int v, .int (nI 0), .ref ol] g2 i2 j2 1 6 := by
    intro v g2 i2 j2 t1 t2 hk
    refine r_i2l qL_spiritInTubes_7 ?_
    refine r_last qL_spiritInTubes_8 (by assumption) (in_0 t2) ?_
    refine r_goto (t := 15) qL_spiritInTubes_9 (by decide) ?_
    refine r_iconst (v := nI 0) qL_spiritInTubes_15 (by decide) ?_
    refine r_iret qL_spiritInTubes_16 rfl rfl rfl rfl ?_
    exact hk _ wl_0 wl_n
  have Kx0 : ∀ (r : Nat) (g2 : Sh) (i2 : Ni) (j2 : Nj), K (.inl (some (.int (nI 1)))) g2 i2 j2 → zR E mL_spiritInTubes (zZ E mL_spiritInTubes K) X 12 [.ref c, .int a0, .ref ol, zJ] [.ref r] g2 i2 j2 1 6 := by
    intro r g2 i2 j2 hk
    refine r_as_4_3 qL_spiritInTubes_12 rfl rfl ?_
    refine r_iconst (v := nI 1) qL_spiritInTubes_13 (by decide) ?_
    refine r_iret qL_spiritInTubes_14 rfl rfl rfl rfl ?_
    exact hk
  refine r_aload_n qL_spiritInTubes_0 rfl ?_
  refine r_iconst (v := nI 0) qL_spiritInTubes_1 (by decide) ?_
  refine r_aload_n qL_spiritInTubes_2 rfl ?_
  refine r_iload_n qL_spiritInTubes_3 rfl ?_
  refine r_cv1 (cu2 := 1) (su2 := 6) qL_spiritInTubes_4 kL_29 rfl (by decide +kernel) (c := 3) (by assumption) (by decide) rfl rfl rfl rfl rfl rfl ?_
  refine h _ (fun r g2 i2 j2 hk => ?_)
  rcases r with (_ | v) | ec
  · exact hk.elim
  · cases v with
    | int v =>
      show zR E _ _ X 7 _ _ _ _ _ _ _
      exact Kv v g2 i2 j2 hk.1 hk.2.1 hk.2.2
    | _ => exact hk.elim
  · show zT E _ _ X _ _ _ _ _ _ _ _
    obtain ⟨v, hf, hk⟩ := hk
    by_cases h2 : ec = 2
    · subst h2
      cases (show some (nI 1) = some v from hf)
      exact t_catch (pre := []) (x := (0, 9, 12, 24)) (suf := []) rfl (fun z hz => absurd hz List.not_mem_nil) (by decide) (by decide) cl_24 (by decide) (fun r => Kx0 r g2 i2 j2 hk)
    rw [lf_2, if_neg h2] at hf
    cases hf
set_option maxHeartbeats 4000000 in
set_option maxRecDepth 20000 in
theorem c_L_spiritLost {E : Ev} {g : Sh} {i : Ni} {j : Nj} {K : Kp} {c ol : Nat} {a0 : Int32} (ht : gT g c = 4) (h : ∀ K1 : Kp, (∀ r g' i' j', zLk lf_2 ol K r g' i' j' → K1 r g' i' j') → zCon E mX3_spiritLost [.ref c, .int a0] g i j K1) : zCon E mL_spiritLost [.ref c, .int a0, .ref ol] g i j K := by
  refine zcon_ofH (by decide +kernel) rfl rfl (lo := [.ref c, .int a0, .ref ol, zJ]) rfl (fun X => ?_)
  have Kv : ∀ (v : Int32) (g2 : Sh) (i2 : Ni) (j2 : Nj), gT g2 ol = 14 → gL g2 ol = 1 → (∀ j' : Nj, j' ol 0 = v.toInt64 → (∀ q, q ≠ ol → j' q = j2 q) → K (.inl (some (.int (nI 0)))) g2 i2 j') → zR E mL_spiritLost (zZ E mL_spiritLost K) X 7 [.ref c, .int a0, .ref ol, zJ] [.int v, .int (nI 0), .ref ol] g2 i2 j2 1 6 := by
    intro v g2 i2 j2 t1 t2 hk
    refine r_i2l qL_spiritLost_7 ?_
    refine r_last qL_spiritLost_8 (by assumption) (in_0 t2) ?_
    refine r_goto (t := 15) qL_spiritLost_9 (by decide) ?_
    refine r_iconst (v := nI 0) qL_spiritLost_15 (by decide) ?_
    refine r_iret qL_spiritLost_16 rfl rfl rfl rfl ?_
    exact hk _ wl_0 wl_n
  have Kx0 : ∀ (r : Nat) (g2 : Sh) (i2 : Ni) (j2 : Nj), K (.inl (some (.int (nI 1)))) g2 i2 j2 → zR E mL_spiritLost (zZ E mL_spiritLost K) X 12 [.ref c, .int a0, .ref ol, zJ] [.ref r] g2 i2 j2 1 6 := by
    intro r g2 i2 j2 hk
    refine r_as_4_3 qL_spiritLost_12 rfl rfl ?_
    refine r_iconst (v := nI 1) qL_spiritLost_13 (by decide) ?_
    refine r_iret qL_spiritLost_14 rfl rfl rfl rfl ?_
    exact hk
  refine r_aload_n qL_spiritLost_0 rfl ?_
  refine r_iconst (v := nI 0) qL_spiritLost_1 (by decide) ?_
  refine r_aload_n qL_spiritLost_2 rfl ?_
  refine r_iload_n qL_spiritLost_3 rfl ?_
  refine r_cv1 (cu2 := 1) (su2 := 6) qL_spiritLost_4 kL_32 rfl (by decide +kernel) (c := 3) (by assumption) (by decide) rfl rfl rfl rfl rfl rfl ?_
  refine h _ (fun r g2 i2 j2 hk => ?_)
  rcases r with (_ | v) | ec
  · exact hk.elim
  · cases v with
    | int v =>
      show zR E _ _ X 7 _ _ _ _ _ _ _
      exact Kv v g2 i2 j2 hk.1 hk.2.1 hk.2.2
    | _ => exact hk.elim
  · show zT E _ _ X _ _ _ _ _ _ _ _
    obtain ⟨v, hf, hk⟩ := hk
    by_cases h2 : ec = 2
    · subst h2
      cases (show some (nI 1) = some v from hf)
      exact t_catch (pre := []) (x := (0, 9, 12, 24)) (suf := []) rfl (fun z hz => absurd hz List.not_mem_nil) (by decide) (by decide) cl_24 (by decide) (fun r => Kx0 r g2 i2 j2 hk)
    rw [lf_2, if_neg h2] at hf
    cases hf
set_option maxHeartbeats 4000000 in
set_option maxRecDepth 20000 in
theorem c_L_spiritOf {E : Ev} {g : Sh} {i : Ni} {j : Nj} {K : Kp} {c ol : Nat} {a0 : Int32} (ht : gT g c = 4) (h : ∀ K1 : Kp, (∀ r g' i' j', zLk lf_2 ol K r g' i' j' → K1 r g' i' j') → zCon E mX3_spiritOf [.ref c, .int a0] g i j K1) : zCon E mL_spiritOf [.ref c, .int a0, .ref ol] g i j K := by
  refine zcon_ofH (by decide +kernel) rfl rfl (lo := [.ref c, .int a0, .ref ol, zJ]) rfl (fun X => ?_)
  have Kv : ∀ (v : Int32) (g2 : Sh) (i2 : Ni) (j2 : Nj), gT g2 ol = 14 → gL g2 ol = 1 → (∀ j' : Nj, j' ol 0 = v.toInt64 → (∀ q, q ≠ ol → j' q = j2 q) → K (.inl (some (.int (nI 0)))) g2 i2 j') → zR E mL_spiritOf (zZ E mL_spiritOf K) X 7 [.ref c, .int a0, .ref ol, zJ] [.int v, .int (nI 0), .ref ol] g2 i2 j2 1 6 := by
    intro v g2 i2 j2 t1 t2 hk
    refine r_i2l qL_spiritOf_7 ?_
    refine r_last qL_spiritOf_8 (by assumption) (in_0 t2) ?_
    refine r_goto (t := 15) qL_spiritOf_9 (by decide) ?_
    refine r_iconst (v := nI 0) qL_spiritOf_15 (by decide) ?_
    refine r_iret qL_spiritOf_16 rfl rfl rfl rfl ?_
    exact hk _ wl_0 wl_n
  have Kx0 : ∀ (r : Nat) (g2 : Sh) (i2 : Ni) (j2 : Nj), K (.inl (some (.int (nI 1)))) g2 i2 j2 → zR E mL_spiritOf (zZ E mL_spiritOf K) X 12 [.ref c, .int a0, .ref ol, zJ] [.ref r] g2 i2 j2 1 6 := by
    intro r g2 i2 j2 hk
    refine r_as_4_3 qL_spiritOf_12 rfl rfl ?_
    refine r_iconst (v := nI 1) qL_spiritOf_13 (by decide) ?_
    refine r_iret qL_spiritOf_14 rfl rfl rfl rfl ?_
    exact hk
  refine r_aload_n qL_spiritOf_0 rfl ?_
  refine r_iconst (v := nI 0) qL_spiritOf_1 (by decide) ?_
  refine r_aload_n qL_spiritOf_2 rfl ?_
  refine r_iload_n qL_spiritOf_3 rfl ?_
  refine r_cv1 (cu2 := 1) (su2 := 6) qL_spiritOf_4 kL_35 rfl (by decide +kernel) (c := 3) (by assumption) (by decide) rfl rfl rfl rfl rfl rfl ?_
  refine h _ (fun r g2 i2 j2 hk => ?_)
  rcases r with (_ | v) | ec
  · exact hk.elim
  · cases v with
    | int v =>
      show zR E _ _ X 7 _ _ _ _ _ _ _
      exact Kv v g2 i2 j2 hk.1 hk.2.1 hk.2.2
    | _ => exact hk.elim
  · show zT E _ _ X _ _ _ _ _ _ _ _
    obtain ⟨v, hf, hk⟩ := hk
    by_cases h2 : ec = 2
    · subst h2
      cases (show some (nI 1) = some v from hf)
      exact t_catch (pre := []) (x := (0, 9, 12, 24)) (suf := []) rfl (fun z hz => absurd hz List.not_mem_nil) (by decide) (by decide) cl_24 (by decide) (fun r => Kx0 r g2 i2 j2 hk)
    rw [lf_2, if_neg h2] at hf
    cases hf
set_option maxHeartbeats 4000000 in
set_option maxRecDepth 20000 in
theorem c_L_surroundingsOf {E : Ev} {g : Sh} {i : Ni} {j : Nj} {K : Kp} {c ol : Nat} {a0 : Int32} (ht : gT g c = 4) (h : ∀ K1 : Kp, (∀ r g' i' j', zLk lf_2 ol K r g' i' j' → K1 r g' i' j') → zCon E mX3_surroundingsOf [.ref c, .int a0] g i j K1) : zCon E mL_surroundingsOf [.ref c, .int a0, .ref ol] g i j K := by
  refine zcon_ofH (by decide +kernel) rfl rfl (lo := [.ref c, .int a0, .ref ol, zJ]) rfl (fun X => ?_)
  have Kv : ∀ (v : Int32) (g2 : Sh) (i2 : Ni) (j2 : Nj), gT g2 ol = 14 → gL g2 ol = 1 → (∀ j' : Nj, j' ol 0 = v.toInt64 → (∀ q, q ≠ ol → j' q = j2 q) → K (.inl (some (.int (nI 0)))) g2 i2 j') → zR E mL_surroundingsOf (zZ E mL_surroundingsOf K) X 7 [.ref c, .int a0, .ref ol, zJ] [.int v, .int (nI 0), .ref ol] g2 i2 j2 1 6 := by
    intro v g2 i2 j2 t1 t2 hk
    refine r_i2l qL_surroundingsOf_7 ?_
    refine r_last qL_surroundingsOf_8 (by assumption) (in_0 t2) ?_
    refine r_goto (t := 15) qL_surroundingsOf_9 (by decide) ?_
    refine r_iconst (v := nI 0) qL_surroundingsOf_15 (by decide) ?_
    refine r_iret qL_surroundingsOf_16 rfl rfl rfl rfl ?_
    exact hk _ wl_0 wl_n
  have Kx0 : ∀ (r : Nat) (g2 : Sh) (i2 : Ni) (j2 : Nj), K (.inl (some (.int (nI 1)))) g2 i2 j2 → zR E mL_surroundingsOf (zZ E mL_surroundingsOf K) X 12 [.ref c, .int a0, .ref ol, zJ] [.ref r] g2 i2 j2 1 6 := by
    intro r g2 i2 j2 hk
    refine r_as_4_3 qL_surroundingsOf_12 rfl rfl ?_
    refine r_iconst (v := nI 1) qL_surroundingsOf_13 (by decide) ?_
    refine r_iret qL_surroundingsOf_14 rfl rfl rfl rfl ?_
    exact hk
  refine r_aload_n qL_surroundingsOf_0 rfl ?_
  refine r_iconst (v := nI 0) qL_surroundingsOf_1 (by decide) ?_
  refine r_aload_n qL_surroundingsOf_2 rfl ?_
  refine r_iload_n qL_surroundingsOf_3 rfl ?_
  refine r_cv1 (cu2 := 1) (su2 := 6) qL_surroundingsOf_4 kL_44 rfl (by decide +kernel) (c := 3) (by assumption) (by decide) rfl rfl rfl rfl rfl rfl ?_
  refine h _ (fun r g2 i2 j2 hk => ?_)
  rcases r with (_ | v) | ec
  · exact hk.elim
  · cases v with
    | int v =>
      show zR E _ _ X 7 _ _ _ _ _ _ _
      exact Kv v g2 i2 j2 hk.1 hk.2.1 hk.2.2
    | _ => exact hk.elim
  · show zT E _ _ X _ _ _ _ _ _ _ _
    obtain ⟨v, hf, hk⟩ := hk
    by_cases h2 : ec = 2
    · subst h2
      cases (show some (nI 1) = some v from hf)
      exact t_catch (pre := []) (x := (0, 9, 12, 24)) (suf := []) rfl (fun z hz => absurd hz List.not_mem_nil) (by decide) (by decide) cl_24 (by decide) (fun r => Kx0 r g2 i2 j2 hk)
    rw [lf_2, if_neg h2] at hf
    cases hf
set_option maxHeartbeats 4000000 in
set_option maxRecDepth 20000 in
theorem c_L_temperatureAfter {E : Ev} {g : Sh} {i : Ni} {j : Nj} {K : Kp} {c ol : Nat} {a0 a1 : Int32} (ht : gT g c = 4) (h : ∀ K1 : Kp, (∀ r g' i' j', zLk lf_21 ol K r g' i' j' → K1 r g' i' j') → zCon E mX3_temperatureAfter [.ref c, .int a0, .int a1] g i j K1) : zCon E mL_temperatureAfter [.ref c, .int a0, .int a1, .ref ol] g i j K := by
  refine zcon_ofH (by decide +kernel) rfl rfl (lo := [.ref c, .int a0, .int a1, .ref ol, zJ]) rfl (fun X => ?_)
  have Kv : ∀ (v : Int32) (g2 : Sh) (i2 : Ni) (j2 : Nj), gT g2 ol = 14 → gL g2 ol = 1 → (∀ j' : Nj, j' ol 0 = v.toInt64 → (∀ q, q ≠ ol → j' q = j2 q) → K (.inl (some (.int (nI 0)))) g2 i2 j') → zR E mL_temperatureAfter (zZ E mL_temperatureAfter K) X 8 [.ref c, .int a0, .int a1, .ref ol, zJ] [.int v, .int (nI 0), .ref ol] g2 i2 j2 2 12 := by
    intro v g2 i2 j2 t1 t2 hk
    refine r_i2l qL_temperatureAfter_8 ?_
    refine r_last qL_temperatureAfter_9 (by assumption) (in_0 t2) ?_
    refine r_goto (t := 21) qL_temperatureAfter_10 (by decide) ?_
    refine r_iconst (v := nI 0) qL_temperatureAfter_21 (by decide) ?_
    refine r_iret qL_temperatureAfter_22 rfl rfl rfl rfl ?_
    exact hk _ wl_0 wl_n
  have Kx0 : ∀ (r : Nat) (g2 : Sh) (i2 : Ni) (j2 : Nj), K (.inl (some (.int (nI 1)))) g2 i2 j2 → zR E mL_temperatureAfter (zZ E mL_temperatureAfter K) X 13 [.ref c, .int a0, .int a1, .ref ol, zJ] [.ref r] g2 i2 j2 2 12 := by
    intro r g2 i2 j2 hk
    refine r_as_5_4 qL_temperatureAfter_13 rfl rfl ?_
    refine r_iconst (v := nI 1) qL_temperatureAfter_15 (by decide) ?_
    refine r_iret qL_temperatureAfter_16 rfl rfl rfl rfl ?_
    exact hk
  have Kx1 : ∀ (r : Nat) (g2 : Sh) (i2 : Ni) (j2 : Nj), K (.inl (some (.int (nI 2)))) g2 i2 j2 → zR E mL_temperatureAfter (zZ E mL_temperatureAfter K) X 17 [.ref c, .int a0, .int a1, .ref ol, zJ] [.ref r] g2 i2 j2 2 12 := by
    intro r g2 i2 j2 hk
    refine r_as_5_4 qL_temperatureAfter_17 rfl rfl ?_
    refine r_iconst (v := nI 2) qL_temperatureAfter_19 (by decide) ?_
    refine r_iret qL_temperatureAfter_20 rfl rfl rfl rfl ?_
    exact hk
  refine r_aload_n qL_temperatureAfter_0 rfl ?_
  refine r_iconst (v := nI 0) qL_temperatureAfter_1 (by decide) ?_
  refine r_aload_n qL_temperatureAfter_2 rfl ?_
  refine r_iload_n qL_temperatureAfter_3 rfl ?_
  refine r_iload_n qL_temperatureAfter_4 rfl ?_
  refine r_cv2 (cu2 := 2) (su2 := 12) qL_temperatureAfter_5 kL_105 rfl (by decide +kernel) (c := 3) (by assumption) (by decide) rfl rfl rfl rfl rfl rfl ?_
  refine h _ (fun r g2 i2 j2 hk => ?_)
  rcases r with (_ | v) | ec
  · exact hk.elim
  · cases v with
    | int v =>
      show zR E _ _ X 8 _ _ _ _ _ _ _
      exact Kv v g2 i2 j2 hk.1 hk.2.1 hk.2.2
    | _ => exact hk.elim
  · show zT E _ _ X _ _ _ _ _ _ _ _
    obtain ⟨v, hf, hk⟩ := hk
    by_cases h2 : ec = 2
    · subst h2
      cases (show some (nI 1) = some v from hf)
      exact t_catch (pre := []) (x := (0, 10, 13, 24)) (suf := [(0, 10, 17, 19)]) rfl (fun z hz => absurd hz List.not_mem_nil) (by decide) (by decide) cl_24 (by decide) (fun r => Kx0 r g2 i2 j2 hk)
    by_cases h1 : ec = 1
    · subst h1
      cases (show some (nI 2) = some v from hf)
      exact t_catch (pre := [(0, 10, 13, 24)]) (x := (0, 10, 17, 19)) (suf := []) rfl (List.forall_mem_cons.mpr ⟨⟨by decide, _, cl_24, by decide⟩, List.forall_mem_nil _⟩) (by decide) (by decide) cl_19 (by decide) (fun r => Kx1 r g2 i2 j2 hk)
    rw [lf_21, if_neg h2, if_neg h1] at hf
    cases hf
set_option maxHeartbeats 4000000 in
set_option maxRecDepth 20000 in
theorem c_L_temperatureOf {E : Ev} {g : Sh} {i : Ni} {j : Nj} {K : Kp} {c ol : Nat} {a0 : Int32} (ht : gT g c = 4) (h : ∀ K1 : Kp, (∀ r g' i' j', zLk lf_2 ol K r g' i' j' → K1 r g' i' j') → zCon E mX3_temperatureOf [.ref c, .int a0] g i j K1) : zCon E mL_temperatureOf [.ref c, .int a0, .ref ol] g i j K := by
  refine zcon_ofH (by decide +kernel) rfl rfl (lo := [.ref c, .int a0, .ref ol, zJ]) rfl (fun X => ?_)
  have Kv : ∀ (v : Int32) (g2 : Sh) (i2 : Ni) (j2 : Nj), gT g2 ol = 14 → gL g2 ol = 1 → (∀ j' : Nj, j' ol 0 = v.toInt64 → (∀ q, q ≠ ol → j' q = j2 q) → K (.inl (some (.int (nI 0)))) g2 i2 j') → zR E mL_temperatureOf (zZ E mL_temperatureOf K) X 7 [.ref c, .int a0, .ref ol, zJ] [.int v, .int (nI 0), .ref ol] g2 i2 j2 1 6 := by
    intro v g2 i2 j2 t1 t2 hk
    refine r_i2l qL_temperatureOf_7 ?_
    refine r_last qL_temperatureOf_8 (by assumption) (in_0 t2) ?_
    refine r_goto (t := 15) qL_temperatureOf_9 (by decide) ?_
    refine r_iconst (v := nI 0) qL_temperatureOf_15 (by decide) ?_
    refine r_iret qL_temperatureOf_16 rfl rfl rfl rfl ?_
    exact hk _ wl_0 wl_n
  have Kx0 : ∀ (r : Nat) (g2 : Sh) (i2 : Ni) (j2 : Nj), K (.inl (some (.int (nI 1)))) g2 i2 j2 → zR E mL_temperatureOf (zZ E mL_temperatureOf K) X 12 [.ref c, .int a0, .ref ol, zJ] [.ref r] g2 i2 j2 1 6 := by
    intro r g2 i2 j2 hk
    refine r_as_4_3 qL_temperatureOf_12 rfl rfl ?_
    refine r_iconst (v := nI 1) qL_temperatureOf_13 (by decide) ?_
    refine r_iret qL_temperatureOf_14 rfl rfl rfl rfl ?_
    exact hk
  refine r_aload_n qL_temperatureOf_0 rfl ?_
  refine r_iconst (v := nI 0) qL_temperatureOf_1 (by decide) ?_
  refine r_aload_n qL_temperatureOf_2 rfl ?_
  refine r_iload_n qL_temperatureOf_3 rfl ?_
  refine r_cv1 (cu2 := 1) (su2 := 6) qL_temperatureOf_4 kL_41 rfl (by decide +kernel) (c := 3) (by assumption) (by decide) rfl rfl rfl rfl rfl rfl ?_
  refine h _ (fun r g2 i2 j2 hk => ?_)
  rcases r with (_ | v) | ec
  · exact hk.elim
  · cases v with
    | int v =>
      show zR E _ _ X 7 _ _ _ _ _ _ _
      exact Kv v g2 i2 j2 hk.1 hk.2.1 hk.2.2
    | _ => exact hk.elim
  · show zT E _ _ X _ _ _ _ _ _ _ _
    obtain ⟨v, hf, hk⟩ := hk
    by_cases h2 : ec = 2
    · subst h2
      cases (show some (nI 1) = some v from hf)
      exact t_catch (pre := []) (x := (0, 9, 12, 24)) (suf := []) rfl (fun z hz => absurd hz List.not_mem_nil) (by decide) (by decide) cl_24 (by decide) (fun r => Kx0 r g2 i2 j2 hk)
    rw [lf_2, if_neg h2] at hf
    cases hf
def lf_210 (ec : Nat) : Option Int32 := if ec = 2 then some (nI 1) else if ec = 1 then some (nI 2) else if ec = 0 then some (nI 3) else none
set_option maxHeartbeats 4000000 in
set_option maxRecDepth 20000 in
theorem c_L_topUp {E : Ev} {g : Sh} {i : Ni} {j : Nj} {K : Kp} {c ol : Nat} {a0 a1 : Int32} (ht : gT g c = 4) (h : ∀ K1 : Kp, (∀ r g' i' j', zLk lf_210 ol K r g' i' j' → K1 r g' i' j') → zCon E mX3_topUp [.ref c, .int a0, .int a1] g i j K1) : zCon E mL_topUp [.ref c, .int a0, .int a1, .ref ol] g i j K := by
  refine zcon_ofH (by decide +kernel) rfl rfl (lo := [.ref c, .int a0, .int a1, .ref ol, zJ]) rfl (fun X => ?_)
  have Kv : ∀ (v : Int32) (g2 : Sh) (i2 : Ni) (j2 : Nj), gT g2 ol = 14 → gL g2 ol = 1 → (∀ j' : Nj, j' ol 0 = v.toInt64 → (∀ q, q ≠ ol → j' q = j2 q) → K (.inl (some (.int (nI 0)))) g2 i2 j') → zR E mL_topUp (zZ E mL_topUp K) X 8 [.ref c, .int a0, .int a1, .ref ol, zJ] [.int v, .int (nI 0), .ref ol] g2 i2 j2 3 18 := by
    intro v g2 i2 j2 t1 t2 hk
    refine r_i2l qL_topUp_8 ?_
    refine r_last qL_topUp_9 (by assumption) (in_0 t2) ?_
    refine r_goto (t := 25) qL_topUp_10 (by decide) ?_
    refine r_iconst (v := nI 0) qL_topUp_25 (by decide) ?_
    refine r_iret qL_topUp_26 rfl rfl rfl rfl ?_
    exact hk _ wl_0 wl_n
  have Kx0 : ∀ (r : Nat) (g2 : Sh) (i2 : Ni) (j2 : Nj), K (.inl (some (.int (nI 1)))) g2 i2 j2 → zR E mL_topUp (zZ E mL_topUp K) X 13 [.ref c, .int a0, .int a1, .ref ol, zJ] [.ref r] g2 i2 j2 3 18 := by
    intro r g2 i2 j2 hk
    refine r_as_5_4 qL_topUp_13 rfl rfl ?_
    refine r_iconst (v := nI 1) qL_topUp_15 (by decide) ?_
    refine r_iret qL_topUp_16 rfl rfl rfl rfl ?_
    exact hk
  have Kx1 : ∀ (r : Nat) (g2 : Sh) (i2 : Ni) (j2 : Nj), K (.inl (some (.int (nI 2)))) g2 i2 j2 → zR E mL_topUp (zZ E mL_topUp K) X 17 [.ref c, .int a0, .int a1, .ref ol, zJ] [.ref r] g2 i2 j2 3 18 := by
    intro r g2 i2 j2 hk
    refine r_as_5_4 qL_topUp_17 rfl rfl ?_
    refine r_iconst (v := nI 2) qL_topUp_19 (by decide) ?_
    refine r_iret qL_topUp_20 rfl rfl rfl rfl ?_
    exact hk
  have Kx2 : ∀ (r : Nat) (g2 : Sh) (i2 : Ni) (j2 : Nj), K (.inl (some (.int (nI 3)))) g2 i2 j2 → zR E mL_topUp (zZ E mL_topUp K) X 21 [.ref c, .int a0, .int a1, .ref ol, zJ] [.ref r] g2 i2 j2 3 18 := by
    intro r g2 i2 j2 hk
    refine r_as_5_4 qL_topUp_21 rfl rfl ?_
    refine r_iconst (v := nI 3) qL_topUp_23 (by decide) ?_
    refine r_iret qL_topUp_24 rfl rfl rfl rfl ?_
    exact hk
  refine r_aload_n qL_topUp_0 rfl ?_
  refine r_iconst (v := nI 0) qL_topUp_1 (by decide) ?_
  refine r_aload_n qL_topUp_2 rfl ?_
  refine r_iload_n qL_topUp_3 rfl ?_
  refine r_iload_n qL_topUp_4 rfl ?_
  refine r_cv2 (cu2 := 3) (su2 := 18) qL_topUp_5 kL_141 rfl (by decide +kernel) (c := 3) (by assumption) (by decide) rfl rfl rfl rfl rfl rfl ?_
  refine h _ (fun r g2 i2 j2 hk => ?_)
  rcases r with (_ | v) | ec
  · exact hk.elim
  · cases v with
    | int v =>
      show zR E _ _ X 8 _ _ _ _ _ _ _
      exact Kv v g2 i2 j2 hk.1 hk.2.1 hk.2.2
    | _ => exact hk.elim
  · show zT E _ _ X _ _ _ _ _ _ _ _
    obtain ⟨v, hf, hk⟩ := hk
    by_cases h2 : ec = 2
    · subst h2
      cases (show some (nI 1) = some v from hf)
      exact t_catch (pre := []) (x := (0, 10, 13, 24)) (suf := [(0, 10, 17, 19), (0, 10, 21, 13)]) rfl (fun z hz => absurd hz List.not_mem_nil) (by decide) (by decide) cl_24 (by decide) (fun r => Kx0 r g2 i2 j2 hk)
    by_cases h1 : ec = 1
    · subst h1
      cases (show some (nI 2) = some v from hf)
      exact t_catch (pre := [(0, 10, 13, 24)]) (x := (0, 10, 17, 19)) (suf := [(0, 10, 21, 13)]) rfl (List.forall_mem_cons.mpr ⟨⟨by decide, _, cl_24, by decide⟩, List.forall_mem_nil _⟩) (by decide) (by decide) cl_19 (by decide) (fun r => Kx1 r g2 i2 j2 hk)
    by_cases h0 : ec = 0
    · subst h0
      cases (show some (nI 3) = some v from hf)
      exact t_catch (pre := [(0, 10, 13, 24), (0, 10, 17, 19)]) (x := (0, 10, 21, 13)) (suf := []) rfl (List.forall_mem_cons.mpr ⟨⟨by decide, _, cl_24, by decide⟩, List.forall_mem_cons.mpr ⟨⟨by decide, _, cl_19, by decide⟩, List.forall_mem_nil _⟩⟩) (by decide) (by decide) cl_13 (by decide) (fun r => Kx2 r g2 i2 j2 hk)
    rw [lf_210, if_neg h2, if_neg h1, if_neg h0] at hf
    cases hf
set_option maxHeartbeats 4000000 in
set_option maxRecDepth 20000 in
theorem c_L_truncate {E : Ev} {g : Sh} {i : Ni} {j : Nj} {K : Kp} {c ol : Nat} {a0 : Int32} (ht : gT g c = 4) (h : ∀ K1 : Kp, (∀ r g' i' j', zLk lf_1 ol K r g' i' j' → K1 r g' i' j') → zCon E mX3_truncate [.ref c, .int a0] g i j K1) : zCon E mL_truncate [.ref c, .int a0, .ref ol] g i j K := by
  refine zcon_ofH (by decide +kernel) rfl rfl (lo := [.ref c, .int a0, .ref ol, zJ]) rfl (fun X => ?_)
  have Kv : ∀ (v : Int32) (g2 : Sh) (i2 : Ni) (j2 : Nj), gT g2 ol = 14 → gL g2 ol = 1 → (∀ j' : Nj, j' ol 0 = v.toInt64 → (∀ q, q ≠ ol → j' q = j2 q) → K (.inl (some (.int (nI 0)))) g2 i2 j') → zR E mL_truncate (zZ E mL_truncate K) X 7 [.ref c, .int a0, .ref ol, zJ] [.int v, .int (nI 0), .ref ol] g2 i2 j2 1 6 := by
    intro v g2 i2 j2 t1 t2 hk
    refine r_i2l qL_truncate_7 ?_
    refine r_last qL_truncate_8 (by assumption) (in_0 t2) ?_
    refine r_goto (t := 15) qL_truncate_9 (by decide) ?_
    refine r_iconst (v := nI 0) qL_truncate_15 (by decide) ?_
    refine r_iret qL_truncate_16 rfl rfl rfl rfl ?_
    exact hk _ wl_0 wl_n
  have Kx0 : ∀ (r : Nat) (g2 : Sh) (i2 : Ni) (j2 : Nj), K (.inl (some (.int (nI 1)))) g2 i2 j2 → zR E mL_truncate (zZ E mL_truncate K) X 12 [.ref c, .int a0, .ref ol, zJ] [.ref r] g2 i2 j2 1 6 := by
    intro r g2 i2 j2 hk
    refine r_as_4_3 qL_truncate_12 rfl rfl ?_
    refine r_iconst (v := nI 1) qL_truncate_13 (by decide) ?_
    refine r_iret qL_truncate_14 rfl rfl rfl rfl ?_
    exact hk
  refine r_aload_n qL_truncate_0 rfl ?_
  refine r_iconst (v := nI 0) qL_truncate_1 (by decide) ?_
  refine r_aload_n qL_truncate_2 rfl ?_
  refine r_iload_n qL_truncate_3 rfl ?_
  refine r_cv1 (cu2 := 1) (su2 := 6) qL_truncate_4 kL_15 rfl (by decide +kernel) (c := 3) (by assumption) (by decide) rfl rfl rfl rfl rfl rfl ?_
  refine h _ (fun r g2 i2 j2 hk => ?_)
  rcases r with (_ | v) | ec
  · exact hk.elim
  · cases v with
    | int v =>
      show zR E _ _ X 7 _ _ _ _ _ _ _
      exact Kv v g2 i2 j2 hk.1 hk.2.1 hk.2.2
    | _ => exact hk.elim
  · show zT E _ _ X _ _ _ _ _ _ _ _
    obtain ⟨v, hf, hk⟩ := hk
    by_cases h1 : ec = 1
    · subst h1
      cases (show some (nI 1) = some v from hf)
      exact t_catch (pre := []) (x := (0, 9, 12, 19)) (suf := []) rfl (fun z hz => absurd hz List.not_mem_nil) (by decide) (by decide) cl_19 (by decide) (fun r => Kx0 r g2 i2 j2 hk)
    rw [lf_1, if_neg h1] at hf
    cases hf
set_option maxHeartbeats 4000000 in
set_option maxRecDepth 20000 in
theorem c_L_tubesIn {E : Ev} {g : Sh} {i : Ni} {j : Nj} {K : Kp} {c ol : Nat} {a0 : Int32} (ht : gT g c = 4) (h : ∀ K1 : Kp, (∀ r g' i' j', zLk lf_2 ol K r g' i' j' → K1 r g' i' j') → zCon E mX3_tubesIn [.ref c, .int a0] g i j K1) : zCon E mL_tubesIn [.ref c, .int a0, .ref ol] g i j K := by
  refine zcon_ofH (by decide +kernel) rfl rfl (lo := [.ref c, .int a0, .ref ol, zJ]) rfl (fun X => ?_)
  have Kv : ∀ (v : Int32) (g2 : Sh) (i2 : Ni) (j2 : Nj), gT g2 ol = 14 → gL g2 ol = 1 → (∀ j' : Nj, j' ol 0 = v.toInt64 → (∀ q, q ≠ ol → j' q = j2 q) → K (.inl (some (.int (nI 0)))) g2 i2 j') → zR E mL_tubesIn (zZ E mL_tubesIn K) X 7 [.ref c, .int a0, .ref ol, zJ] [.int v, .int (nI 0), .ref ol] g2 i2 j2 1 6 := by
    intro v g2 i2 j2 t1 t2 hk
    refine r_i2l qL_tubesIn_7 ?_
    refine r_last qL_tubesIn_8 (by assumption) (in_0 t2) ?_
    refine r_goto (t := 15) qL_tubesIn_9 (by decide) ?_
    refine r_iconst (v := nI 0) qL_tubesIn_15 (by decide) ?_
    refine r_iret qL_tubesIn_16 rfl rfl rfl rfl ?_
    exact hk _ wl_0 wl_n
  have Kx0 : ∀ (r : Nat) (g2 : Sh) (i2 : Ni) (j2 : Nj), K (.inl (some (.int (nI 1)))) g2 i2 j2 → zR E mL_tubesIn (zZ E mL_tubesIn K) X 12 [.ref c, .int a0, .ref ol, zJ] [.ref r] g2 i2 j2 1 6 := by
    intro r g2 i2 j2 hk
    refine r_as_4_3 qL_tubesIn_12 rfl rfl ?_
    refine r_iconst (v := nI 1) qL_tubesIn_13 (by decide) ?_
    refine r_iret qL_tubesIn_14 rfl rfl rfl rfl ?_
    exact hk
  refine r_aload_n qL_tubesIn_0 rfl ?_
  refine r_iconst (v := nI 0) qL_tubesIn_1 (by decide) ?_
  refine r_aload_n qL_tubesIn_2 rfl ?_
  refine r_iload_n qL_tubesIn_3 rfl ?_
  refine r_cv1 (cu2 := 1) (su2 := 6) qL_tubesIn_4 kL_26 rfl (by decide +kernel) (c := 3) (by assumption) (by decide) rfl rfl rfl rfl rfl rfl ?_
  refine h _ (fun r g2 i2 j2 hk => ?_)
  rcases r with (_ | v) | ec
  · exact hk.elim
  · cases v with
    | int v =>
      show zR E _ _ X 7 _ _ _ _ _ _ _
      exact Kv v g2 i2 j2 hk.1 hk.2.1 hk.2.2
    | _ => exact hk.elim
  · show zT E _ _ X _ _ _ _ _ _ _ _
    obtain ⟨v, hf, hk⟩ := hk
    by_cases h2 : ec = 2
    · subst h2
      cases (show some (nI 1) = some v from hf)
      exact t_catch (pre := []) (x := (0, 9, 12, 24)) (suf := []) rfl (fun z hz => absurd hz List.not_mem_nil) (by decide) (by decide) cl_24 (by decide) (fun r => Kx0 r g2 i2 j2 hk)
    rw [lf_2, if_neg h2] at hf
    cases hf
set_option maxHeartbeats 4000000 in
set_option maxRecDepth 20000 in
theorem c_L_undo {E : Ev} {g : Sh} {i : Ni} {j : Nj} {K : Kp} {c ol : Nat} (ht : gT g c = 4) (h : ∀ K1 : Kp, (∀ r g' i' j', zLk lf_0 ol K r g' i' j' → K1 r g' i' j') → zCon E mX3_undo [.ref c] g i j K1) : zCon E mL_undo [.ref c, .ref ol] g i j K := by
  refine zcon_ofH (by decide +kernel) rfl rfl (lo := [.ref c, .ref ol, zJ]) rfl (fun X => ?_)
  have Kv : ∀ (v : Int32) (g2 : Sh) (i2 : Ni) (j2 : Nj), gT g2 ol = 14 → gL g2 ol = 1 → (∀ j' : Nj, j' ol 0 = v.toInt64 → (∀ q, q ≠ ol → j' q = j2 q) → K (.inl (some (.int (nI 0)))) g2 i2 j') → zR E mL_undo (zZ E mL_undo K) X 6 [.ref c, .ref ol, zJ] [.int v, .int (nI 0), .ref ol] g2 i2 j2 1 6 := by
    intro v g2 i2 j2 t1 t2 hk
    refine r_i2l qL_undo_6 ?_
    refine r_last qL_undo_7 (by assumption) (in_0 t2) ?_
    refine r_goto (t := 14) qL_undo_8 (by decide) ?_
    refine r_iconst (v := nI 0) qL_undo_14 (by decide) ?_
    refine r_iret qL_undo_15 rfl rfl rfl rfl ?_
    exact hk _ wl_0 wl_n
  have Kx0 : ∀ (r : Nat) (g2 : Sh) (i2 : Ni) (j2 : Nj), K (.inl (some (.int (nI 1)))) g2 i2 j2 → zR E mL_undo (zZ E mL_undo K) X 11 [.ref c, .ref ol, zJ] [.ref r] g2 i2 j2 1 6 := by
    intro r g2 i2 j2 hk
    refine r_as_3_2 qL_undo_11 rfl rfl ?_
    refine r_iconst (v := nI 1) qL_undo_12 (by decide) ?_
    refine r_iret qL_undo_13 rfl rfl rfl rfl ?_
    exact hk
  refine r_aload_n qL_undo_0 rfl ?_
  refine r_iconst (v := nI 0) qL_undo_1 (by decide) ?_
  refine r_aload_n qL_undo_2 rfl ?_
  refine r_cv0 (cu2 := 1) (su2 := 6) qL_undo_3 kL_160 rfl (by decide +kernel) (c := 3) (by assumption) (by decide) rfl rfl rfl rfl rfl rfl ?_
  refine h _ (fun r g2 i2 j2 hk => ?_)
  rcases r with (_ | v) | ec
  · exact hk.elim
  · cases v with
    | int v =>
      show zR E _ _ X 6 _ _ _ _ _ _ _
      exact Kv v g2 i2 j2 hk.1 hk.2.1 hk.2.2
    | _ => exact hk.elim
  · show zT E _ _ X _ _ _ _ _ _ _ _
    obtain ⟨v, hf, hk⟩ := hk
    by_cases h0 : ec = 0
    · subst h0
      cases (show some (nI 1) = some v from hf)
      exact t_catch (pre := []) (x := (0, 8, 11, 13)) (suf := []) rfl (fun z hz => absurd hz List.not_mem_nil) (by decide) (by decide) cl_13 (by decide) (fun r => Kx0 r g2 i2 j2 hk)
    rw [lf_0, if_neg h0] at hf
    cases hf

