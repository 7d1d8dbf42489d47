/-! ===== THE ENVIRONMENT AT THE START ===== -/
section
variable {args : Array Value} {s : State}
theorem st_eqi {t : Term} {z : Int32} (h : (Cond.eq t (.int z)).before args s = true) : t.eval args s none [] s = some (.int z) := by
  cases hv : t.eval args s none [] s with
  | none => simp [Cond.before, Cond.holds, Cond.value, hv] at h
  | some w =>
    have hz : (Term.int z).eval args s none [] s = some (.int z) := rfl
    simp only [Cond.before, Cond.holds, Cond.value, hv, hz] at h
    cases w <;> simp_all
theorem st_ex {t : Term} {nm : String} (h : (Cond.exactly t nm).before args s = true) : ∃ a, t.eval args s none [] s = some (.ref a) := by
  cases hv : t.eval args s none [] s with
  | none => simp [Cond.before, Cond.holds, Cond.value, hv] at h
  | some w =>
    cases w with
    | ref a => exact ⟨a, rfl⟩
    | _ =>
      simp only [Cond.before, Cond.holds, Cond.value, hv] at h
      first | (simp at h; done) | (split at h <;> simp_all)
theorem stC_at {own : String} {k : Nat} {bs : List Int32} {j : Nat} (hj : j < bs.length) : Cond.eq (.elem (stV own k) (.int (Int32.ofNat j))) (.int (bs.getD j 0)) ∈ stC own k bs := List.mem_append_right _ (List.mem_map.mpr ⟨j, List.mem_range.mpr hj, rfl⟩)
theorem st_str {own : String} {k : Nat} {bs : List Int32} {A : Nat → Prop} (hs : ∀ c ∈ stC own k bs, c.before args s = true) (hl : bs.length < 2 ^ 31) (hA : ∀ a : Nat, a < s.heap.size → ¬ A a) :
    ∃ a v, (Term.string own k).eval args s none [] s = some (.ref a) ∧ va_O "java/lang/String" a A s s.heap ∧ va_OF "java/lang/String" "coder" "B" (.int 0) a A s s.heap ∧ va_OF "java/lang/String" "value" "[B" (.ref v) a A s s.heap ∧ va_T .byte v bs.length (fun k => .int (bs.getD k 0)) A s s.heap := by
  have h0 := hs _ (List.mem_append_left _ List.mem_cons_self)
  have h1 := hs _ (List.mem_append_left _ (List.mem_cons_of_mem _ List.mem_cons_self))
  have h2 := hs _ (List.mem_append_left _ (List.mem_cons_of_mem _ (List.mem_cons_of_mem _ List.mem_cons_self)))
  have h3 := hs _ (List.mem_append_left _ (List.mem_cons_of_mem _ (List.mem_cons_of_mem _ (List.mem_cons_of_mem _ List.mem_cons_self))))
  obtain ⟨a, ha⟩ := st_ex h0
  obtain ⟨v, hv, hT⟩ := va_Tof (A := A) (f := fun k => .int (bs.getD k 0)) hl h2 (st_eqi h3) (fun j hj => st_eqi (hs _ (stC_at hj))) hA
  exact ⟨a, v, ha, va_Oof h0 ha hA, vk_OFof ha (st_eqi h1) hA, vk_OFof ha hv hA, hT⟩
theorem dg_of {nm : String} {f : Nat → Nat} {A : Nat → Prop} (hs : ∀ c ∈ dgC nm f, c.before args s = true) (hl : (Cond.laysStatic "java/lang/Integer" nm "[B").before args s = true) (hi : (Cond.initialized "java/lang/Integer").before args s = true) (hA : ∀ a : Nat, a < s.heap.size → ¬ A a) :
    ∃ t, va_Z "java/lang/Integer" nm "[B" (.ref t) A s s.heap ∧ va_T .byte t 100 (fun k => .int (nI (f k))) A s s.heap := by
  have h0 := hs _ (List.mem_append_left _ List.mem_cons_self)
  have h1 := hs _ (List.mem_append_left _ (List.mem_cons_of_mem _ List.mem_cons_self))
  obtain ⟨t, ht, hT⟩ := va_Tof (A := A) (f := fun k => .int (nI (f k))) (N := 100) (by decide) h0 (st_eqi h1) (fun j hj => st_eqi (hs _ (List.mem_append_right _ (List.mem_map.mpr ⟨j, List.mem_range.mpr hj, rfl⟩)))) hA
  exact ⟨t, va_Zof hl hi ht hA, hT⟩
theorem st_eqr {t u : Term} {a : Nat} (h : (Cond.eq t u).before args s = true) (hu : u.eval args s none [] s = some (.ref a)) : t.eval args s none [] s = some (.ref a) := by
  cases hv : t.eval args s none [] s with
  | none => simp [Cond.before, Cond.holds, Cond.value, hv] at h
  | some w =>
    simp only [Cond.before, Cond.holds, Cond.value, hv, hu] at h
    cases w <;> simp_all
theorem na_of {nm : String} {ks : List Nat} {f : Nat → Nat} {A : Nat → Prop} (hs : ∀ c ∈ naC nm ks, c.before args s = true) (hk : ks.length < 2 ^ 31) (hl : (Cond.laysStatic RL nm "[Ljava/lang/String;").before args s = true) (hi : (Cond.initialized RL).before args s = true) (hA : ∀ a : Nat, a < s.heap.size → ¬ A a) (he : ∀ j, j < ks.length → (Term.string RL (ks.getD j 0)).eval args s none [] s = some (.ref (f j))) :
    ∃ t, va_Z RL nm "[Ljava/lang/String;" (.ref t) A s s.heap ∧ va_T (.object RJ0) t ks.length (fun k => .ref (f k)) A s s.heap := by
  have h0 := hs _ (List.mem_append_left _ List.mem_cons_self)
  have h1 := hs _ (List.mem_append_left _ (List.mem_cons_of_mem _ List.mem_cons_self))
  obtain ⟨t, ht, hT⟩ := va_Tof (A := A) (f := fun k => .ref (f k)) hk h0 (st_eqi h1) (fun j hj => st_eqr (hs _ (List.mem_append_right _ (List.mem_map.mpr ⟨j, List.mem_range.mpr hj, rfl⟩))) (he j hj)) hA
  exact ⟨t, va_Zof hl hi ht hA, hT⟩
theorem mem_seg {l seg : List Cond} {a m : Nat} (h : (l.drop a).take m = seg) {c : Cond} (hc : c ∈ seg) : c ∈ l := by
  rw [← h] at hc
  exact List.mem_of_mem_drop (List.mem_of_mem_take hc)
theorem mem_at {l : List Cond} {k : Nat} {c : Cond} (h : l[k]? = some c) : c ∈ l := List.mem_of_getElem? h
end
theorem zw_st : zstr.all (fun q => decide (Cond.stringRef q.1 q.2.1 q.2.2 ∈ lw_tbl)) = true := by decide +kernel
theorem zw_ln : zstr.all (fun q => decide ((zbyt q.2.2).length < 1000)) = true := by decide +kernel
theorem zw_ms : zmsg.all (fun q => decide (Cond.stringRef q.1 q.2.1 q.2.2 ∈ lw_tbl) && decide (Cond.exactly (.string q.1 q.2.1) "java/lang/String" ∈ zFl)) = true := by decide +kernel
theorem zw_ca : zcast.all (fun q => decide (Cond.castable q.1 q.2 ∈ lw_tbl)) = true := by decide +kernel
theorem zw_nc : zncast.all (fun q => decide (Cond.not (.castable q.1 q.2) ∈ zFl)) = true := by decide +kernel
theorem zw_de : zdecl.all (fun q => decide (Cond.declares q ∈ lw_tbl)) = true := by decide +kernel
theorem zw_pr : zpriv.all (fun q => decide (Cond.privateMethod q ∈ lw_tbl)) = true := by decide +kernel
theorem zw_fl : decide (Cond.laysStatic "java/lang/String" "COMPACT_STRINGS" "Z" ∈ lw_tbl ∧ Cond.initialized "java/lang/String" ∈ lw_tbl ∧ Cond.laysStatic "jdk/internal/util/Preconditions" "SIOOBE_FORMATTER" "Ljava/util/function/BiFunction;" ∈ lw_tbl ∧ Cond.initialized "jdk/internal/util/Preconditions" ∈ lw_tbl ∧ Cond.laysStatic "java/lang/Integer" "DigitOnes" "[B" ∈ lw_tbl ∧ Cond.laysStatic "java/lang/Integer" "DigitTens" "[B" ∈ lw_tbl ∧ Cond.initialized "java/lang/Integer" ∈ lw_tbl ∧ Cond.laysStatic Bundle.tN "UNASSIGNED_STACK" Bundle.steD ∈ lw_tbl ∧ Cond.laysStatic Bundle.tN "SUPPRESSED_SENTINEL" Bundle.listD ∈ lw_tbl ∧ Cond.initialized Bundle.tN ∈ lw_tbl ∧ Cond.laysStatic RL "SPIRITS" "[Ljava/lang/String;" ∈ lw_tbl ∧ Cond.laysStatic RL "BATHS" "[Ljava/lang/String;" ∈ lw_tbl ∧ Cond.initialized RL ∈ lw_tbl) = true := by decide +kernel
theorem zw_ar : decide (Cond.arrayClass .int ∈ lw_tbl ∧ Cond.arrayClass .byte ∈ lw_tbl ∧ Cond.arrayClass .boolean ∈ lw_tbl ∧ Cond.arrayOver (.object RJ0) ∈ lw_tbl ∧ Cond.arrayOver (.object RX2) ∈ lw_tbl ∧ Cond.arrayOver (.object RX0) ∈ lw_tbl) = true := by decide +kernel
def zinst (c : Nat) : Nat := match c with
  | 0 => 13
  | 1 => 8
  | 2 => 17
  | 3 => 11
  | _ => 4
theorem zw_in : (List.range 6).all (fun c => decide (Cond.instantiable (zcl c).1 (zinst c) ∈ lw_tbl)) = true := by decide +kernel
theorem arr_c {s : State} {args : Array Value} {ty : FieldType} (hp : ∀ C, ty ≠ .object C) (h : (Cond.arrayClass ty).before args s = true) : ∃ cA, ArrOfT s cA ty ∧ va_RA s cA ty := by
  obtain ⟨c, k, comp, h1, h2, h3⟩ := Cond.arrayClass_spec h
  refine ⟨c, fun N z => ⟨(fun k h => by cases h), k, h2, comp, h3⟩, ?_⟩
  cases ty with
  | object C => exact absurd rfl (hp C)
  | _ => exact h1
theorem arr_o {s : State} {args : Array Value} {C : String} (h : (Cond.arrayOver (.object C)).before args s = true) : ∃ cA, ArrOfT s cA (.object C) ∧ va_RA s cA (.object C) := by
  obtain ⟨comp, c, k, h1, h2, h3, h4, h5⟩ := Cond.arrayOver_spec h
  exact ⟨c, fun N z => ⟨(fun k h => by cases h), k, h3, comp, h4⟩, k, comp, h3, h4, h1, h5⟩
set_option maxRecDepth 20000 in
theorem start_env {s : State} {l : Launch} {args : Array Value} (hflags : l.flags = flags0) (hts : ∀ w ∈ lw_tbl, w.before args s = true) (hgv : (Jvm.Cond.and given_1 narrow_1).before args s = true) {b L : Nat} {xs : Nat → Int32} (hX : va_X b L xs s s.heap) (hbl : b < s.heap.size) (hL : L ≤ 260) : ∃ E : Ev, eL E = l ∧ eB E = s.heap.size ∧ eS E 4 = b ∧ zEnv E s := by
  have hF : ∀ c ∈ zFl, c.before args s = true := flat_of_before _ hgv
  have hA : ∀ a : Nat, a < s.heap.size → ¬ (fun q : Nat => s.heap.size ≤ q) a := fun a h => Nat.not_le.mpr h
  have hg : ∀ w ∈ lw_good, w.before args s = true := fun w hw => hts w (List.mem_filter.mp hw).1
  have hKn : ∀ c : Nat, ∃ p : ClassId × (Nat → Nat), c < 6 → u_Kn s (zcl c).1 (zcl c).2.1 (zcl c).2.2 p.1 p.2 := fun c => by
    by_cases hc : c < 6
    · have hin := List.all_eq_true.mp zw_in c (List.mem_range.mpr hc)
      obtain ⟨cC, iS, h⟩ := u_known (C := (zcl c).1) (T := (zcl c).2.1) (N := (zcl c).2.2) (n := zinst c) hg (zin_ws hc) (hts _ (of_decide_eq_true hin))
      exact ⟨(cC, iS), fun _ => h⟩
    · exact ⟨(default, fun _ => 0), fun h => absurd h hc⟩
  obtain ⟨r1, r2, r3, r4, r5, r6⟩ := of_decide_eq_true zw_ar
  obtain ⟨b0, b01⟩ := arr_c (fun C h => by cases h) (hts _ r1)
  obtain ⟨b1, b11⟩ := arr_c (fun C h => by cases h) (hts _ r2)
  obtain ⟨b2, b21⟩ := arr_c (fun C h => by cases h) (hts _ r3)
  obtain ⟨b3, b31⟩ := arr_o (hts _ r4)
  obtain ⟨b4, b41⟩ := arr_o (hts _ r5)
  obtain ⟨b5, b51⟩ := arr_o (hts _ r6)
  obtain ⟨f1, f2, f3, f4, f5, f6, f7, f8, f9, f10, f11, f12, f13⟩ := of_decide_eq_true zw_fl
  obtain ⟨z1, z2, z3, z4⟩ := of_decide_eq_true zFl_at
  obtain ⟨t1, d1, e1⟩ := dg_of (A := fun q : Nat => s.heap.size ≤ q) (fun c hc => hF c (mem_seg (of_decide_eq_true zFl_d1) hc)) (hts _ f5) (hts _ f7) hA
  obtain ⟨t2, d2, e2⟩ := dg_of (A := fun q : Nat => s.heap.size ≤ q) (fun c hc => hF c (mem_seg (of_decide_eq_true zFl_d2) hc)) (hts _ f6) (hts _ f7) hA
  have hSt : ∀ n : Nat, ∃ av : Nat × Nat, ∀ q, zstr[n]? = some q → (Term.string q.1 q.2.1).eval args s none [] s = some (.ref av.1) ∧ vk_R q.1 q.2.1 q.2.2 av.1 s ∧ va_O "java/lang/String" av.1 (fun q : Nat => s.heap.size ≤ q) s s.heap ∧ va_OF "java/lang/String" "coder" "B" (.int 0) av.1 (fun q : Nat => s.heap.size ≤ q) s s.heap ∧ va_OF "java/lang/String" "value" "[B" (.ref av.2) av.1 (fun q : Nat => s.heap.size ≤ q) s s.heap ∧ va_T .byte av.2 (zbyt q.2.2).length (fun k => .int ((zbyt q.2.2).getD k 0)) (fun q : Nat => s.heap.size ≤ q) s s.heap := fun n => by
    cases hz : zstr[n]? with
    | none => exact ⟨(0, 0), fun q h => by cases h⟩
    | some q =>
      have hn : n < 31 := (List.getElem?_eq_some_iff.mp hz).1
      have h1 := List.all_eq_true.mp zFl_st n (List.mem_range.mpr hn)
      rw [hz] at h1
      have h2 := of_decide_eq_true h1
      have h3 := of_decide_eq_true (List.all_eq_true.mp zw_st q (List.mem_of_getElem? hz))
      have h4 := List.all_eq_true.mp zw_ln q (List.mem_of_getElem? hz)
      obtain ⟨a, v, ha, k1, k2, k3, k4⟩ := st_str (A := fun q : Nat => s.heap.size ≤ q) (fun c hc => hF c (mem_seg h2 hc)) (Nat.lt_of_lt_of_le (of_decide_eq_true h4) (by decide)) hA
      refine ⟨(a, v), fun q' h => ?_⟩
      cases h
      exact ⟨ha, vk_R.of (hts _ h3) ha, k1, k2, k3, k4⟩
  obtain ⟨pc, hpc⟩ := Classical.skolem.mp hKn
  obtain ⟨av, hav⟩ := Classical.skolem.mp hSt
  obtain ⟨ts, sp1, sp2⟩ := na_of (A := fun q : Nat => s.heap.size ≤ q) (nm := "SPIRITS") (ks := [361, 363, 365]) (f := fun k => (av (24 + k)).1) (fun c hc => hF c (mem_seg (of_decide_eq_true zFl_sp) hc)) (by decide) (hts _ f11) (hts _ f13) hA (fun j hj => by
    rcases (show j = 0 ∨ j = 1 ∨ j = 2 from by have : j < 3 := hj; omega) with rfl | rfl | rfl
    · exact (hav 24 _ rfl).1
    · exact (hav 25 _ rfl).1
    · exact (hav 26 _ rfl).1)
  obtain ⟨tb, ba1, ba2⟩ := na_of (A := fun q : Nat => s.heap.size ≤ q) (nm := "BATHS") (ks := [367, 369, 371, 372]) (f := fun k => (av (27 + k)).1) (fun c hc => hF c (mem_seg (of_decide_eq_true zFl_ba) hc)) (by decide) (hts _ f12) (hts _ f13) hA (fun j hj => by
    rcases (show j = 0 ∨ j = 1 ∨ j = 2 ∨ j = 3 from by have : j < 4 := hj; omega) with rfl | rfl | rfl | rfl
    · exact (hav 27 _ rfl).1
    · exact (hav 28 _ rfl).1
    · exact (hav 29 _ rfl).1
    · exact (hav 30 _ rfl).1)
  have hSc : va_T .int b L (fun k => .int (xs k)) (fun q : Nat => s.heap.size ≤ q) s s.heap := by
    obtain ⟨scr, x1, x2, x3, x4, x5⟩ := hX
    exact ⟨scr, x1, x2, x3, Nat.le_of_eq x4.symm, by rw [x4], x5, hA b hbl⟩
  refine ⟨(l, fun c => (pc c).1, fun c => (pc c).2, fun t => if t = 0 then b0 else if t = 1 then b1 else if t = 2 then b2 else if t = 3 then b3 else if t = 4 then b4 else b5, s.heap.size, fun n => (av n).1, fun n => (av n).2, fun k => if k = 0 then t1 else if k = 1 then t2 else if k = 2 then ts else if k = 3 then tb else if k = 4 then b else L, xs), rfl, rfl, rfl, ?_, ⟨fun c q hq => ?_, fun k q hq => ?_⟩, Nat.le_refl _, vx_Zqof (hts _ f8) (hts _ f10) (hF _ (mem_at z3)) hA, vx_Zqof (hts _ f9) (hts _ f10) (hF _ (mem_at z4)) hA, fun n q hq => (hav n q hq).2, fun q hq => ?_, ⟨va_AO.of (hts _ r5), va_AO.of (hts _ r6)⟩, fun q hq => ?_, fun q hq => ?_, ⟨va_Zof (hts _ f1) (hts _ f2) (st_eqi (hF _ (mem_at z1))) hA, va_Zqof (hts _ f3) (hts _ f4) (hF _ (mem_at z2)) hA, d1, e1, d2, e2, fun q hq => ?_, sp1, sp2, ba1, ba2, hSc, hL⟩, fun q hq => ?_⟩
  · show l.stackTraces = false
    rw [Launch.stackTraces, hflags]
    decide
  · match c, hq with
    | 0, hq => cases hq; exact hpc 0 (by decide)
    | 1, hq => cases hq; exact hpc 1 (by decide)
    | 2, hq => cases hq; exact hpc 2 (by decide)
    | 3, hq => cases hq; exact hpc 3 (by decide)
    | 4, hq => cases hq; exact hpc 4 (by decide)
    | 5, hq => cases hq; exact hpc 5 (by decide)
    | c + 6, hq => exact absurd hq (by simp [zcls])
  · match k, hq with
    | 0, hq => cases hq; exact b01
    | 1, hq => cases hq; exact b11
    | 2, hq => cases hq; exact b21
    | 3, hq => cases hq; exact b31
    | 4, hq => cases hq; exact b41
    | 5, hq => cases hq; exact b51
    | k + 6, hq => exact absurd hq (by simp [zts])
  · have h := List.all_eq_true.mp zw_ms q hq
    simp only [Bool.and_eq_true] at h
    obtain ⟨a, ha⟩ := st_ex (hF _ (of_decide_eq_true h.2))
    exact ⟨a, vk_R.of (hts _ (of_decide_eq_true h.1)) ha⟩
  · exact va_Nw.of rfl (hts _ (of_decide_eq_true (List.all_eq_true.mp zw_ca q hq)))
  · exact va_Nc.of (hF _ (of_decide_eq_true (List.all_eq_true.mp zw_nc q hq)))
  · exact va_Nw.of rfl (hts _ (of_decide_eq_true (List.all_eq_true.mp zw_pr q hq)))
  · exact va_Nw.of rfl (hts _ (of_decide_eq_true (List.all_eq_true.mp zw_de q hq)))

