/-! ===== CONSTRUCTORS ===== -/
/-- all that stood is as before but the object u's own fields -/
def zNf (u : Nat) (g : Sh) (i : Ni) (j : Nj) (g' : Sh) (i' : Ni) (j' : Nj) : Prop :=
  ∀ q, gT g q ≠ 0 → gT g' q = gT g q ∧ gL g' q = gL g q ∧ j' q = j q ∧ (q ≠ u → (∀ k, gR g' q k = gR g q k) ∧ i' q = i q)
theorem zNf.refl {u : Nat} {g : Sh} {i : Ni} {j : Nj} : zNf u g i j g i j := fun _ _ => ⟨rfl, rfl, rfl, fun _ => ⟨fun _ => rfl, rfl⟩⟩
theorem zNf.trans {u : Nat} {g g1 g2 : Sh} {i i1 i2 : Ni} {j j1 j2 : Nj} (h : zNf u g i j g1 i1 j1) (h2 : zNf u g1 i1 j1 g2 i2 j2) : zNf u g i j g2 i2 j2 := fun q hq => by
  obtain ⟨a1, a2, a3, a4⟩ := h q hq
  obtain ⟨b1, b2, b3, b4⟩ := h2 q (by rw [a1]; exact hq)
  exact ⟨b1.trans a1, b2.trans a2, b3.trans a3, fun hr => ⟨fun k => ((b4 hr).1 k).trans ((a4 hr).1 k), ((b4 hr).2).trans (a4 hr).2⟩⟩
/-- .. what was made since does not matter -/
theorem zNf.of {u w : Nat} {g g1 : Sh} {i i1 : Ni} {j j1 : Nj} (hw : gT g w = 0) (h : zNf w g i j g1 i1 j1) : zNf u g i j g1 i1 j1 := fun q hq => by
  obtain ⟨a1, a2, a3, a4⟩ := h q hq
  have : q ≠ w := fun e => hq (by rw [e]; exact hw)
  exact ⟨a1, a2, a3, fun _ => a4 this⟩
theorem zNf.new {u d t n : Nat} {g : Sh} {i : Ni} {j : Nj} {f : Nat → Int32} {f2 : Nat → Int64} (hd : gT g d = 0) : zNf u g i j (wN g d t n) (wA i d f) (wB j d f2) := fun q hq => by
  have : q ≠ d := fun e => hq (by rw [e]; exact hd)
  exact ⟨by rw [gT_wN, if_neg this], by rw [gL_wN, if_neg this], wB_n this, fun _ => ⟨fun k => by rw [gR_wN, if_neg this], wA_n this⟩⟩
theorem zNf.pr {u k v : Nat} {g : Sh} {i : Ni} {j : Nj} : zNf u g i j (wR g u k v) i j := fun q _ => ⟨rfl, rfl, rfl, fun hr => ⟨fun n => by rw [gR_wR, if_neg hr], rfl⟩⟩
theorem zNf.pi {u : Nat} {g : Sh} {i : Ni} {j : Nj} {f : Nat → Int32} : zNf u g i j g (wA i u f) j := fun q _ => ⟨rfl, rfl, rfl, fun hr => ⟨fun _ => rfl, wA_n hr⟩⟩
theorem zNf.ty {u q t : Nat} {g g' : Sh} {i i' : Ni} {j j' : Nj} (h : zNf u g i j g' i' j') (hq : gT g q = t) (ht : t ≠ 0) : gT g' q = t := (h q (by rw [hq]; exact ht)).1.trans hq
set_option maxHeartbeats 4000000 in
set_option maxRecDepth 20000 in
theorem c_X2_init {E : Ev} {g : Sh} {i : Ni} {j : Nj} {K : Kp} {u z : Nat} (hu0 : u ≠ 0) (hT : gT g u = 3) (hK : ∀ (d h : Nat) (g' : Sh) (i' : Ni) (j' : Nj), zT3 g' u d h → i' u 0 = nI z → gT g d = 0 → gT g h = 0 → zNf u g i j g' i' j' → K (.inl none) g' i' j') : zConI E mX2_init [.ref u, .int (nI z)] g i j K := by
  refine zconI_of (by decide +kernel) rfl rfl (lo := [.ref u, .int (nI z)]) rfl (fun X => ?_)
  refine r_aload_n qX2_init_0 rfl ?_
  refine r_objinit qX2_init_1 kX2_3 (by assumption) rfl rfl ?_
  refine r_aload_n qX2_init_4 rfl ?_
  refine r_iload_n qX2_init_5 rfl ?_
  refine r_puti qX2_init_6 fX2_9 (Or.inr ⟨rfl, rfl, rfl⟩) rfl rfl rfl (by assumption) ?_
  refine r_aload_n qX2_init_9 rfl ?_
  refine r_bipush (v := nI 6) qX2_init_10 (by decide) ?_
  refine r_newa (N := 6) qX2_init_12 rfl (by decide) na_0 (by decide) (by decide) rfl rfl rfl (fun d d0 df => ?_)
  have ud : u ≠ d := fun e => by rw [e, df] at hT; exact absurd hT (by decide)
  have hT2 : gT (wN g d 11 6) u = 3 := by rw [gT_wN, if_neg ud]; exact hT
  refine r_putr qX2_init_14 fX2_15 (Or.inr ⟨rfl, rfl, rfl⟩) rfl (by assumption) ?_
  have hT3 : gT (wR (wN g d 11 6) u 1 d) u = 3 := hT2
  refine r_aload_n qX2_init_17 rfl ?_
  refine r_bipush (v := nI 6) qX2_init_18 (by decide) ?_
  refine r_newa (N := 6) qX2_init_20 rfl (by decide) na_0 (by decide) (by decide) rfl rfl rfl (fun h h0 hf => ?_)
  have hh : gT (wN g d 11 6) h = 0 := hf
  have uh : u ≠ h := fun e => by rw [← e, hT2] at hh; exact absurd hh (by decide)
  have dh : d ≠ h := fun e => by rw [← e, gT_wN, if_pos rfl] at hh; exact absurd hh (by decide)
  have hh2 : gT g h = 0 := by rw [gT_wN, if_neg (Ne.symm dh)] at hh; exact hh
  have hT4 : gT (wN (wR (wN g d 11 6) u 1 d) h 11 6) u = 3 := by rw [gT_wN, if_neg uh]; exact hT3
  refine r_putr qX2_init_22 fX2_19 (Or.inr ⟨rfl, rfl, rfl⟩) rfl (by assumption) ?_
  have hT5 : gT (wR (wN (wR (wN g d 11 6) u 1 d) h 11 6) u 2 h) u = 3 := hT4
  refine r_aload_n qX2_init_25 rfl ?_
  refine r_iconst (v := nI 1) qX2_init_26 (by decide) ?_
  refine r_puti qX2_init_27 fX2_22 (Or.inl rfl) rfl rfl rfl (by assumption) ?_
  refine r_aload_n qX2_init_30 rfl ?_
  refine r_iconst (v := (-1)) qX2_init_31 (by decide) ?_
  refine r_puti qX2_init_32 fX2_25 (Or.inl rfl) rfl rfl rfl (by assumption) ?_
  refine r_vretI qX2_init_35 rfl rfl rfl ?_
  refine hK d h _ _ _ ⟨hT5, by simp [gR_wR, gR_wN, uh], by simp [gR_wR], by rw [gT_wR, gT_wN, if_neg dh, gT_wR, gT_wN, if_pos rfl], by rw [gL_wR, gL_wN, if_neg dh, gL_wR, gL_wN, if_pos rfl], by rw [gT_wR, gT_wN, if_pos rfl], by rw [gL_wR, gL_wN, if_pos rfl], dh⟩ ?_ df hh2 ?_
  · simp (disch := decide) only [wA_s, pk_us, pk_un, wA_n uh, wA_n ud]
  · exact ((((zNf.pi.trans (zNf.new df)).trans zNf.pr).trans (zNf.new hh)).trans zNf.pr).trans (zNf.pi.trans zNf.pi)


