/-! ===== NEW GALLERIES ===== -/
/-- all that stood is as before -/
def zNa2 (g : Sh) (i : Ni) (j : Nj) (g' : Sh) (i' : Ni) (j' : Nj) : Prop := ∀ u, zNf u g i j g' i' j'
theorem zNa2.of {w : Nat} {g g1 : Sh} {i i1 : Ni} {j j1 : Nj} (hw : gT g w = 0) (h : zNf w g i j g1 i1 j1) : zNa2 g i j g1 i1 j1 := fun _ => zNf.of hw h
theorem zC.nf {w : Nat} {g g1 : Sh} {i i1 : Ni} {j j1 : Nj} {a : Nat → Nat} (h : zC g a) (F : zNf w g i j g1 i1 j1) (hw : gT g w = 0) : zC g1 a ∧ ∀ q, q < 30 → i1 (a q) = i (a q) := by
  have k : ∀ q, q < 30 → gT g (a q) ≠ 0 ∧ a q ≠ w := fun q hq => by
    have : gT g (a q) ≠ 0 := by rcases h.kd hq with e | e | e | e <;> rw [e] <;> decide
    exact ⟨this, fun e => this (by rw [e]; exact hw)⟩
  exact ⟨h.to (fun q hq => ⟨(F _ (k q hq).1).1, (F _ (k q hq).1).2.1, ((F _ (k q hq).1).2.2.2 (k q hq).2).1⟩), fun q hq => ((F _ (k q hq).1).2.2.2 (k q hq).2).2⟩
/-- the array ar of z galleries B, all new since g -/
def zGs (z : Nat) (g0 g : Sh) (i : Ni) (ar : Nat) (B : Nat → Nat → Nat) : Prop := (∀ k, k < z → gR g ar k = B k 0 ∧ zC g (B k) ∧ zNo i (B k)) ∧ (∀ k m p q, k < z → m < z → k ≠ m → p < 30 → q < 30 → B k p ≠ B m q) ∧ ∀ k q, k < z → q < 30 → gT g0 (B k q) = 0
theorem zGs.step {z w ar : Nat} {g0 g g3 : Sh} {i0 i i3 : Ni} {j0 j j3 : Nj} {B : Nat → Nat → Nat} {a : Nat → Nat} (h : zGs z g0 g i ar B) (hA : gT g ar = 16) (hw : gT g w = 0) (a0 : a 0 = w) (hC : zC g3 a) (hN : zNo i3 a) (hf : ∀ q, q < 30 → gT g (a q) = 0) (F : zNf w g i j g3 i3 j3) (F0 : zNa2 g0 i0 j0 g i j) : zGs (z + 1) g0 (wR g3 ar z w) i3 ar (fun k => if k = z then a else B k) := by
  obtain ⟨h1, h2, h3⟩ := h
  have hwa : ar ≠ w := fun e => by rw [e, hw] at hA; exact absurd hA (by decide)
  have hA3 : gT g3 ar = 16 := F.ty hA (by decide)
  have fA : ∀ {b : Nat → Nat}, zC g3 b → zC (wR g3 ar z w) b := fun {b} hb => hb.to (fun q hq => ⟨rfl, rfl, fun k => by rw [gR_wR, if_neg (hb.k12 hA3 (by decide) hq)]⟩)
  have kd : ∀ k, k < z → ∀ q, q < 30 → gT g (B k q) ≠ 0 := fun k hk q hq => by rcases (h1 k hk).2.1.kd hq with e | e | e | e <;> rw [e] <;> decide
  refine ⟨fun k hk => ?_, fun k m p q hk hm hkm hp hq => ?_, fun k q hk hq => ?_⟩
  · show gR _ _ _ = (if k = z then a else B k) 0 ∧ zC _ (if k = z then a else B k) ∧ zNo _ (if k = z then a else B k)
    by_cases e : k = z
    · subst e
      rw [if_pos rfl]
      exact ⟨by rw [gR_wR, if_pos rfl, if_pos rfl, a0], fA hC, hN⟩
    · rw [if_neg e]
      obtain ⟨b1, b2, b3⟩ := h1 k (by omega)
      obtain ⟨c1, c2⟩ := b2.nf F hw
      exact ⟨by rw [gR_wR, if_pos rfl, if_neg e, ((F ar (by rw [hA]; decide)).2.2.2 hwa).1]; exact b1, fA c1, fun z9 hz9 => by rw [c2 _ (by omega)]; exact b3 z9 hz9⟩
  · show (if k = z then a else B k) p ≠ (if m = z then a else B m) q
    by_cases e1 : k = z
    · rw [if_pos e1, if_neg (by omega)]
      exact fun e => kd m (by omega) q hq (by rw [← e]; exact hf p hp)
    · rw [if_neg e1]
      by_cases e2 : m = z
      · rw [if_pos e2]
        exact fun e => kd k (by omega) p hp (by rw [e]; exact hf q hq)
      · rw [if_neg e2]
        exact h2 k m p q (by omega) (by omega) hkm hp hq
  · show gT g0 ((if k = z then a else B k) q) = 0
    by_cases e : k = z
    · rw [if_pos e]; exact (F0 0).fr (hf q hq)
    · rw [if_neg e]; exact h3 k q (by omega) hq
set_option maxHeartbeats 4000000 in
set_option maxRecDepth 20000 in
theorem c_X3_emptyGalleries {E : Ev} {g : Sh} {i : Ni} {j : Nj} {K : Kp} {n : Nat} (hn : n = 6 ∨ n = 2) (hK : ∀ (ar : Nat) (B : Nat → Nat → Nat) (g' : Sh) (i' : Ni) (j' : Nj), gT g' ar = 16 → gL g' ar = n → zGs n g g' i' ar B → gT g ar = 0 → zNa2 g i j g' i' j' → K (.inl (some (.ref ar))) g' i' j') : zCon E mX3_emptyGalleries [.int (nI n)] g i j K := by
  refine zcon_of (by decide +kernel) rfl rfl (lo := [.int (nI n), zJ, zJ]) rfl (fun X => ?_)
  have K7 : ∀ (ar : Nat) (far : gT g ar = 0) (q z : Nat), q + z = n → ∀ (g1 : Sh) (i1 : Ni) (j1 : Nj) (B : Nat → Nat → Nat), gT g1 ar = 16 → gL g1 ar = n → zGs z g g1 i1 ar B → zNa2 g i j g1 i1 j1 → zR E mX3_emptyGalleries (zZ E mX3_emptyGalleries K) X 7 [.int (nI n), .ref ar, .int (nI z)] [] g1 i1 j1 (1 + 30 * z) (n + 271 * z) := by
    intro ar far q
    induction q with
    | zero =>
      intro z hz g1 i1 j1 B hA hL hG hF
      obtain rfl : z = n := by omega
      have hcu9 : Nat.ble (1 + 30 * z) 181 = true := Nat.ble_eq.mpr (by omega)
      have hsu9 : Nat.ble (z + 271 * z) 1632 = true := Nat.ble_eq.mpr (by omega)
      refine r_iload_n qX3_emptyGalleries_7 rfl ?_
      refine r_iload_n qX3_emptyGalleries_8 rfl ?_
      refine r_icmp_ge (t := 28) qX3_emptyGalleries_9 (by decide) (fun hc9 => ?_) (fun hc9 => absurd hc9 (fun h => h (nI_le (Nat.le_refl _) (by omega))))
      refine r_aload_n qX3_emptyGalleries_28 rfl ?_
      refine r_aret qX3_emptyGalleries_29 rfl rfl hcu9 hsu9 ?_
      exact hK ar B _ _ _ hA hL hG far hF
    | succ q ih =>
      intro z hz g1 i1 j1 B hA hL hG hF
      have hcu1 : Nat.ble (1 + 30 * z + 1) 181 = true := Nat.ble_eq.mpr (by omega)
      have hsu1 : Nat.ble (n + 271 * z + 13) 1632 = true := Nat.ble_eq.mpr (by omega)
      have hcu2 : Nat.ble (1 + 30 * z + 1 + 29) 181 = true := Nat.ble_eq.mpr (by omega)
      have hsu2 : Nat.ble (n + 271 * z + 13 + 258) 1632 = true := Nat.ble_eq.mpr (by omega)
      refine r_iload_n qX3_emptyGalleries_7 rfl ?_
      refine r_iload_n qX3_emptyGalleries_8 rfl ?_
      refine r_icmp_ge (t := 28) qX3_emptyGalleries_9 (by decide) (fun hc9 => absurd hc9 (nI_ge (by omega) (by omega))) (fun hc9 => ?_)
      refine r_aload_n qX3_emptyGalleries_12 rfl ?_
      refine r_iload_n qX3_emptyGalleries_13 rfl ?_
      refine r_new qX3_emptyGalleries_14 nX3_10 hcu1 hsu1 (fun w w0 wf => ?_)
      refine r_dup qX3_emptyGalleries_17 rfl ?_
      refine r_ci0 (cu2 := 1 + 30 * z + 1 + 29) (su2 := n + 271 * z + 13 + 258) qX3_emptyGalleries_18 kX3_12 rfl (by decide +kernel) w0 rfl rfl rfl hcu2 hsu2 ?_
      refine c_X0_init w0 (by rw [gT_wN, if_pos rfl]) (fun a g3 i3 j3 a0 C3 N3 f3 F3 => ?_)
      show zR E _ _ X 21 _ _ _ _ _ _ _
      have F4 : zNf w g1 i1 j1 g3 i3 j3 := (zNf.new wf).trans F3
      have hA3 : gT g3 ar = 16 := F4.ty hA (by decide)
      have hL3 : gL g3 ar = n := ((F4 ar (by rw [hA]; decide)).2.1).trans hL
      have ff : ∀ q, q < 30 → gT g1 (a q) = 0 := fun q hq => by
        by_cases hq0 : q = 0
        · rw [hq0, a0]; exact wf
        · have := f3 q (by omega) hq
          rw [gT_wN] at this
          split at this
          · exact absurd this (by decide)
          · exact this
      have wT : gT g3 w = 1 := by rw [← a0]; exact C3.1
      refine r_aast (t := 5) (c := 0) qX3_emptyGalleries_21 hA3 wT (by decide) (by rw [hL3]; exact vp_in_nI (by omega) (by omega)) ?_
      rw [nI_clamp (by omega)]
      refine r_ii_3_2 qX3_emptyGalleries_22 rfl rfl (nI_inc z) ?_
      refine r_goto (t := 7) qX3_emptyGalleries_25 (by decide) ?_
      rw [show 1 + 30 * z + 1 + 29 = 1 + 30 * (z + 1) by omega, show n + 271 * z + 13 + 258 = n + 271 * (z + 1) by omega]
      exact ih (z + 1) (by omega) _ _ _ _ hA3 hL3 (hG.step hA wf a0 C3 N3 ff F4 hF) (fun u => ((hF u).trans (zNf.of wf F4)).wr far)
  rcases hn with rfl | rfl
  · skip
    refine r_iload_n qX3_emptyGalleries_0 rfl ?_
    refine r_anew (N := 6) qX3_emptyGalleries_1 (Or.inr rfl) aX3_10 (by decide) (by decide) rfl rfl rfl (fun ar ar0 arf => ?_)
    refine r_as_3_1 qX3_emptyGalleries_4 rfl rfl ?_
    refine r_iconst (v := nI 0) qX3_emptyGalleries_5 (by decide) ?_
    refine r_is_3_2 qX3_emptyGalleries_6 rfl rfl ?_
    exact K7 ar arf 6 0 rfl _ _ _ (fun _ _ => 0) (by rw [gT_wN, if_pos rfl]) (by rw [gL_wN, if_pos rfl]) ⟨fun k hk => absurd hk (Nat.not_lt_zero k), fun k m p q hk => absurd hk (Nat.not_lt_zero k), fun k q hk => absurd hk (Nat.not_lt_zero k)⟩ (fun u => zNf.new arf)
  · skip
    refine r_iload_n qX3_emptyGalleries_0 rfl ?_
    refine r_anew (N := 2) qX3_emptyGalleries_1 (Or.inr rfl) aX3_10 (by decide) (by decide) rfl rfl rfl (fun ar ar0 arf => ?_)
    refine r_as_3_1 qX3_emptyGalleries_4 rfl rfl ?_
    refine r_iconst (v := nI 0) qX3_emptyGalleries_5 (by decide) ?_
    refine r_is_3_2 qX3_emptyGalleries_6 rfl rfl ?_
    exact K7 ar arf 2 0 rfl _ _ _ (fun _ _ => 0) (by rw [gT_wN, if_pos rfl]) (by rw [gL_wN, if_pos rfl]) ⟨fun k hk => absurd hk (Nat.not_lt_zero k), fun k m p q hk => absurd hk (Nat.not_lt_zero k), fun k q hk => absurd hk (Nat.not_lt_zero k)⟩ (fun u => zNf.new arf)


