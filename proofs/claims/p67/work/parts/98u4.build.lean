/-! ===== P67: BUILDING THE LAW'S TEXT ===== -/
/-- a builder that is new since the memory 0 and holds W -/
def zBs (g0 : Sh) (i0 : Ni) (j0 : Nj) (g : Sh) (i : Ni) (j : Nj) (b : Nat) (W : List Int32) : Prop := zNa2 g0 i0 j0 g i j ∧ zBu g i b W ∧ gT g0 b = 0 ∧ gT g0 (gR g b 0) = 0
theorem zBs.t {g0 g : Sh} {i0 i : Ni} {j0 j : Nj} {b : Nat} {W : List Int32} (h : zBs g0 i0 j0 g i j b W) : gT g b = 6 := h.2.1.1
theorem zBs.app {g0 g g' : Sh} {i0 i i' : Ni} {j0 j j' : Nj} {b : Nat} {W V : List Int32} (h : zBs g0 i0 j0 g i j b W) (hB : zBu g' i' b V) (hF : zBf b g i j g' i' j') : zBs g0 i0 j0 g' i' j' b V := by
  obtain ⟨h1, h2, h3, h4⟩ := h
  refine ⟨fun u q hq => ?_, hB, h3, ?_⟩
  · obtain ⟨a1, a2, a3, a4, a5⟩ := h1.at hq
    have nb : q ≠ b := fun e => hq (by rw [e]; exact h3)
    have nv : q ≠ gR g b 0 := fun e => hq (by rw [e]; exact h4)
    obtain ⟨b1, b2, b3, b4⟩ := hF.2 q (by rw [a1]; exact hq)
    obtain ⟨b5, b6⟩ := b4 nb
    exact ⟨b1.trans a1, b2.trans a2, b3.trans a3, fun _ => ⟨fun k => (b5 k).trans (a4 k), (b6 nv).trans a5⟩⟩
  · rcases hF.1 with e | e
    · rw [e]; exact h4
    · exact (h1 0).fr e
def lit (n : Nat) : List Int32 := if n = 15 then wGal ++ [nI 32] else if n = 16 then [nI 45] else if n = 17 then [] else if n = 18 then [nI 32] else if n = 19 then [nI 59] else if n = 20 then wSpi ++ [nI 32] else if n = 21 then wBat ++ [nI 32] else if n = 22 then [nI 32, nI 45, nI 32] else if n = 23 then wTub ++ [nI 32] else nm7 (n - 24)
theorem lit_all : ∀ n : Fin 16, (zstr[15 + n.val]?).map (fun q => zbyt q.2.2) = some (lit (15 + n.val)) := by decide +kernel
theorem lit_chk : ∀ n : Fin 16, (lit (15 + n.val)).length ≤ 8 ∧ (lit (15 + n.val)).all (fun c => decide (0 ≤ c.toInt ∧ c.toInt < 128)) = true := by decide +kernel
theorem all_ch {W : List Int32} (h : W.all (fun c => decide (0 ≤ c.toInt ∧ c.toInt < 128)) = true) : ∀ c ∈ W, zCh c := fun c hc => by
  have h1 := List.all_eq_true.mp h c hc
  rw [decide_eq_true_iff] at h1
  exact ⟨c.toInt.toNat, by omega, Int32.toInt_inj.mp (by rw [nI_toInt (by omega)]; omega)⟩
theorem lit_ok {n : Nat} (h1 : 15 ≤ n) (h2 : n < 31) : (lit n).length ≤ 8 ∧ ∀ c ∈ lit n, zCh c := by
  have h := lit_chk ⟨n - 15, by omega⟩
  simp only [show 15 + (n - 15) = n by omega] at h
  exact ⟨h.1, all_ch h.2⟩
theorem lit_q {E : Ev} {g : Sh} {i : Ni} {r n : Nat} (h1 : 15 ≤ n) (h2 : n < 31) : zQr E g i r (eK E n + 1) (lit n) := by
  have h := lit_all ⟨n - 15, by omega⟩
  simp only [show 15 + (n - 15) = n by omega] at h
  cases e : zstr[n]? with
  | none => rw [e] at h; exact absurd h (by simp)
  | some q =>
    rw [e] at h
    injection h with h
    exact Or.inl ⟨n, q, e, rfl, h.symm⟩
section
variable {E : Ev} {g g0 : Sh} {i i0 : Ni} {j j0 : Nj} {K : Kp} {b n : Nat} {W : List Int32}
theorem c_lit (h1 : 15 ≤ n) (h2 : n < 31) (h : zBs g0 i0 j0 g i j b W) (hl : W.length ≤ 330) (hK : ∀ (g' : Sh) (i' : Ni) (j' : Nj), zBs g0 i0 j0 g' i' j' b (W ++ lit n) → K (.inl (some (.ref b))) g' i' j') : zCon E mJ4_append_15ec4 [.ref b, .ref (eK E n + 1)] g i j K := by
  obtain ⟨l1, l2⟩ := lit_ok h1 h2
  exact c_J4_append_15ec4 h.2.1 (lit_q h1 h2) (by omega) l2 (Or.inl (by omega)) (by omega) (fun g' i' j' q1 q2 => hK g' i' j' (h.app q1 q2))
theorem c_nat (hn : n < 1000) (h : zBs g0 i0 j0 g i j b W) (hl : W.length ≤ 330) (hK : ∀ (g' : Sh) (i' : Ni) (j' : Nj), zBs g0 i0 j0 g' i' j' b (W ++ dig n) → K (.inl (some (.ref b))) g' i' j') : zCon E mJ4_append_bf812 [.ref b, .int (nI n)] g i j K := by
  refine c_J4_append_bf812 h.2.1 ⟨by rw [nI_toInt (by omega)]; omega, by rw [nI_toInt (by omega)]; omega⟩ (by omega) (fun g' i' j' q1 q2 => hK g' i' j' ?_)
  rw [sNum_nn (by omega)] at q1
  exact h.app q1 q2
end
/-! lengths and letters -/
theorem dig_3 {n : Nat} (h : n < 1000) : (dig n).length ≤ 3 ∧ ∀ c ∈ dig n, zCh c := ⟨(dig_p h).2.2.2.2.1, dig_ch n⟩
theorem sgn_ok (b : List Int32) (v : Int32) (hb : b = [] ∨ b = [nI 32]) : (if v < 0 then nI 45 :: b else []).length ≤ 2 ∧ ∀ c ∈ (if v < 0 then nI 45 :: b else []), zCh c := by
  split
  · rcases hb with rfl | rfl
    · exact ⟨by decide, all_ch (by decide)⟩
    · exact ⟨by decide, all_ch (by decide)⟩
  · exact ⟨by decide, fun c hc => absurd hc List.not_mem_nil⟩
theorem ch_app {V W : List Int32} (h : ∀ c ∈ V, zCh c) (h2 : ∀ c ∈ W, zCh c) : ∀ c ∈ V ++ W, zCh c := fun c hc => (List.mem_append.mp hc).elim (h c) (h2 c)
theorem ch_cons {x : Int32} {W : List Int32} (h : zCh x) (h2 : ∀ c ∈ W, zCh c) : ∀ c ∈ x :: W, zCh c := fun c hc => (List.mem_cons.mp hc).elim (fun e => by rw [e]; exact h) (h2 c)
theorem ch_nil : ∀ c ∈ ([] : List Int32), zCh c := fun c hc => absurd hc List.not_mem_nil
theorem ch_32 : zCh (nI 32) := ⟨32, by decide, rfl⟩
theorem ch_59 : zCh (nI 59) := ⟨59, by decide, rfl⟩
theorem ch_w {w : List Int32} (h : lets w) : ∀ c ∈ w, zCh c := fun c hc => by
  have := h.1 c hc
  rw [kLet, decide_eq_true_iff] at this
  exact ⟨c.toInt.toNat, by omega, Int32.toInt_inj.mp (by rw [nI_toInt (by omega)]; omega)⟩
theorem gT_ok {v l : Int32} (hv : zIn v (-20) 150) (hl : zIn l 1 20) : (gT_ v l []).length ≤ 18 ∧ ∀ c ∈ gT_ v l [], zCh c := by
  obtain ⟨v1, v2⟩ := hv
  obtain ⟨l1, l2⟩ := hl
  obtain ⟨s1, s2⟩ := sgn_ok [] v (Or.inl rfl)
  obtain ⟨a1, a2⟩ := dig_3 (n := v.toInt.natAbs) (by omega)
  obtain ⟨b1, b2⟩ := dig_3 (n := l.toInt.natAbs) (by omega)
  refine ⟨?_, ch_app (ch_w wGal_l) (ch_cons ch_32 (ch_app s2 (ch_app a2 (ch_cons ch_32 (ch_app b2 (ch_cons ch_59 ch_nil))))))⟩
  simp only [gT_, dgP, List.length_append, List.length_cons, List.length_nil, wGal]
  omega
theorem sT_ok {w : List Int32} {n : Nat} (hw : lets w) (h4 : w.length ≤ 4) (hn : n < 1000) : (sT_ w n []).length ≤ 16 ∧ ∀ c ∈ sT_ w n [], zCh c := by
  obtain ⟨a1, a2⟩ := dig_3 hn
  refine ⟨?_, ch_app (ch_w wSpi_l) (ch_cons ch_32 (ch_app (ch_w hw) (ch_cons ch_32 (ch_app a2 (ch_cons ch_59 ch_nil)))))⟩
  simp only [sT_, List.length_append, List.length_cons, List.length_nil, wSpi]
  omega
theorem bT_ok {w : List Int32} {v : Int32} (hw : lets w) (h4 : w.length ≤ 4) (hv : zIn v (-20) 150) : (bT_ w v []).length ≤ 16 ∧ ∀ c ∈ bT_ w v [], zCh c := by
  obtain ⟨v1, v2⟩ := hv
  obtain ⟨s1, s2⟩ := sgn_ok [nI 32] v (Or.inr rfl)
  obtain ⟨a1, a2⟩ := dig_3 (n := v.toInt.natAbs) (by omega)
  refine ⟨?_, ch_app (ch_w wBat_l) (ch_cons ch_32 (ch_app (ch_w hw) (ch_cons ch_32 (ch_app s2 (ch_app a2 (ch_cons ch_59 ch_nil))))))⟩
  simp only [bT_, dgP, List.length_append, List.length_cons, List.length_nil, wBat]
  omega
theorem uT_ok {w : List Int32} {b o l f : Nat} (hw : lets w) (h4 : w.length ≤ 4) (hb : b < 1000) (ho : o < 1000) (hl : l < 1000) (hf : f < 1000) : (uT_ w b o l f []).length ≤ 26 ∧ ∀ c ∈ uT_ w b o l f [], zCh c := by
  obtain ⟨a1, a2⟩ := dig_3 hb
  obtain ⟨b1, b2⟩ := dig_3 ho
  obtain ⟨c1, c2⟩ := dig_3 hl
  obtain ⟨d1, d2⟩ := dig_3 hf
  refine ⟨?_, ch_app (ch_w wTub_l) (ch_cons ch_32 (ch_app (ch_w hw) (ch_cons ch_32 (ch_app a2 (ch_cons ch_32 (ch_app b2 (ch_cons ch_32 (ch_app c2 (ch_cons ch_32 (ch_app d2 (ch_cons ch_59 ch_nil)))))))))))⟩
  simp only [uT_, List.length_append, List.length_cons, List.length_nil, wTub]
  omega
theorem vLg_z (E : Ev) : zIn (nI (vLg E)) 1 20 := by
  have h := vLg_in E
  exact ⟨by rw [nI_toInt (by omega)]; omega, by rw [nI_toInt (by omega)]; omega⟩
theorem vRm_z (E : Ev) : zIn (vRm E) (-20) 150 := ⟨(vRm_in E).1, by have := (vRm_in E).2; omega⟩
theorem xS_ok (E : Ev) : ∀ k, k ≤ 4 → (xS E k).length ≤ 18 + 16 * k ∧ ∀ c ∈ xS E k, zCh c
  | 0, _ => gT_ok (vRm_z E) (vLg_z E)
  | k + 1, hk => by
    obtain ⟨i1, i2⟩ := xS_ok E k (by omega)
    obtain ⟨n1, n2, -⟩ := nm7_lets (q := k) (by omega)
    obtain ⟨s1, s2⟩ := sT_ok n1 n2 (n := vEx E k) (by have := vEx_in E k; omega)
    exact ⟨by rw [xS, List.length_append]; omega, ch_app i2 s2⟩
theorem xB_ok (E : Ev) : ∀ k, k ≤ 4 → (xB E k).length ≤ 66 + 16 * k ∧ ∀ c ∈ xB E k, zCh c
  | 0, _ => by
    have h := vS_lt E
    obtain ⟨i1, i2⟩ := xS_ok E (vS E) (by omega)
    exact ⟨by rw [xB]; omega, i2⟩
  | k + 1, hk => by
    obtain ⟨i1, i2⟩ := xB_ok E k (by omega)
    obtain ⟨n1, n2, -⟩ := nm7_lets (q := 3 + k) (by omega)
    obtain ⟨s1, s2⟩ := bT_ok n1 n2 (vDg_in E k)
    exact ⟨by rw [xB, List.length_append]; omega, ch_app i2 s2⟩
theorem xT_ok (E : Ev) : ∀ k, k ≤ vT E → (xT E k).length ≤ 130 + 26 * k ∧ ∀ c ∈ xT E k, zCh c
  | 0, _ => by
    have h := vB_lt E
    obtain ⟨i1, i2⟩ := xB_ok E (vB E) (by omega)
    exact ⟨by rw [xT]; omega, i2⟩
  | k + 1, hk => by
    obtain ⟨i1, i2⟩ := xT_ok E k (by omega)
    have h1 := vS_lt E
    have h4 := vSp_lt (k := k) (vT_S (E := E) (k := k) (by omega))
    obtain ⟨n1, n2, -⟩ := nm7_lets (q := vSp E k) (by omega)
    have b1 := vBu_in E k
    have b2 := vBo_in E k
    have b3 := vLe_in E k
    have b4 := vFi_in E k
    obtain ⟨s1, s2⟩ := uT_ok n1 n2 (b := vBu E k) (o := vBo E k) (l := vLe E k) (f := vFi E k) (by omega) (by omega) (by omega) (by omega)
    exact ⟨by rw [xT, List.length_append]; omega, ch_app i2 s2⟩
theorem jabs_n {v : Int32} (h : zIn v (-1000) 1000) : jabs v = nI v.toInt.natAbs := by
  obtain ⟨h1, h2⟩ := h
  refine Int32.toInt_inj.mp ?_
  rw [jabs, nI_toInt (by omega)]
  split
  · rename_i h3
    have h4 := Int32.le_iff_toInt_le.mp h3
    rw [show ((0 : Int32)).toInt = 0 by decide] at h4
    omega
  · rename_i h3
    have h4 : ¬ 0 ≤ v.toInt := fun h4 => h3 (Int32.le_iff_toInt_le.mpr h4)
    rw [Int32.toInt_sub, show ((0 : Int32)).toInt = 0 by decide, Int.bmod_eq_of_le] <;> omega
/-! the class's state stands when nothing that stood is written -/
section
variable {g g' : Sh} {i i' : Ni} {j j' : Nj} {c rd tx ur sl sf sb : Nat} {A : Nat → Nat → Nat} {a : Nat → Nat} {N : Nat → Int32}
theorem zC.na2 (h : zC g a) (F : zNa2 g i j g' i' j') : zC g' a := h.to fun q hq => by
  obtain ⟨q1, q2, -, q4, -⟩ := F.at (h.ty hq)
  exact ⟨q1, q2, q4⟩
theorem zNo.na2 (h : zNo i a) (hC : zC g a) (F : zNa2 g i j g' i' j') : zNo i' a := fun z hz => by
  rw [(F.at (hC.ty (q := 6 + 3 * z) (by omega))).2.2.2.2]
  exact h z hz
theorem zY.na2 (h : zY g c rd tx ur sl sf sb A) (F : zNa2 g i j g' i' j') : zY g' c rd tx ur sl sf sb A := by
  obtain ⟨h1, h2, h3, h4, h5, h6, h7, h8, ⟨a1, a2, a3⟩, ⟨b1, b2⟩, ⟨c1, c2, c3⟩, ⟨d1, d2, d3⟩, ⟨e1, e2⟩, f1, k1, k2⟩ := h
  obtain ⟨p1, -, -, p4, -⟩ := F.at (q := c) (by rw [h1]; decide)
  obtain ⟨q1, -, -, q4, -⟩ := F.at (q := rd) (by rw [a1]; decide)
  obtain ⟨r1, r2, -⟩ := F.at (q := tx) (by rw [b1]; decide)
  obtain ⟨s1, s2, -, s4, -⟩ := F.at (q := ur) (by rw [c1]; decide)
  obtain ⟨t1, t2, -, t4, -⟩ := F.at (q := sl) (by rw [d1]; decide)
  obtain ⟨u1, u2, -⟩ := F.at (q := sf) (by rw [e1]; decide)
  obtain ⟨v1, -⟩ := F.at (q := sb) (by rw [f1]; decide)
  exact ⟨p1.trans h1, (p4 0).trans h2, (p4 1).trans h3, (p4 2).trans h4, (p4 3).trans h5, (p4 4).trans h6, (p4 5).trans h7, (p4 6).trans h8, ⟨q1.trans a1, (q4 0).trans a2, (q4 1).trans a3⟩, ⟨r1.trans b1, r2.trans b2⟩, ⟨s1.trans c1, s2.trans c2, fun q hq => (s4 q).trans (c3 q hq)⟩, ⟨t1.trans d1, t2.trans d2, fun q hq => (t4 q).trans (d3 q hq)⟩, ⟨u1.trans e1, u2.trans e2⟩, v1.trans f1, fun n hn => (k1 n hn).na2 F, k2⟩
end

