/-! ===== P67: WHAT THE SCRIPT SAYS OF THE ROW ===== -/
def dOk (E : Ev) (N : Nat → Int32) : Prop := N 3 = nI (vS E) ∧ N 4 = nI (vB E) ∧ N 5 = nI (vT E) ∧ (∀ s, s < vS E → N (10 + 4 * s + 2) = nI (vEx E s)) ∧ (∀ b, b < vB E → N (30 + 3 * b + 2) = vDg E b) ∧
  ∀ k, k < vT E → N (42 + 21 * k + 0) = nI (vSp E k) ∧ N (42 + 21 * k + 1) = nI (vBu E k) ∧ N (42 + 21 * k + 2) = nI (vBo E k) ∧ N (42 + 21 * k + 3) = nI (vLe E k)
theorem dOk.S {E : Ev} {N : Nat → Int32} (h : dOk E N) : zn (N 3) = vS E := by
  have := vS_lt E
  rw [h.1, zn_nI (by omega)]
theorem dOk.B {E : Ev} {N : Nat → Int32} (h : dOk E N) : zn (N 4) = vB E := by
  have := vB_lt E
  rw [h.2.1, zn_nI (by omega)]
theorem dOk.T {E : Ev} {N : Nat → Int32} (h : dOk E N) : zn (N 5) = vT E := by
  have := vT_lt E
  rw [h.2.2.1, zn_nI (by omega)]
theorem dOk.free {E : Ev} {N : Nat → Int32} (h : dOk E N) {k : Nat} (hk : k < zn (N 5)) (t : Int32) : sFree N k t = vFree E k (N (42 + 21 * k + 4)) t := by
  rw [h.T] at hk
  obtain ⟨h1, h2, h3, h4⟩ := h.2.2.2.2.2 k hk
  have hs := vSp_lt (k := k) (vT_S hk)
  have h9 := vS_lt E
  rw [sFree, vFree, h1, h2, h3, zn_nI (by omega), h.2.2.2.1 _ hs]
theorem dOk.bath {E : Ev} {N : Nat → Int32} (h : dOk E N) (hO : zOk N) {k : Nat} (hk : k < zn (N 5)) : N (42 + 21 * k + 7) = -1 ∨ ∃ b, N (42 + 21 * k + 7) = nI b ∧ b < vB E := by
  obtain ⟨-, -, -, -, -, -, -, a, -⟩ := hO.tu hk
  rw [h.B] at a
  exact a
/-! ===== P67: marking ===== -/
def mDg (N : Nat → Int32) (k p : Nat) : Int32 := if N (42 + 21 * k + 7) = -1 then nI 0 else zb (sHas (sDeg N k) (N (30 + 3 * zn (N (42 + 21 * k + 7)) + 2)) p = true)
def mHg (N : Nat → Int32) (k p : Nat) : Int32 := zb (sHas (sHgt N k) (sHigh N k) p = true)
theorem zb_or1 {f : Nat → Int32} {v : Int32} {p : Nat} (h : ¬ zb (sHas f v p = true) = 0) : nI 1 = zb (sHas f v (p + 1) = true) := (zb_t (sHas_l (zb_ne.mp h))).symm
theorem zb_or2 {f : Nat → Int32} {v : Int32} {p : Nat} (h2 : f p = v) : nI 1 = zb (sHas f v (p + 1) = true) := (zb_t (sHas_r h2)).symm
theorem zb_or3 {f : Nat → Int32} {v : Int32} {p : Nat} (h : zb (sHas f v p = true) = 0) (h2 : ¬ f p = v) : nI 0 = zb (sHas f v (p + 1) = true) := (zb_f (sHas_n (zb_0.mp h) h2)).symm
theorem c_L_degreesE {E : Ev} {g : Sh} {i : Ni} {j : Nj} {K : Kp} {k : Nat} {v : Int32} (e : v = nI k) (hk : k < 100) (hK : K (.inl (some (.int (vDg E k)))) g i j) : zCon E mL_degrees [.ref (eS E 4 + 1), .int v] g i j K := by
  subst e
  exact c_L_degrees hk hK
set_option maxHeartbeats 4000000 in
set_option maxRecDepth 20000 in
theorem c_L_marking {E : Ev} {g : Sh} {i : Ni} {j : Nj} {K : Kp} {c k : Nat} {a : Nat → Nat} {N : Nat → Int32} (hX : zX3 g c a) (hH : zH i a N) (hD : dOk E N) (hk : k < zn (N 5)) (hK : K (.inl (some (.int (nI 1)))) g i j) : zCon E mL_marking [.ref c, .ref (eS E 4 + 1), .int (nI k)] g i j K := by
  refine zcon_of (by decide +kernel) rfl rfl (lo := [.ref c, .ref (eS E 4 + 1), .int (nI k), zJ, zJ, zJ, zJ, zJ, zJ, zJ]) rfl (fun X => ?_)
  have hm6 := (hH.1.many hk).2
  have x1 := hX.1
  have hO := hH.1
  have h8 := hO.k8 hk
  have hB4 := vB_lt E
  have eB := hD.B
  have hbath := hD.bath hO hk
  have eD : ∀ b, b < vB E → N (30 + 3 * b + 2) = vDg E b := hD.2.2.2.2.1
  have K275 : ∀ z8 z9 : Value, zR E mL_marking (zZ E mL_marking K) X 275 [.ref c, .ref (eS E 4 + 1), .int (nI k), .int (N (42 + 21 * k + 7)), .int (mDg N k (sMany N k)), .int (mHg N k (sMany N k)), .int (sNew N k (vB E)), .int (sMark N k), z8, z9] [] g i j 130 780 := by
    intro z8 z9
    refine r_aload_n qL_marking_275 rfl ?_
    refine r_iload_n qL_marking_276 rfl ?_
    refine r_cv1 (cu2 := 131) (su2 := 786) qL_marking_277 kL_331 rfl (by decide +kernel) (c := 3) (by assumption) (by decide) rfl rfl rfl rfl rfl rfl ?_
    refine q_markRefusal hX hH hk ?_
    show zR E _ _ X 280 _ _ _ _ _ _ _
    refine r_iload qL_marking_280 rfl ?_
    refine r_icmp_ne (t := 299) qL_marking_282 (by decide) (fun hc282 => absurd hc282 (fun h => h rfl)) (fun hc282 => ?_)
    refine r_aload_n qL_marking_285 rfl ?_
    refine r_iload_n qL_marking_286 rfl ?_
    refine r_cv1 (cu2 := 132) (su2 := 792) qL_marking_287 kL_334 rfl (by decide +kernel) (c := 3) (by assumption) (by decide) rfl rfl rfl rfl rfl rfl ?_
    refine q_bathsToMark hX hH hk ?_
    rw [eB]
    show zR E _ _ X 290 _ _ _ _ _ _ _
    refine r_iload qL_marking_290 rfl ?_
    refine r_icmp_ne (t := 299) qL_marking_292 (by decide) (fun hc292 => absurd hc292 (fun h => h rfl)) (fun hc292 => ?_)
    refine r_iconst (v := nI 1) qL_marking_295 (by decide) ?_
    refine r_goto (t := 300) qL_marking_296 (by decide) ?_
    refine r_iret qL_marking_300 rfl (by first | decide | exact zb_nar _ | assumption) rfl rfl ?_
    exact hK
  have K211 : ∀ (z7 z8 z9 : Value), z7.category = 1 → z8.category = 1 → zR E mL_marking (zZ E mL_marking K) X 211 [.ref c, .ref (eS E 4 + 1), .int (nI k), .int (N (42 + 21 * k + 7)), .int (mDg N k (sMany N k)), .int (mHg N k (sMany N k)), .int (sNew N k (vB E)), z7, z8, z9] [] g i j 126 756 := by
    intro z7 z8 z9 c7 c8
    have K9 : ∀ w : Int32, w = sMark N k → zR E mL_marking (zZ E mL_marking K) X 273 [.ref c, .ref (eS E 4 + 1), .int (nI k), .int (N (42 + 21 * k + 7)), .int (mDg N k (sMany N k)), .int (mHg N k (sMany N k)), .int (sNew N k (vB E)), z7, z8, z9] [.int w] g i j 130 780 := by
      intro w hw
      subst hw
      have K0 := K275 z8 z9
      refine r_is_10_7 qL_marking_273 rfl rfl ?_
      exact K0
    rcases hbath with hb | ⟨b, hb, hbB⟩
    · have eM : sMark N k = nI 1 := by rw [sMark, if_pos hb]
      refine r_iload_n qL_marking_211 rfl ?_
      refine r_iconst (v := (-1)) qL_marking_212 (by decide) ?_
      refine r_icmp_ne (t := 220) qL_marking_213 (by decide) (fun hc213 => absurd hc213 (fun h => h hb)) (fun hc213 => ?_)
      refine r_iconst (v := nI 1) qL_marking_216 (by decide) ?_
      refine r_goto (t := 273) qL_marking_217 (by decide) ?_
      exact r_widen (by decide) (by decide) (K9 _ eM.symm)
    · have e1 : ¬ N (42 + 21 * k + 7) = -1 := by rw [hb]; exact nb_m1 (by omega)
      have eG : mDg N k (sMany N k) = zb (sHas (sDeg N k) (N (30 + 3 * zn (N (42 + 21 * k + 7)) + 2)) (sMany N k) = true) := by rw [mDg, if_neg e1]
      have eM : sMark N k = if ¬ N (42 + 21 * k + 5) = sAround N k ∨ N 6 = nI k then nI 2 else if sHas (sDeg N k) (N (30 + 3 * zn (N (42 + 21 * k + 7)) + 2)) (sMany N k) = true then nI 3 else if sHas (sHgt N k) (sHigh N k) (sMany N k) = true then nI 4 else if sMany N k = 6 then nI 5 else nI 0 := by rw [sMark, if_neg e1]
      rw [eM] at K9
      refine r_iload_n qL_marking_211 rfl ?_
      refine r_iconst (v := (-1)) qL_marking_212 (by decide) ?_
      refine r_icmp_ne (t := 220) qL_marking_213 (by decide) (fun hc213 => ?_) (fun hc213 => absurd hc213 (e1))
      refine r_aload_n qL_marking_220 rfl ?_
      refine r_iload_n qL_marking_221 rfl ?_
      refine r_cv1 (cu2 := 127) (su2 := 762) qL_marking_222 kL_262 rfl (by decide +kernel) (c := 3) (by assumption) (by decide) rfl rfl rfl rfl rfl rfl ?_
      refine q_isSettled hX hH hk ?_
      show zR E _ _ X 225 _ _ _ _ _ _ _
      refine r_if_eq (t := 236) qL_marking_225 (by decide) (fun hc225 => ?_) (fun hc225 => ?_)
      · refine r_iconst (v := nI 2) qL_marking_236 (by decide) ?_
        refine r_goto (t := 273) qL_marking_237 (by decide) ?_
        refine r_widen (by decide) (by decide) (K9 _ ?_)
        first
        | exact (if_pos (Or.inl (zb_0.mp hc225))).symm
        | exact (if_pos (Or.inr hc233)).symm
        | (rw [if_neg (fun h => h.elim (fun h => h (zb_ne.mp hc225)) hc233)]
           first
           | exact (if_pos (zb_ne.mp (by rw [← eG]; exact hc242))).symm
           | (rw [if_neg (zb_0.mp (by rw [← eG]; exact hc242))]
              first
              | exact (if_pos (zb_ne.mp hc251)).symm
              | (rw [if_neg (zb_0.mp hc251)]
                 first
                 | exact (if_pos (nI_eq2 (by omega) (by decide) hc265)).symm
                 | exact (if_neg (fun h => hc265 (by rw [h]))).symm)))
      · refine r_aload_n qL_marking_228 rfl ?_
        refine r_cv0 (cu2 := 127) (su2 := 762) qL_marking_229 kL_144 rfl (by decide +kernel) (c := 3) (by assumption) (by decide) rfl rfl rfl rfl rfl rfl ?_
        refine c_X3_thumbedTube hX hH ?_
        show zR E _ _ X 232 _ _ _ _ _ _ _
        refine r_iload_n qL_marking_232 rfl ?_
        refine r_icmp_ne (t := 240) qL_marking_233 (by decide) (fun hc233 => ?_) (fun hc233 => ?_)
        · refine r_iload qL_marking_240 rfl ?_
          refine r_if_eq (t := 249) qL_marking_242 (by decide) (fun hc242 => ?_) (fun hc242 => ?_)
          · refine r_iload qL_marking_249 rfl ?_
            refine r_if_eq (t := 258) qL_marking_251 (by decide) (fun hc251 => ?_) (fun hc251 => ?_)
            · refine r_aload_n qL_marking_258 rfl ?_
              refine r_iload_n qL_marking_259 rfl ?_
              refine r_cv1 (cu2 := 128) (su2 := 768) qL_marking_260 kL_175 rfl (by decide +kernel) (c := 3) (by assumption) (by decide) rfl rfl rfl rfl rfl rfl ?_
              refine q_pointCount hX hH hk ?_
              show zR E _ _ X 263 _ _ _ _ _ _ _
              refine r_bipush (v := nI 6) qL_marking_263 (by decide) ?_
              refine r_icmp_ne (t := 272) qL_marking_265 (by decide) (fun hc265 => ?_) (fun hc265 => ?_)
              · refine r_iconst (v := nI 0) qL_marking_272 (by decide) ?_
                refine r_widen (by decide) (by decide) (K9 _ ?_)
                first
                | exact (if_pos (Or.inl (zb_0.mp hc225))).symm
                | exact (if_pos (Or.inr hc233)).symm
                | (rw [if_neg (fun h => h.elim (fun h => h (zb_ne.mp hc225)) hc233)]
                   first
                   | exact (if_pos (zb_ne.mp (by rw [← eG]; exact hc242))).symm
                   | (rw [if_neg (zb_0.mp (by rw [← eG]; exact hc242))]
                      first
                      | exact (if_pos (zb_ne.mp hc251)).symm
                      | (rw [if_neg (zb_0.mp hc251)]
                         first
                         | exact (if_pos (nI_eq2 (by omega) (by decide) hc265)).symm
                         | exact (if_neg (fun h => hc265 (by rw [h]))).symm)))
              · refine r_iconst (v := nI 5) qL_marking_268 (by decide) ?_
                refine r_goto (t := 273) qL_marking_269 (by decide) ?_
                refine r_widen (by decide) (by decide) (K9 _ ?_)
                first
                | exact (if_pos (Or.inl (zb_0.mp hc225))).symm
                | exact (if_pos (Or.inr hc233)).symm
                | (rw [if_neg (fun h => h.elim (fun h => h (zb_ne.mp hc225)) hc233)]
                   first
                   | exact (if_pos (zb_ne.mp (by rw [← eG]; exact hc242))).symm
                   | (rw [if_neg (zb_0.mp (by rw [← eG]; exact hc242))]
                      first
                      | exact (if_pos (zb_ne.mp hc251)).symm
                      | (rw [if_neg (zb_0.mp hc251)]
                         first
                         | exact (if_pos (nI_eq2 (by omega) (by decide) hc265)).symm
                         | exact (if_neg (fun h => hc265 (by rw [h]))).symm)))
            · refine r_iconst (v := nI 4) qL_marking_254 (by decide) ?_
              refine r_goto (t := 273) qL_marking_255 (by decide) ?_
              refine r_widen (by decide) (by decide) (K9 _ ?_)
              first
              | exact (if_pos (Or.inl (zb_0.mp hc225))).symm
              | exact (if_pos (Or.inr hc233)).symm
              | (rw [if_neg (fun h => h.elim (fun h => h (zb_ne.mp hc225)) hc233)]
                 first
                 | exact (if_pos (zb_ne.mp (by rw [← eG]; exact hc242))).symm
                 | (rw [if_neg (zb_0.mp (by rw [← eG]; exact hc242))]
                    first
                    | exact (if_pos (zb_ne.mp hc251)).symm
                    | (rw [if_neg (zb_0.mp hc251)]
                       first
                       | exact (if_pos (nI_eq2 (by omega) (by decide) hc265)).symm
                       | exact (if_neg (fun h => hc265 (by rw [h]))).symm)))
          · refine r_iconst (v := nI 3) qL_marking_245 (by decide) ?_
            refine r_goto (t := 273) qL_marking_246 (by decide) ?_
            refine r_widen (by decide) (by decide) (K9 _ ?_)
            first
            | exact (if_pos (Or.inl (zb_0.mp hc225))).symm
            | exact (if_pos (Or.inr hc233)).symm
            | (rw [if_neg (fun h => h.elim (fun h => h (zb_ne.mp hc225)) hc233)]
               first
               | exact (if_pos (zb_ne.mp (by rw [← eG]; exact hc242))).symm
               | (rw [if_neg (zb_0.mp (by rw [← eG]; exact hc242))]
                  first
                  | exact (if_pos (zb_ne.mp hc251)).symm
                  | (rw [if_neg (zb_0.mp hc251)]
                     first
                     | exact (if_pos (nI_eq2 (by omega) (by decide) hc265)).symm
                     | exact (if_neg (fun h => hc265 (by rw [h]))).symm)))
        · refine r_iconst (v := nI 2) qL_marking_236 (by decide) ?_
          refine r_goto (t := 273) qL_marking_237 (by decide) ?_
          refine r_widen (by decide) (by decide) (K9 _ ?_)
          first
          | exact (if_pos (Or.inl (zb_0.mp hc225))).symm
          | exact (if_pos (Or.inr hc233)).symm
          | (rw [if_neg (fun h => h.elim (fun h => h (zb_ne.mp hc225)) hc233)]
             first
             | exact (if_pos (zb_ne.mp (by rw [← eG]; exact hc242))).symm
             | (rw [if_neg (zb_0.mp (by rw [← eG]; exact hc242))]
                first
                | exact (if_pos (zb_ne.mp hc251)).symm
                | (rw [if_neg (zb_0.mp hc251)]
                   first
                   | exact (if_pos (nI_eq2 (by omega) (by decide) hc265)).symm
                   | exact (if_neg (fun h => hc265 (by rw [h]))).symm)))
  have K96 : ∀ r b : Nat, b + r = vB E → ∀ CU SU : Nat, CU + 21 * r ≤ 126 → SU + 126 * r ≤ 756 → ∀ z8 z9 : Value, z8.category = 1 → zR E mL_marking (zZ E mL_marking K) X 96 [.ref c, .ref (eS E 4 + 1), .int (nI k), .int (N (42 + 21 * k + 7)), .int (mDg N k (sMany N k)), .int (mHg N k (sMany N k)), .int (sNew N k b), .int (nI b), z8, z9] [] g i j CU SU := by
    intro r
    induction r with
    | zero =>
      intro b hb CU SU hCU hSU z8 z9 c8
      obtain rfl : b = vB E := by omega
      refine r_iload qL_marking_96 rfl ?_
      refine r_aload_n qL_marking_98 rfl ?_
      refine r_cs1 (cu2 := CU) (su2 := SU) qL_marking_99 kL_93 rfl (by decide +kernel) rfl rfl rfl (lbx (m := 140) rfl (by omega)) (lbx (m := 840) rfl (by omega)) ?_
      refine c_L_baths ?_
      show zR E _ _ X 102 _ _ _ _ _ _ _
      refine r_icmp_ge (t := 211) qL_marking_102 (by decide) (fun hc102 => ?_) (fun hc102 => absurd hc102 (fun h => h (Int32.le_refl _)))
      exact r_widen (by omega) (by omega) (K211 _ _ _ rfl c8)
    | succ r ih =>
      intro b hb CU SU hCU hSU z8 z9 c8
      have hbv : b < vB E := by omega
      have eb := eD b hbv
      have K111 : ∀ r2 q : Nat, q + r2 = sMany N k → ∀ w : Int32, w = zb (sHas (sDeg N k) (vDg E b) q = true) → ∀ CU2 SU2 : Nat, CU2 + 3 * r2 ≤ CU + 18 → SU2 + 18 * r2 ≤ SU + 108 → zR E mL_marking (zZ E mL_marking K) X 111 [.ref c, .ref (eS E 4 + 1), .int (nI k), .int (N (42 + 21 * k + 7)), .int (mDg N k (sMany N k)), .int (mHg N k (sMany N k)), .int (sNew N k b), .int (nI b), .int w, .int (nI q)] [] g i j CU2 SU2 := by
        intro r2
        induction r2 with
        | zero =>
          intro q hq w hw CU2 SU2 hC2 hS2
          obtain rfl : q = sMany N k := by omega
          have K168 : ∀ v : Int32, v = sNew N k (b + 1) → zR E mL_marking (zZ E mL_marking K) X 168 [.ref c, .ref (eS E 4 + 1), .int (nI k), .int (N (42 + 21 * k + 7)), .int (mDg N k (sMany N k)), .int (mHg N k (sMany N k)), .int (sNew N k b), .int (nI b), .int w, .int (nI (sMany N k))] [.int v] g i j (CU + 19) (SU + 114) := by
            intro v hv
            subst hv
            refine r_is_10_6 qL_marking_168 rfl rfl ?_
            refine r_aload_n qL_marking_170 rfl ?_
            refine r_iload_n qL_marking_171 rfl ?_
            refine r_iload qL_marking_172 rfl ?_
            refine r_cv2 (cu2 := CU + 21) (su2 := SU + 126) qL_marking_174 kL_328 rfl (by decide +kernel) (c := 3) (by assumption) (by decide) rfl rfl rfl rfl (lbx (m := 140) rfl (by omega)) (lbx (m := 840) rfl (by omega)) ?_
            refine q_dipRefusal hX hH hk (by omega) ?_
            show zR E _ _ X 177 _ _ _ _ _ _ _
            refine r_iload_n qL_marking_177 rfl ?_
            refine r_iload qL_marking_178 rfl ?_
            refine r_icmp_ne (t := 187) qL_marking_180 (by decide) (fun hc180 => ?_) (fun hc180 => ?_)
            · refine r_aload_n qL_marking_187 rfl ?_
              refine r_cv0 (cu2 := CU + 21) (su2 := SU + 126) qL_marking_188 kL_144 rfl (by decide +kernel) (c := 3) (by assumption) (by decide) rfl rfl rfl rfl (lbx (m := 140) rfl (by omega)) (lbx (m := 840) rfl (by omega)) ?_
              refine c_X3_thumbedTube hX hH ?_
              show zR E _ _ X 191 _ _ _ _ _ _ _
              refine r_iload_n qL_marking_191 rfl ?_
              refine r_icmp_ne (t := 199) qL_marking_192 (by decide) (fun hc192 => ?_) (fun hc192 => ?_)
              · refine r_iconst (v := nI 0) qL_marking_199 (by decide) ?_
                refine r_icmp_eq (t := 205) qL_marking_200 (by decide) (fun hc200 => ?_) (fun hc200 => absurd hc200 (fun h => h (by first | exact if_pos hc180 | (rw [sDip, if_neg hc180]; first | exact if_pos hc192 | exact if_neg hc192))))
                refine r_ii_10_7 qL_marking_205 rfl rfl (nI_inc b) ?_
                refine r_goto (t := 96) qL_marking_208 (by decide) ?_
                exact ih (b + 1) (by omega) _ _ (by omega) (by omega) _ _ rfl
              · refine r_iconst (v := nI 2) qL_marking_195 (by decide) ?_
                refine r_goto (t := 200) qL_marking_196 (by decide) ?_
                refine r_icmp_eq (t := 205) qL_marking_200 (by decide) (fun hc200 => ?_) (fun hc200 => absurd hc200 (fun h => h (by first | exact if_pos hc180 | (rw [sDip, if_neg hc180]; first | exact if_pos hc192 | exact if_neg hc192))))
                refine r_ii_10_7 qL_marking_205 rfl rfl (nI_inc b) ?_
                refine r_goto (t := 96) qL_marking_208 (by decide) ?_
                exact ih (b + 1) (by omega) _ _ (by omega) (by omega) _ _ rfl
            · refine r_iconst (v := nI 1) qL_marking_183 (by decide) ?_
              refine r_goto (t := 200) qL_marking_184 (by decide) ?_
              refine r_icmp_eq (t := 205) qL_marking_200 (by decide) (fun hc200 => ?_) (fun hc200 => absurd hc200 (fun h => h (by first | exact if_pos hc180 | (rw [sDip, if_neg hc180]; first | exact if_pos hc192 | exact if_neg hc192))))
              refine r_ii_10_7 qL_marking_205 rfl rfl (nI_inc b) ?_
              refine r_goto (t := 96) qL_marking_208 (by decide) ?_
              exact ih (b + 1) (by omega) _ _ (by omega) (by omega) _ _ rfl
          subst hw
          refine r_iload qL_marking_111 rfl ?_
          refine r_aload_n qL_marking_113 rfl ?_
          refine r_iload_n qL_marking_114 rfl ?_
          refine r_cv1 (cu2 := CU2 + 1) (su2 := SU2 + 6) qL_marking_115 kL_175 rfl (by decide +kernel) (c := 3) (by assumption) (by decide) rfl rfl rfl rfl (lbx (m := 140) rfl (by omega)) (lbx (m := 840) rfl (by omega)) ?_
          refine q_pointCount hX hH hk ?_
          show zR E _ _ X 118 _ _ _ _ _ _ _
          refine r_icmp_ge (t := 155) qL_marking_118 (by decide) (fun hc118 => ?_) (fun hc118 => absurd hc118 (fun h => h (Int32.le_refl _)))
          refine r_iload qL_marking_155 rfl ?_
          refine r_iload qL_marking_157 rfl ?_
          refine r_if_eq (t := 166) qL_marking_159 (by decide) (fun hc159 => ?_) (fun hc159 => ?_)
          · refine r_iconst (v := nI 1) qL_marking_166 (by decide) ?_
            first | with_reducible refine r_iaddN qL_marking_167 ?_ | refine r_iadd qL_marking_167 ?_
            refine r_widen (by omega) (by omega) (K168 _ ?_)
            rw [sNew, eb]
            first | rw [if_pos (zb_ne.mp hc159)] | rw [if_neg (zb_0.mp hc159)]
          · refine r_iconst (v := nI 0) qL_marking_162 (by decide) ?_
            refine r_goto (t := 167) qL_marking_163 (by decide) ?_
            first | with_reducible refine r_iaddN qL_marking_167 ?_ | refine r_iadd qL_marking_167 ?_
            refine r_widen (by omega) (by omega) (K168 _ ?_)
            rw [sNew, eb]
            first | rw [if_pos (zb_ne.mp hc159)] | rw [if_neg (zb_0.mp hc159)]
        | succ r2 ih2 =>
          intro q hq w hw CU2 SU2 hC2 hS2
          have hqm : q < sMany N k := by omega
          subst hw
          refine r_iload qL_marking_111 rfl ?_
          refine r_aload_n qL_marking_113 rfl ?_
          refine r_iload_n qL_marking_114 rfl ?_
          refine r_cv1 (cu2 := CU2 + 1) (su2 := SU2 + 6) qL_marking_115 kL_175 rfl (by decide +kernel) (c := 3) (by assumption) (by decide) rfl rfl rfl rfl (lbx (m := 140) rfl (by omega)) (lbx (m := 840) rfl (by omega)) ?_
          refine q_pointCount hX hH hk ?_
          show zR E _ _ X 118 _ _ _ _ _ _ _
          refine r_icmp_ge (t := 155) qL_marking_118 (by decide) (fun hc118 => absurd hc118 (nI_ge hqm (by omega))) (fun hc118 => ?_)
          refine r_iload qL_marking_121 rfl ?_
          refine r_if_ne (t := 142) qL_marking_123 (by decide) (fun hc123 => ?_) (fun hc123 => ?_)
          · refine r_iconst (v := nI 1) qL_marking_142 (by decide) ?_
            refine r_goto (t := 147) qL_marking_143 (by decide) ?_
            refine r_is_10_8 qL_marking_147 rfl rfl ?_
            refine r_ii_10_9 qL_marking_149 rfl rfl (nI_inc q) ?_
            refine r_goto (t := 111) qL_marking_152 (by decide) ?_
            exact ih2 (q + 1) (by omega) _ (by first | exact zb_or1 hc123 | exact zb_or2 hc139 | exact zb_or3 hc123 hc139) _ _ (by omega) (by omega)
          · refine r_aload_n qL_marking_126 rfl ?_
            refine r_iload_n qL_marking_127 rfl ?_
            refine r_iload qL_marking_128 rfl ?_
            refine r_cv2 (cu2 := CU2 + 3) (su2 := SU2 + 18) qL_marking_130 kL_192 rfl (by decide +kernel) (c := 3) (by assumption) (by decide) rfl rfl rfl rfl (lbx (m := 140) rfl (by omega)) (lbx (m := 840) rfl (by omega)) ?_
            refine q_pointDegrees hX hH hk hqm ?_
            show zR E _ _ X 133 _ _ _ _ _ _ _
            refine r_aload_n qL_marking_133 rfl ?_
            refine r_iload qL_marking_134 rfl ?_
            refine r_cs2 (cu2 := CU2 + 3) (su2 := SU2 + 18) qL_marking_136 kL_101 rfl (by decide +kernel) rfl rfl rfl (lbx (m := 140) rfl (by omega)) (lbx (m := 840) rfl (by omega)) ?_
            refine c_L_degrees (by omega) ?_
            show zR E _ _ X 139 _ _ _ _ _ _ _
            refine r_icmp_ne (t := 146) qL_marking_139 (by decide) (fun hc139 => ?_) (fun hc139 => ?_)
            · refine r_iconst (v := nI 0) qL_marking_146 (by decide) ?_
              refine r_is_10_8 qL_marking_147 rfl rfl ?_
              refine r_ii_10_9 qL_marking_149 rfl rfl (nI_inc q) ?_
              refine r_goto (t := 111) qL_marking_152 (by decide) ?_
              exact ih2 (q + 1) (by omega) _ (by first | exact zb_or1 hc123 | exact zb_or2 hc139 | exact zb_or3 hc123 hc139) _ _ (by omega) (by omega)
            · refine r_iconst (v := nI 1) qL_marking_142 (by decide) ?_
              refine r_goto (t := 147) qL_marking_143 (by decide) ?_
              refine r_is_10_8 qL_marking_147 rfl rfl ?_
              refine r_ii_10_9 qL_marking_149 rfl rfl (nI_inc q) ?_
              refine r_goto (t := 111) qL_marking_152 (by decide) ?_
              exact ih2 (q + 1) (by omega) _ (by first | exact zb_or1 hc123 | exact zb_or2 hc139 | exact zb_or3 hc123 hc139) _ _ (by omega) (by omega)
      refine r_iload qL_marking_96 rfl ?_
      refine r_aload_n qL_marking_98 rfl ?_
      refine r_cs1 (cu2 := CU) (su2 := SU) qL_marking_99 kL_93 rfl (by decide +kernel) rfl rfl rfl (lbx (m := 140) rfl (by omega)) (lbx (m := 840) rfl (by omega)) ?_
      refine c_L_baths ?_
      show zR E _ _ X 102 _ _ _ _ _ _ _
      refine r_icmp_ge (t := 211) qL_marking_102 (by decide) (fun hc102 => absurd hc102 (nI_ge hbv (by omega))) (fun hc102 => ?_)
      refine r_iconst (v := nI 0) qL_marking_105 (by decide) ?_
      refine r_is_10_8 qL_marking_106 rfl rfl ?_
      refine r_iconst (v := nI 0) qL_marking_108 (by decide) ?_
      refine r_is_10_9 qL_marking_109 rfl rfl ?_
      exact K111 (sMany N k) 0 (by omega) _ rfl _ _ (by omega) (by omega)
  have K18 : ∀ r q : Nat, q + r = sMany N k → ∀ w4 w5 : Int32, w4 = mDg N k q → w5 = mHg N k q → ∀ CU SU : Nat, CU + 6 * r ≤ 41 → SU + 36 * r ≤ 246 → zR E mL_marking (zZ E mL_marking K) X 18 [.ref c, .ref (eS E 4 + 1), .int (nI k), .int (N (42 + 21 * k + 7)), .int w4, .int w5, .int (nI 0), .int (nI q), zJ, zJ] [] g i j CU SU := by
    intro r
    induction r with
    | zero =>
      intro q hq w4 w5 e4 e5 CU SU hCU hSU
      obtain rfl : q = sMany N k := by omega
      subst e4 e5
      refine r_iload qL_marking_18 rfl ?_
      refine r_aload_n qL_marking_20 rfl ?_
      refine r_iload_n qL_marking_21 rfl ?_
      refine r_cv1 (cu2 := CU + 1) (su2 := SU + 6) qL_marking_22 kL_175 rfl (by decide +kernel) (c := 3) (by assumption) (by decide) rfl rfl rfl rfl (lbx (m := 140) rfl (by omega)) (lbx (m := 840) rfl (by omega)) ?_
      refine q_pointCount hX hH hk ?_
      show zR E _ _ X 25 _ _ _ _ _ _ _
      refine r_icmp_ge (t := 93) qL_marking_25 (by decide) (fun hc25 => ?_) (fun hc25 => absurd hc25 (fun h => h (Int32.le_refl _)))
      refine r_iconst (v := nI 0) qL_marking_93 (by decide) ?_
      refine r_is_10_7 qL_marking_94 rfl rfl ?_
      exact K96 (vB E) 0 (by omega) _ _ (by omega) (by omega) _ _ rfl
    | succ r ih =>
      intro q hq w4 w5 e4 e5 CU SU hCU hSU
      have hqm : q < sMany N k := by omega
      have K60 : ∀ w : Int32, w = mDg N k (q + 1) → zR E mL_marking (zZ E mL_marking K) X 60 [.ref c, .ref (eS E 4 + 1), .int (nI k), .int (N (42 + 21 * k + 7)), .int w, .int w5, .int (nI 0), .int (nI q), zJ, zJ] [] g i j (CU + 3) (SU + 18) := by
        intro w hw
        subst e5
        refine r_iload qL_marking_60 rfl ?_
        refine r_if_ne (t := 80) qL_marking_62 (by decide) (fun hc62 => ?_) (fun hc62 => ?_)
        · refine r_iconst (v := nI 1) qL_marking_80 (by decide) ?_
          refine r_goto (t := 85) qL_marking_81 (by decide) ?_
          refine r_is_10_5 qL_marking_85 rfl rfl ?_
          refine r_ii_10_7 qL_marking_87 rfl rfl (nI_inc q) ?_
          refine r_goto (t := 18) qL_marking_90 (by decide) ?_
          exact ih (q + 1) (by omega) _ _ hw (by first | exact zb_or1 hc62 | exact zb_or2 hc77 | exact zb_or3 hc62 hc77) _ _ (by omega) (by omega)
        · refine r_aload_n qL_marking_65 rfl ?_
          refine r_iload_n qL_marking_66 rfl ?_
          refine r_iload qL_marking_67 rfl ?_
          refine r_cv2 (cu2 := CU + 5) (su2 := SU + 30) qL_marking_69 kL_195 rfl (by decide +kernel) (c := 3) (by assumption) (by decide) rfl rfl rfl rfl (lbx (m := 140) rfl (by omega)) (lbx (m := 840) rfl (by omega)) ?_
          refine q_pointHeight hX hH hk hqm ?_
          show zR E _ _ X 72 _ _ _ _ _ _ _
          refine r_aload_n qL_marking_72 rfl ?_
          refine r_iload_n qL_marking_73 rfl ?_
          refine r_cv1 (cu2 := CU + 6) (su2 := SU + 36) qL_marking_74 kL_265 rfl (by decide +kernel) (c := 3) (by assumption) (by decide) rfl rfl rfl rfl (lbx (m := 140) rfl (by omega)) (lbx (m := 840) rfl (by omega)) ?_
          refine q_height hX hH hk ?_
          show zR E _ _ X 77 _ _ _ _ _ _ _
          refine r_icmp_ne (t := 84) qL_marking_77 (by decide) (fun hc77 => ?_) (fun hc77 => ?_)
          · refine r_iconst (v := nI 0) qL_marking_84 (by decide) ?_
            refine r_is_10_5 qL_marking_85 rfl rfl ?_
            refine r_ii_10_7 qL_marking_87 rfl rfl (nI_inc q) ?_
            refine r_goto (t := 18) qL_marking_90 (by decide) ?_
            exact ih (q + 1) (by omega) _ _ hw (by first | exact zb_or1 hc62 | exact zb_or2 hc77 | exact zb_or3 hc62 hc77) _ _ (by omega) (by omega)
          · refine r_iconst (v := nI 1) qL_marking_80 (by decide) ?_
            refine r_goto (t := 85) qL_marking_81 (by decide) ?_
            refine r_is_10_5 qL_marking_85 rfl rfl ?_
            refine r_ii_10_7 qL_marking_87 rfl rfl (nI_inc q) ?_
            refine r_goto (t := 18) qL_marking_90 (by decide) ?_
            exact ih (q + 1) (by omega) _ _ hw (by first | exact zb_or1 hc62 | exact zb_or2 hc77 | exact zb_or3 hc62 hc77) _ _ (by omega) (by omega)
      rcases hbath with hb | ⟨b, hb, hbB⟩
      · have e0 : w4 = nI 0 := by rw [e4, mDg, if_pos hb]
        subst e0
        refine r_iload qL_marking_18 rfl ?_
        refine r_aload_n qL_marking_20 rfl ?_
        refine r_iload_n qL_marking_21 rfl ?_
        refine r_cv1 (cu2 := CU + 1) (su2 := SU + 6) qL_marking_22 kL_175 rfl (by decide +kernel) (c := 3) (by assumption) (by decide) rfl rfl rfl rfl (lbx (m := 140) rfl (by omega)) (lbx (m := 840) rfl (by omega)) ?_
        refine q_pointCount hX hH hk ?_
        show zR E _ _ X 25 _ _ _ _ _ _ _
        refine r_icmp_ge (t := 93) qL_marking_25 (by decide) (fun hc25 => absurd hc25 (nI_ge hqm (by omega))) (fun hc25 => ?_)
        refine r_iload qL_marking_28 rfl ?_
        refine r_if_ne (t := 53) qL_marking_30 (by decide) (fun hc30 => absurd hc30 (fun h => h (by decide))) (fun hc30 => ?_)
        refine r_iload_n qL_marking_33 rfl ?_
        refine r_iconst (v := (-1)) qL_marking_34 (by decide) ?_
        refine r_icmp_eq (t := 57) qL_marking_35 (by decide) (fun hc35 => ?_) (fun hc35 => absurd hc35 (fun h => h hb))
        refine r_iconst (v := nI 0) qL_marking_57 (by decide) ?_
        refine r_is_10_4 qL_marking_58 rfl rfl ?_
        exact r_widen (by omega) (by omega) (K60 _ (by rw [mDg, if_pos hb]))
      · have e1 : ¬ N (42 + 21 * k + 7) = -1 := by rw [hb]; exact nb_m1 (by omega)
        have eG : ∀ p, mDg N k p = zb (sHas (sDeg N k) (vDg E b) p = true) := fun p => by rw [mDg, if_neg e1, hb, zn_nI (by omega), eD b hbB]
        rw [eG] at e4 K60
        subst e4
        refine r_iload qL_marking_18 rfl ?_
        refine r_aload_n qL_marking_20 rfl ?_
        refine r_iload_n qL_marking_21 rfl ?_
        refine r_cv1 (cu2 := CU + 1) (su2 := SU + 6) qL_marking_22 kL_175 rfl (by decide +kernel) (c := 3) (by assumption) (by decide) rfl rfl rfl rfl (lbx (m := 140) rfl (by omega)) (lbx (m := 840) rfl (by omega)) ?_
        refine q_pointCount hX hH hk ?_
        show zR E _ _ X 25 _ _ _ _ _ _ _
        refine r_icmp_ge (t := 93) qL_marking_25 (by decide) (fun hc25 => absurd hc25 (nI_ge hqm (by omega))) (fun hc25 => ?_)
        refine r_iload qL_marking_28 rfl ?_
        refine r_if_ne (t := 53) qL_marking_30 (by decide) (fun hc30 => ?_) (fun hc30 => ?_)
        · refine r_iconst (v := nI 1) qL_marking_53 (by decide) ?_
          refine r_goto (t := 58) qL_marking_54 (by decide) ?_
          refine r_is_10_4 qL_marking_58 rfl rfl ?_
          refine r_widen (by omega) (by omega) (K60 _ ?_)
          first | exact zb_or1 hc30 | exact zb_or2 hc50 | exact zb_or3 hc30 hc50
        · refine r_iload_n qL_marking_33 rfl ?_
          refine r_iconst (v := (-1)) qL_marking_34 (by decide) ?_
          refine r_icmp_eq (t := 57) qL_marking_35 (by decide) (fun hc35 => absurd hc35 (e1)) (fun hc35 => ?_)
          refine r_aload_n qL_marking_38 rfl ?_
          refine r_iload_n qL_marking_39 rfl ?_
          refine r_iload qL_marking_40 rfl ?_
          refine r_cv2 (cu2 := CU + 3) (su2 := SU + 18) qL_marking_42 kL_192 rfl (by decide +kernel) (c := 3) (by assumption) (by decide) rfl rfl rfl rfl (lbx (m := 140) rfl (by omega)) (lbx (m := 840) rfl (by omega)) ?_
          refine q_pointDegrees hX hH hk hqm ?_
          show zR E _ _ X 45 _ _ _ _ _ _ _
          refine r_aload_n qL_marking_45 rfl ?_
          refine r_iload_n qL_marking_46 rfl ?_
          refine r_cs2 (cu2 := CU + 3) (su2 := SU + 18) qL_marking_47 kL_101 rfl (by decide +kernel) rfl rfl rfl (lbx (m := 140) rfl (by omega)) (lbx (m := 840) rfl (by omega)) ?_
          refine c_L_degreesE hb (by omega) ?_
          show zR E _ _ X 50 _ _ _ _ _ _ _
          refine r_icmp_ne (t := 57) qL_marking_50 (by decide) (fun hc50 => ?_) (fun hc50 => ?_)
          · refine r_iconst (v := nI 0) qL_marking_57 (by decide) ?_
            refine r_is_10_4 qL_marking_58 rfl rfl ?_
            refine r_widen (by omega) (by omega) (K60 _ ?_)
            first | exact zb_or1 hc30 | exact zb_or2 hc50 | exact zb_or3 hc30 hc50
          · refine r_iconst (v := nI 1) qL_marking_53 (by decide) ?_
            refine r_goto (t := 58) qL_marking_54 (by decide) ?_
            refine r_is_10_4 qL_marking_58 rfl rfl ?_
            refine r_widen (by omega) (by omega) (K60 _ ?_)
            first | exact zb_or1 hc30 | exact zb_or2 hc50 | exact zb_or3 hc30 hc50
  have eH0 : nI 0 = mHg N k 0 := (zb_f (by simp [sHas])).symm
  have eD0 : nI 0 = mDg N k 0 := by
    rw [mDg]
    split
    · rfl
    · exact (zb_f (by simp [sHas])).symm
  refine r_aload_n qL_marking_0 rfl ?_
  refine r_iload_n qL_marking_1 rfl ?_
  refine r_cv1 (cu2 := 1) (su2 := 6) qL_marking_2 kL_168 rfl (by decide +kernel) (c := 3) (by assumption) (by decide) rfl rfl rfl rfl rfl rfl ?_
  refine q_bathOf hX hH hk ?_
  show zR E _ _ X 5 _ _ _ _ _ _ _
  refine r_is_10_3 qL_marking_5 rfl rfl ?_
  refine r_iconst (v := nI 0) qL_marking_6 (by decide) ?_
  refine r_is_10_4 qL_marking_7 rfl rfl ?_
  refine r_iconst (v := nI 0) qL_marking_9 (by decide) ?_
  refine r_is_10_5 qL_marking_10 rfl rfl ?_
  refine r_iconst (v := nI 0) qL_marking_12 (by decide) ?_
  refine r_is_10_6 qL_marking_13 rfl rfl ?_
  refine r_iconst (v := nI 0) qL_marking_15 (by decide) ?_
  refine r_is_10_7 qL_marking_16 rfl rfl ?_
  exact K18 (sMany N k) 0 (by omega) _ _ eD0 eH0 1 6 (by omega) (by omega)
/-! ===== P67: the greatest temperature ===== -/
theorem sGreat_sp {N : Nat → Int32} {k : Nat} : ∀ n, (sGreat N k n = -1000 ∧ ∀ m, m < n → N (42 + 21 * k + 3) < sFree N k (nI m - nI 200)) ∨ ∃ m, m < n ∧ sGreat N k n = nI m - nI 200 ∧ ¬ N (42 + 21 * k + 3) < sFree N k (nI m - nI 200) ∧ ∀ q, m < q → q < n → N (42 + 21 * k + 3) < sFree N k (nI q - nI 200)
  | 0 => Or.inl ⟨rfl, fun m h => absurd h (Nat.not_lt_zero m)⟩
  | n + 1 => by
    rw [sGreat]
    by_cases h : N (42 + 21 * k + 3) < sFree N k (nI n - nI 200)
    · rw [if_pos h]
      rcases sGreat_sp n with ⟨h1, h2⟩ | ⟨m, h1, h2, h3, h4⟩
      · refine Or.inl ⟨h1, fun m hm => ?_⟩
        rcases Nat.lt_or_ge m n with h5 | h5
        · exact h2 m h5
        · obtain rfl : m = n := by omega
          exact h
      · refine Or.inr ⟨m, by omega, h2, h3, fun q q1 q2 => ?_⟩
        rcases Nat.lt_or_ge q n with h5 | h5
        · exact h4 q q1 h5
        · obtain rfl : q = n := by omega
          exact h
    · rw [if_neg h]
      exact Or.inr ⟨n, by omega, rfl, h, fun q q1 q2 => by omega⟩
theorem gt_toInt {m : Nat} (h : m ≤ 1700) : (nI m - nI 200).toInt = (m : Int) - 200 := by
  rw [Int32.toInt_sub, nI_toInt (by omega), nI_toInt (by decide), Int.bmod_eq_of_le] <;> omega
set_option maxHeartbeats 4000000 in
set_option maxRecDepth 20000 in
theorem c_L_limit {E : Ev} {g : Sh} {i : Ni} {j : Nj} {K : Kp} {c k : Nat} {a : Nat → Nat} {N : Nat → Int32} (hX : zX3 g c a) (hH : zH i a N) (hD : dOk E N) (hk : k < zn (N 5)) (hK : K (.inl (some (.int (nI 1)))) g i j) : zCon E mL_limit [.ref c, .ref (eS E 4 + 1), .int (nI k)] g i j K := by
  refine zcon_of (by decide +kernel) rfl rfl (lo := [.ref c, .ref (eS E 4 + 1), .int (nI k), zJ, zJ]) rfl (fun X => ?_)
  have x1 := hX.1
  have hO := hH.1
  have h8 := hO.k8 hk
  have hkT : k < vT E := by rw [← hD.T]; exact hk
  have h0 := vT_S hkT
  have eF : ∀ t, sFree N k t = vFree E k (N (42 + 21 * k + 4)) t := hD.free hk
  have eL : N (42 + 21 * k + 3) = nI (vLe E k) := (hD.2.2.2.2.2 k hkT).2.2.2
  rcases sGreat_sp (N := N) (k := k) 1701 with ⟨h1, h2⟩ | ⟨m, h1, h2, h3, h4⟩
  · have h5 := h2 0 (by decide)
    rw [eF, eL, show nI 0 - nI 200 = (-200 : Int32) by decide] at h5
    refine r_aload_n qL_limit_0 rfl ?_
    refine r_iload_n qL_limit_1 rfl ?_
    refine r_cv1 (cu2 := 1) (su2 := 6) qL_limit_2 kL_337 rfl (by decide +kernel) (c := 3) (by assumption) (by decide) rfl rfl rfl rfl rfl rfl ?_
    refine q_greatestTemperature hX hH hk ?_
    rw [h1]
    show zR E _ _ X 5 _ _ _ _ _ _ _
    refine r_is_5_3 qL_limit_5 rfl rfl ?_
    refine r_aload_n qL_limit_6 rfl ?_
    refine r_iload_n qL_limit_7 rfl ?_
    refine r_cv1 (cu2 := 2) (su2 := 12) qL_limit_8 kL_162 rfl (by decide +kernel) (c := 3) (by assumption) (by decide) rfl rfl rfl rfl rfl rfl ?_
    refine q_fillOf hX hH hk ?_
    show zR E _ _ X 11 _ _ _ _ _ _ _
    refine r_is_5_4 qL_limit_11 rfl rfl ?_
    refine r_iload_n qL_limit_13 rfl ?_
    refine r_sipush (v := (-1000)) qL_limit_14 (by decide) ?_
    refine r_icmp_ne (t := 44) qL_limit_17 (by decide) (fun hc17 => absurd hc17 (fun h => h rfl)) (fun hc17 => ?_)
    refine r_aload_n qL_limit_20 rfl ?_
    refine r_iload_n qL_limit_21 rfl ?_
    refine r_iload qL_limit_22 rfl ?_
    refine r_sipush (v := (-200)) qL_limit_24 (by decide) ?_
    refine r_cs4 (cu2 := 2) (su2 := 12) qL_limit_27 kL_255 rfl (by decide +kernel) rfl rfl rfl rfl rfl ?_
    refine c_L_free (by omega) h0 ?_
    show zR E _ _ X 30 _ _ _ _ _ _ _
    refine r_aload_n qL_limit_30 rfl ?_
    refine r_iload_n qL_limit_31 rfl ?_
    refine r_cs2 (cu2 := 2) (su2 := 12) qL_limit_32 kL_120 rfl (by decide +kernel) rfl rfl rfl rfl rfl ?_
    refine c_L_length (by omega) ?_
    show zR E _ _ X 35 _ _ _ _ _ _ _
    refine r_icmp_le (t := 42) qL_limit_35 (by decide) (fun hc35 => absurd hc35 (fun h => absurd h5 (Int32.not_lt.mpr h))) (fun hc35 => ?_)
    refine r_iconst (v := nI 1) qL_limit_38 (by decide) ?_
    refine r_goto (t := 43) qL_limit_39 (by decide) ?_
    refine r_iret qL_limit_43 rfl (by first | decide | exact zb_nar _ | assumption) rfl rfl ?_
    exact hK
  · have e1 := gt_toInt (m := m) (by omega)
    have n1 : ¬ nI m - nI 200 = (-1000 : Int32) := fun e => by rw [e, show ((-1000 : Int32)).toInt = -1000 by decide] at e1; omega
    have n2 : ¬ nI m - nI 200 < (-200 : Int32) := fun e => by rw [Int32.lt_iff_toInt_lt, e1, show ((-200 : Int32)).toInt = -200 by decide] at e; omega
    have n3 : ¬ nI 1500 < nI m - nI 200 := fun e => by rw [Int32.lt_iff_toInt_lt, e1, nI_toInt (by decide)] at e; omega
    rw [eF, eL] at h3
    by_cases hm : m = 1700
    · have e15 : nI m - nI 200 = nI 1500 := by rw [hm]; decide
      refine r_aload_n qL_limit_0 rfl ?_
      refine r_iload_n qL_limit_1 rfl ?_
      refine r_cv1 (cu2 := 1) (su2 := 6) qL_limit_2 kL_337 rfl (by decide +kernel) (c := 3) (by assumption) (by decide) rfl rfl rfl rfl rfl rfl ?_
      refine q_greatestTemperature hX hH hk ?_
      rw [h2]
      show zR E _ _ X 5 _ _ _ _ _ _ _
      refine r_is_5_3 qL_limit_5 rfl rfl ?_
      refine r_aload_n qL_limit_6 rfl ?_
      refine r_iload_n qL_limit_7 rfl ?_
      refine r_cv1 (cu2 := 2) (su2 := 12) qL_limit_8 kL_162 rfl (by decide +kernel) (c := 3) (by assumption) (by decide) rfl rfl rfl rfl rfl rfl ?_
      refine q_fillOf hX hH hk ?_
      show zR E _ _ X 11 _ _ _ _ _ _ _
      refine r_is_5_4 qL_limit_11 rfl rfl ?_
      refine r_iload_n qL_limit_13 rfl ?_
      refine r_sipush (v := (-1000)) qL_limit_14 (by decide) ?_
      refine r_icmp_ne (t := 44) qL_limit_17 (by decide) (fun hc17 => ?_) (fun hc17 => absurd hc17 (n1))
      refine r_iload_n qL_limit_44 rfl ?_
      refine r_sipush (v := (-200)) qL_limit_45 (by decide) ?_
      refine r_icmp_lt (t := 75) qL_limit_48 (by decide) (fun hc48 => absurd hc48 (n2)) (fun hc48 => ?_)
      refine r_iload_n qL_limit_51 rfl ?_
      refine r_sipush (v := nI 1500) qL_limit_52 (by decide) ?_
      refine r_icmp_gt (t := 75) qL_limit_55 (by decide) (fun hc55 => absurd hc55 (n3)) (fun hc55 => ?_)
      refine r_aload_n qL_limit_58 rfl ?_
      refine r_iload_n qL_limit_59 rfl ?_
      refine r_iload_n qL_limit_60 rfl ?_
      refine r_cv2 (cu2 := 4) (su2 := 24) qL_limit_61 kL_340 rfl (by decide +kernel) (c := 3) (by assumption) (by decide) rfl rfl rfl rfl rfl rfl ?_
      refine q_freeHeightAt hX hH hk (by rw [e1]; omega) ?_
      rw [eF]
      show zR E _ _ X 64 _ _ _ _ _ _ _
      refine r_aload_n qL_limit_64 rfl ?_
      refine r_iload_n qL_limit_65 rfl ?_
      refine r_iload qL_limit_66 rfl ?_
      refine r_iload_n qL_limit_68 rfl ?_
      refine r_cs4 (cu2 := 4) (su2 := 24) qL_limit_69 kL_255 rfl (by decide +kernel) rfl rfl rfl rfl rfl ?_
      refine c_L_free (by omega) h0 ?_
      show zR E _ _ X 72 _ _ _ _ _ _ _
      refine r_icmp_eq (t := 77) qL_limit_72 (by decide) (fun hc72 => ?_) (fun hc72 => absurd hc72 (fun h => h rfl))
      refine r_aload_n qL_limit_77 rfl ?_
      refine r_iload_n qL_limit_78 rfl ?_
      refine r_iload qL_limit_79 rfl ?_
      refine r_iload_n qL_limit_81 rfl ?_
      refine r_cs4 (cu2 := 4) (su2 := 24) qL_limit_82 kL_255 rfl (by decide +kernel) rfl rfl rfl rfl rfl ?_
      refine c_L_free (by omega) h0 ?_
      show zR E _ _ X 85 _ _ _ _ _ _ _
      refine r_aload_n qL_limit_85 rfl ?_
      refine r_iload_n qL_limit_86 rfl ?_
      refine r_cs2 (cu2 := 4) (su2 := 24) qL_limit_87 kL_120 rfl (by decide +kernel) rfl rfl rfl rfl rfl ?_
      refine c_L_length (by omega) ?_
      show zR E _ _ X 90 _ _ _ _ _ _ _
      refine r_icmp_gt (t := 122) qL_limit_90 (by decide) (fun hc90 => absurd hc90 (h3)) (fun hc90 => ?_)
      refine r_iload_n qL_limit_93 rfl ?_
      refine r_sipush (v := nI 1500) qL_limit_94 (by decide) ?_
      refine r_icmp_eq (t := 118) qL_limit_97 (by decide) (fun hc97 => ?_) (fun hc97 => absurd hc97 (fun h => h e15))
      refine r_iconst (v := nI 1) qL_limit_118 (by decide) ?_
      refine r_goto (t := 123) qL_limit_119 (by decide) ?_
      refine r_iret qL_limit_123 rfl (by first | decide | exact zb_nar _ | assumption) rfl rfl ?_
      exact hK
    · have h5 := h4 (m + 1) (by omega) (by omega)
      have e15 : ¬ nI m - nI 200 = nI 1500 := fun e => hm (by
        have := congrArg Int32.toInt e
        rw [e1, nI_toInt (by decide)] at this
        omega)
      have e2 : nI m - nI 200 + nI 1 = nI (m + 1) - nI 200 := by
        refine Int32.toInt_inj.mp ?_
        rw [gt_toInt (by omega), Int32.toInt_add, e1, nI_toInt (by decide), Int.bmod_eq_of_le] <;> omega
      rw [eF, eL, ← e2] at h5
      refine r_aload_n qL_limit_0 rfl ?_
      refine r_iload_n qL_limit_1 rfl ?_
      refine r_cv1 (cu2 := 1) (su2 := 6) qL_limit_2 kL_337 rfl (by decide +kernel) (c := 3) (by assumption) (by decide) rfl rfl rfl rfl rfl rfl ?_
      refine q_greatestTemperature hX hH hk ?_
      rw [h2]
      show zR E _ _ X 5 _ _ _ _ _ _ _
      refine r_is_5_3 qL_limit_5 rfl rfl ?_
      refine r_aload_n qL_limit_6 rfl ?_
      refine r_iload_n qL_limit_7 rfl ?_
      refine r_cv1 (cu2 := 2) (su2 := 12) qL_limit_8 kL_162 rfl (by decide +kernel) (c := 3) (by assumption) (by decide) rfl rfl rfl rfl rfl rfl ?_
      refine q_fillOf hX hH hk ?_
      show zR E _ _ X 11 _ _ _ _ _ _ _
      refine r_is_5_4 qL_limit_11 rfl rfl ?_
      refine r_iload_n qL_limit_13 rfl ?_
      refine r_sipush (v := (-1000)) qL_limit_14 (by decide) ?_
      refine r_icmp_ne (t := 44) qL_limit_17 (by decide) (fun hc17 => ?_) (fun hc17 => absurd hc17 (n1))
      refine r_iload_n qL_limit_44 rfl ?_
      refine r_sipush (v := (-200)) qL_limit_45 (by decide) ?_
      refine r_icmp_lt (t := 75) qL_limit_48 (by decide) (fun hc48 => absurd hc48 (n2)) (fun hc48 => ?_)
      refine r_iload_n qL_limit_51 rfl ?_
      refine r_sipush (v := nI 1500) qL_limit_52 (by decide) ?_
      refine r_icmp_gt (t := 75) qL_limit_55 (by decide) (fun hc55 => absurd hc55 (n3)) (fun hc55 => ?_)
      refine r_aload_n qL_limit_58 rfl ?_
      refine r_iload_n qL_limit_59 rfl ?_
      refine r_iload_n qL_limit_60 rfl ?_
      refine r_cv2 (cu2 := 4) (su2 := 24) qL_limit_61 kL_340 rfl (by decide +kernel) (c := 3) (by assumption) (by decide) rfl rfl rfl rfl rfl rfl ?_
      refine q_freeHeightAt hX hH hk (by rw [e1]; omega) ?_
      rw [eF]
      show zR E _ _ X 64 _ _ _ _ _ _ _
      refine r_aload_n qL_limit_64 rfl ?_
      refine r_iload_n qL_limit_65 rfl ?_
      refine r_iload qL_limit_66 rfl ?_
      refine r_iload_n qL_limit_68 rfl ?_
      refine r_cs4 (cu2 := 4) (su2 := 24) qL_limit_69 kL_255 rfl (by decide +kernel) rfl rfl rfl rfl rfl ?_
      refine c_L_free (by omega) h0 ?_
      show zR E _ _ X 72 _ _ _ _ _ _ _
      refine r_icmp_eq (t := 77) qL_limit_72 (by decide) (fun hc72 => ?_) (fun hc72 => absurd hc72 (fun h => h rfl))
      refine r_aload_n qL_limit_77 rfl ?_
      refine r_iload_n qL_limit_78 rfl ?_
      refine r_iload qL_limit_79 rfl ?_
      refine r_iload_n qL_limit_81 rfl ?_
      refine r_cs4 (cu2 := 4) (su2 := 24) qL_limit_82 kL_255 rfl (by decide +kernel) rfl rfl rfl rfl rfl ?_
      refine c_L_free (by omega) h0 ?_
      show zR E _ _ X 85 _ _ _ _ _ _ _
      refine r_aload_n qL_limit_85 rfl ?_
      refine r_iload_n qL_limit_86 rfl ?_
      refine r_cs2 (cu2 := 4) (su2 := 24) qL_limit_87 kL_120 rfl (by decide +kernel) rfl rfl rfl rfl rfl ?_
      refine c_L_length (by omega) ?_
      show zR E _ _ X 90 _ _ _ _ _ _ _
      refine r_icmp_gt (t := 122) qL_limit_90 (by decide) (fun hc90 => absurd hc90 (h3)) (fun hc90 => ?_)
      refine r_iload_n qL_limit_93 rfl ?_
      refine r_sipush (v := nI 1500) qL_limit_94 (by decide) ?_
      refine r_icmp_eq (t := 118) qL_limit_97 (by decide) (fun hc97 => absurd hc97 (e15)) (fun hc97 => ?_)
      refine r_aload_n qL_limit_100 rfl ?_
      refine r_iload_n qL_limit_101 rfl ?_
      refine r_iload qL_limit_102 rfl ?_
      refine r_iload_n qL_limit_104 rfl ?_
      refine r_iconst (v := nI 1) qL_limit_105 (by decide) ?_
      first | with_reducible refine r_iaddN qL_limit_106 ?_ | refine r_iadd qL_limit_106 ?_
      refine r_cs4 (cu2 := 4) (su2 := 24) qL_limit_107 kL_255 rfl (by decide +kernel) rfl rfl rfl rfl rfl ?_
      refine c_L_free (by omega) h0 ?_
      show zR E _ _ X 110 _ _ _ _ _ _ _
      refine r_aload_n qL_limit_110 rfl ?_
      refine r_iload_n qL_limit_111 rfl ?_
      refine r_cs2 (cu2 := 4) (su2 := 24) qL_limit_112 kL_120 rfl (by decide +kernel) rfl rfl rfl rfl rfl ?_
      refine c_L_length (by omega) ?_
      show zR E _ _ X 115 _ _ _ _ _ _ _
      refine r_icmp_le (t := 122) qL_limit_115 (by decide) (fun hc115 => absurd hc115 (fun h => absurd h5 (Int32.not_lt.mpr h))) (fun hc115 => ?_)
      refine r_iconst (v := nI 1) qL_limit_118 (by decide) ?_
      refine r_goto (t := 123) qL_limit_119 (by decide) ?_
      refine r_iret qL_limit_123 rfl (by first | decide | exact zb_nar _ | assumption) rfl rfl ?_
      exact hK

