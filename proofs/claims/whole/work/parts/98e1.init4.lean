/-! ===== THE MODEL'S CONSTRUCTOR ===== -/
def zNg (u : Nat) (g : Sh) (i : Ni) (j : Nj) (g' : Sh) (i' : Ni) (j' : Nj) : Prop :=
  ∀ q, gT g q ≠ 0 → gT g' q = gT g q ∧ gL g' q = gL g q ∧ (q ≠ u → j' q = j q ∧ (∀ k, gR g' q k = gR g q k) ∧ i' q = i q)
theorem zNg.refl {u : Nat} {g : Sh} {i : Ni} {j : Nj} : zNg u g i j g i j := fun _ _ => ⟨rfl, rfl, fun _ => ⟨rfl, fun _ => rfl, rfl⟩⟩
theorem zNg.trans {u : Nat} {g g1 g2 : Sh} {i i1 i2 : Ni} {j j1 j2 : Nj} (h : zNg u g i j g1 i1 j1) (h2 : zNg u g1 i1 j1 g2 i2 j2) : zNg u g i j g2 i2 j2 := fun q hq => by
  obtain ⟨a1, a2, a3⟩ := h q hq
  obtain ⟨b1, b2, b3⟩ := h2 q (by rw [a1]; exact hq)
  exact ⟨b1.trans a1, b2.trans a2, fun hr => ⟨(b3 hr).1.trans (a3 hr).1, fun k => ((b3 hr).2.1 k).trans ((a3 hr).2.1 k), (b3 hr).2.2.trans (a3 hr).2.2⟩⟩
theorem zNg.new {u d t n k : Nat} {g : Sh} {i : Ni} {j : Nj} {f : Nat → Int32} {f2 : Nat → Int64} (hd : gT g d = 0) : zNg u g i j (wR (wN g d t n) u k d) (wA i d f) (wB j d f2) := fun q hq => by
  have : q ≠ d := fun e => hq (by rw [e]; exact hd)
  exact ⟨by rw [gT_wR, gT_wN, if_neg this], by rw [gL_wR, gL_wN, if_neg this], fun hr => ⟨wB_n this, fun k => by rw [gR_wR, if_neg hr, gR_wN, if_neg this], wA_n this⟩⟩
theorem zNg.pr {u k v : Nat} {g : Sh} {i : Ni} {j : Nj} : zNg u g i j (wR g u k v) i j := fun q _ => ⟨rfl, rfl, fun hr => ⟨rfl, fun n => by rw [gR_wR, if_neg hr], rfl⟩⟩
theorem zNg.to {u : Nat} {g g1 : Sh} {i i1 i2 : Ni} {j j1 j2 : Nj} (h : zNg u g i j g1 i1 j1) (ei : ∀ q, gT g q ≠ 0 → q ≠ u → i2 q = i1 q) (ej : ∀ q, gT g q ≠ 0 → q ≠ u → j2 q = j1 q) : zNg u g i j g1 i2 j2 := fun q hq => by
  obtain ⟨a1, a2, a3⟩ := h q hq
  exact ⟨a1, a2, fun hr => ⟨(ej q hq hr).trans (a3 hr).1, (a3 hr).2.1, (ei q hq hr).trans (a3 hr).2.2⟩⟩
theorem zNg.fr {u w : Nat} {g g1 : Sh} {i i1 : Ni} {j j1 : Nj} (h : zNg u g i j g1 i1 j1) (hw : gT g1 w = 0) : gT g w = 0 := by
  by_cases e : gT g w = 0
  · exact e
  · exact absurd hw (by rw [(h w e).1]; exact e)
def f6 (k : Nat) : Nat := if k = 0 then 1 else if k = 1 then 2 else if k = 2 then 4 else if k = 3 then 28 else if k = 4 then 30 else 34
def t6 (k : Nat) : Nat := if k = 2 then 12 else 11
def l6 (k : Nat) : Nat := if k = 0 then 210 else if k = 1 then 210 else if k = 2 then 600 else if k = 3 then 1260 else if k = 4 then 420 else 100
theorem f6_inj : ∀ a : Fin 6, ∀ b : Fin 6, f6 a.val = f6 b.val → a = b := by decide
theorem f6_3 : ∀ a : Fin 6, f6 a.val ≠ 3 := by decide
/-- the first m arrays of the model -/
def zA6 (m : Nat) (g : Sh) (x : Nat) (s : Nat → Nat) (v : Nat) : Prop := gT g x = 5 ∧ (∀ k, k < m → gR g x (f6 k) = s k ∧ gT g (s k) = t6 k ∧ gL g (s k) = l6 k) ∧ (∀ p q, p < m → q < m → s p = s q → p = q) ∧ gR g x 3 = v
theorem zA6.step {m d t n x v : Nat} {g : Sh} {s : Nat → Nat} (h : zA6 m g x s v) (hm : m < 6) (hd : gT g d = 0) (ht : t = t6 m) (hn : n = l6 m) : gT (wN g d t n) x = 5 ∧ gT (wR (wN g d t n) x (f6 m) d) x = 5 ∧ zA6 (m + 1) (wR (wN g d t n) x (f6 m) d) x (fun k => if k = m then d else s k) v := by
  obtain ⟨h1, h2, h3, h4⟩ := h
  have ud : x ≠ d := fun e => by rw [e, hd] at h1; exact absurd h1 (by decide)
  have e1 : gT (wN g d t n) x = 5 := by rw [gT_wN, if_neg ud]; exact h1
  have sd : ∀ k, k < m → s k ≠ d := fun k hk e => by
    have := (h2 k hk).2.1
    rw [e, hd, t6] at this
    split at this <;> exact absurd this (by decide)
  refine ⟨e1, e1, e1, fun k hk => ?_, fun p q hp hq he => ?_, ?_⟩
  · by_cases hkm : k = m
    · subst hkm
      show _ = (if k = k then d else s k) ∧ gT _ (if k = k then d else s k) = _ ∧ gL _ (if k = k then d else s k) = _
      rw [if_pos rfl]
      exact ⟨by rw [gR_wR, if_pos rfl, if_pos rfl], by rw [gT_wR, gT_wN, if_pos rfl]; exact ht, by rw [gL_wR, gL_wN, if_pos rfl]; exact hn⟩
    · obtain ⟨b1, b2, b3⟩ := h2 k (by omega)
      have := sd k (by omega)
      show _ = (if k = m then d else s k) ∧ gT _ (if k = m then d else s k) = _ ∧ gL _ (if k = m then d else s k) = _
      rw [if_neg hkm]
      exact ⟨by rw [gR_wR, if_pos rfl, if_neg (fun e => hkm (Fin.mk.inj (f6_inj ⟨k, by omega⟩ ⟨m, hm⟩ e))), gR_wN, if_neg ud]; exact b1, by rw [gT_wR, gT_wN, if_neg this]; exact b2, by rw [gL_wR, gL_wN, if_neg this]; exact b3⟩
  · by_cases e1 : p = m <;> by_cases e2 : q = m
    · omega
    · simp only [e1, e2, if_true, if_false] at he; exact absurd he.symm (sd q (by omega))
    · simp only [e1, e2, if_true, if_false] at he; exact absurd he (sd p (by omega))
    · simp only [e1, e2, if_false] at he; exact h3 p q (by omega) (by omega) he
  · rw [gR_wR, if_pos rfl, if_neg (fun e => f6_3 ⟨m, hm⟩ e.symm), gR_wN, if_neg ud]; exact h4
theorem zA6.row {m x v w : Nat} {g : Sh} {s : Nat → Nat} (hm : m ≤ 6) (h : zA6 m g x s v) : zA6 m (wR g x 3 w) x s w := by
  obtain ⟨h1, h2, h3, h4⟩ := h
  refine ⟨h1, fun k hk => ?_, h3, by rw [gR_wR, if_pos rfl, if_pos rfl]⟩
  obtain ⟨b1, b2, b3⟩ := h2 k hk
  exact ⟨by rw [gR_wR, if_pos rfl, if_neg (f6_3 ⟨k, by omega⟩)]; exact b1, b2, b3⟩
theorem zA6.w {x v : Nat} {g : Sh} {s : Nat → Nat} (h : zA6 6 g x s v) : zW g x (s 0) (s 1) (s 2) (s 3) (s 4) (s 5) := by
  obtain ⟨h1, h2, h3, h4⟩ := h
  have ne : ∀ p q, p < 6 → q < 6 → p ≠ q → s p ≠ s q := fun p q hp hq hpq e => hpq (h3 p q hp hq e)
  exact ⟨h1, (h2 0 (by decide)).1, (h2 1 (by decide)).1, (h2 2 (by decide)).1, (h2 3 (by decide)).1, (h2 4 (by decide)).1, (h2 5 (by decide)).1, (h2 0 (by decide)).2, (h2 1 (by decide)).2, (h2 2 (by decide)).2, (h2 3 (by decide)).2, (h2 4 (by decide)).2, (h2 5 (by decide)).2,
    ne 0 1 (by decide) (by decide) (by decide), ne 0 3 (by decide) (by decide) (by decide), ne 0 4 (by decide) (by decide) (by decide), ne 0 5 (by decide) (by decide) (by decide), ne 1 3 (by decide) (by decide) (by decide), ne 1 4 (by decide) (by decide) (by decide), ne 1 5 (by decide) (by decide) (by decide), ne 3 4 (by decide) (by decide) (by decide), ne 3 5 (by decide) (by decide) (by decide), ne 4 5 (by decide) (by decide) (by decide)⟩
theorem wo_29 : zWo 29 459653 := ⟨_, rfl, (by decide +kernel), (by decide +kernel), (by decide +kernel), (by decide +kernel)⟩
theorem wo_30 : zWo 30 11190 := ⟨_, rfl, (by decide +kernel), (by decide +kernel), (by decide +kernel), (by decide +kernel)⟩
theorem wo_31 : zWo 31 6647 := ⟨_, rfl, (by decide +kernel), (by decide +kernel), (by decide +kernel), (by decide +kernel)⟩
theorem wo_32 : zWo 32 50556 := ⟨_, rfl, (by decide +kernel), (by decide +kernel), (by decide +kernel), (by decide +kernel)⟩
theorem m1_row : aSpirit (fr f0_) 0 ((459653 : Int64).toInt32) (nI 4) (nI 10) = fr f1_ := row_to (zTl.sp fz_0 (by decide)) (by decide +kernel)
theorem m2_row : aSpirit (fr f1_) 1 ((11190 : Int64).toInt32) (nI 3) (nI 6) = fr f2_ := row_to (zTl.sp fz_1 (by decide)) (by decide +kernel)
theorem m3_row : aBath (fr f2_) 0 ((6647 : Int64).toInt32) (nI 3) (nI 0) = fr f3_ := row_to (zTl.ba fz_2 (by decide)) (by decide +kernel)
theorem m4_row : aBath (fr f3_) 1 ((50556 : Int64).toInt32) (nI 4) (nI 100) = fr f4_ := row_to (zTl.ba fz_3 (by decide)) (by decide +kernel)
set_option maxHeartbeats 4000000 in
set_option maxRecDepth 20000 in
theorem c_X4_init {E : Ev} {g : Sh} {i : Ni} {j : Nj} {K : Kp} {x : Nat} (hx0 : x ≠ 0) (hT : gT g x = 5) (h0 : ∀ f, i x f = 0) (hK : ∀ (n d b p s o : Nat) (g' : Sh) (i' : Ni) (j' : Nj), zW g' x n d b p s o → gR g' x 3 = n → i' n = fr f18_ → (∀ k, i' b k = 0) → i' x = upd (i x) 33 (-1) → zWd (j' x) → (∀ r, (r = n ∨ r = d ∨ r = b ∨ r = p ∨ r = s ∨ r = o) → gT g r = 0) → zNg x g i j g' i' j' → K (.inl none) g' i' j') : zConI E mX4_init [.ref x] g i j K := by
  refine zconI_of (by decide +kernel) rfl rfl (lo := [.ref x, zJ]) rfl (fun X => ?_)
  have K196 : ∀ (n d b p s o : Nat) (g4 : Sh) (i4 : Ni) (j4 : Nj), zW g4 x n d b p s o → gR g4 x 3 = n → i4 n = (fun _ => nI 0) → (∀ k, i4 b k = 0) → i4 x = upd (i x) 33 (-1) → zWd (j4 x) → (∀ r, (r = n ∨ r = d ∨ r = b ∨ r = p ∨ r = s ∨ r = o) → gT g r = 0) → zNg x g i j g4 i4 j4 → zR E mX4_init (zZI E mX4_init K) X 196 [.ref x, zJ] [] g4 i4 j4 6 2800 := by
    intro n d b p s o g4 i4 j4 hW h3 hn hb hx hw hnew F
    have w1 := hW.1
    have nx := hW.nx
    obtain ⟨bx, -, -⟩ := hW.bb
    obtain ⟨w8, w9⟩ := hW.2.2.2.2.2.2.2.1
    have wb := hW.2.2.2.2.2.2.2.2.2.1.1
    have nb : b ≠ n := fun e => by rw [e, w8] at wb; exact absurd wb (by decide)
    have hM := hW.m h3
    refine r_aload_n qX4_init_196 rfl ?_
    refine r_getr qX4_init_197 fX4_24 rfl (by assumption) (by first | assumption | rfl) ?_
    refine r_bipush (v := nI 6) qX4_init_200 (by decide) ?_
    refine r_iconst (v := (-1)) qX4_init_202 (by decide) ?_
    refine r_iastN qX4_init_203 (by assumption) (by assumption) (by omega) rfl ?_
    refine r_aload_n qX4_init_204 rfl ?_
    refine r_getr qX4_init_205 fX4_24 rfl (by assumption) (by first | assumption | rfl) ?_
    refine r_iconst (v := nI 0) qX4_init_208 (by decide) ?_
    refine r_bipush (v := nI 20) qX4_init_209 (by decide) ?_
    refine r_iastN qX4_init_211 (by assumption) (by assumption) (by omega) rfl ?_
    refine r_aload_n qX4_init_212 rfl ?_
    refine r_getr qX4_init_213 fX4_24 rfl (by assumption) (by first | assumption | rfl) ?_
    refine r_iconst (v := nI 1) qX4_init_216 (by decide) ?_
    refine r_iconst (v := nI 4) qX4_init_217 (by decide) ?_
    refine r_iastN qX4_init_218 (by assumption) (by assumption) (by omega) rfl ?_
    simp only [wA_s, wA_wA, hn]
    change zR E _ _ X 219 _ _ _ (wA i4 n (aGal (nI 20) (nI 4))) _ _ _
    rw [f0_row]
    refine r_aload_n qX4_init_219 rfl ?_
    refine r_ldcs (n := 29) qX4_init_220 rfl ?_
    refine r_cs1 (cu2 := 6) (su2 := 2800) qX4_init_222 kX4_33 rfl (by decide +kernel) rfl rfl rfl rfl rfl ?_
    refine c_X4_spell wo_29 ?_
    show zR E _ _ X 225 _ _ _ _ _ _ _
    refine r_l2i qX4_init_225 ?_
    refine r_iconst (v := nI 4) qX4_init_226 (by decide) ?_
    refine r_bipush (v := nI 10) qX4_init_227 (by decide) ?_
    refine r_cv3 (cu2 := 6) (su2 := 2800) qX4_init_229 kX4_120 rfl (by decide +kernel) (c := 4) (by assumption) (by decide) rfl rfl rfl rfl rfl rfl ?_
    refine c_X4_laySpirit hM (S := 0) (by rw [wA_s]; decide +kernel) (by decide) ?_
    rw [wA_s, wA_wA, m1_row]
    show zR E _ _ X 232 _ _ _ _ _ _ _
    refine r_aload_n qX4_init_232 rfl ?_
    refine r_ldcs (n := 30) qX4_init_233 rfl ?_
    refine r_cs1 (cu2 := 6) (su2 := 2800) qX4_init_235 kX4_33 rfl (by decide +kernel) rfl rfl rfl rfl rfl ?_
    refine c_X4_spell wo_30 ?_
    show zR E _ _ X 238 _ _ _ _ _ _ _
    refine r_l2i qX4_init_238 ?_
    refine r_iconst (v := nI 3) qX4_init_239 (by decide) ?_
    refine r_bipush (v := nI 6) qX4_init_240 (by decide) ?_
    refine r_cv3 (cu2 := 6) (su2 := 2800) qX4_init_242 kX4_120 rfl (by decide +kernel) (c := 4) (by assumption) (by decide) rfl rfl rfl rfl rfl rfl ?_
    refine c_X4_laySpirit hM (S := 1) (by rw [wA_s]; decide +kernel) (by decide) ?_
    rw [wA_s, wA_wA, m2_row]
    show zR E _ _ X 245 _ _ _ _ _ _ _
    refine r_aload_n qX4_init_245 rfl ?_
    refine r_ldcs (n := 31) qX4_init_246 rfl ?_
    refine r_cs1 (cu2 := 6) (su2 := 2800) qX4_init_248 kX4_33 rfl (by decide +kernel) rfl rfl rfl rfl rfl ?_
    refine c_X4_spell wo_31 ?_
    show zR E _ _ X 251 _ _ _ _ _ _ _
    refine r_l2i qX4_init_251 ?_
    refine r_iconst (v := nI 3) qX4_init_252 (by decide) ?_
    refine r_iconst (v := nI 0) qX4_init_253 (by decide) ?_
    refine r_cv3 (cu2 := 6) (su2 := 2800) qX4_init_254 kX4_128 rfl (by decide +kernel) (c := 4) (by assumption) (by decide) rfl rfl rfl rfl rfl rfl ?_
    refine c_X4_layBath hM (S := 0) (by rw [wA_s]; decide +kernel) (by decide) ?_
    rw [wA_s, wA_wA, m3_row]
    show zR E _ _ X 257 _ _ _ _ _ _ _
    refine r_aload_n qX4_init_257 rfl ?_
    refine r_ldcs (n := 32) qX4_init_258 rfl ?_
    refine r_cs1 (cu2 := 6) (su2 := 2800) qX4_init_260 kX4_33 rfl (by decide +kernel) rfl rfl rfl rfl rfl ?_
    refine c_X4_spell wo_32 ?_
    show zR E _ _ X 263 _ _ _ _ _ _ _
    refine r_l2i qX4_init_263 ?_
    refine r_iconst (v := nI 4) qX4_init_264 (by decide) ?_
    refine r_bipush (v := nI 100) qX4_init_265 (by decide) ?_
    refine r_cv3 (cu2 := 6) (su2 := 2800) qX4_init_267 kX4_128 rfl (by decide +kernel) (c := 4) (by assumption) (by decide) rfl rfl rfl rfl rfl rfl ?_
    refine c_X4_layBath hM (S := 1) (by rw [wA_s]; decide +kernel) (by decide) ?_
    rw [wA_s, wA_wA, m4_row]
    show zR E _ _ X 270 _ _ _ _ _ _ _
    refine r_aload_n qX4_init_270 rfl ?_
    refine r_iconst (v := nI 0) qX4_init_271 (by decide) ?_
    refine r_bipush (v := nI 20) qX4_init_272 (by decide) ?_
    refine r_iconst (v := nI 2) qX4_init_274 (by decide) ?_
    refine r_sipush (v := nI 300) qX4_init_275 (by decide) ?_
    refine r_iconst (v := nI 5) qX4_init_278 (by decide) ?_
    refine r_cv5 (cu2 := 6) (su2 := 2800) qX4_init_279 kX4_133 rfl (by decide +kernel) (c := 4) (by assumption) (by decide) rfl rfl rfl rfl rfl rfl ?_
    refine c_X4_layTube hM (T := 0) (by rw [wA_s]; decide +kernel) (by decide) ?_
    rw [wA_s, wA_wA, f5_row]
    show zR E _ _ X 282 _ _ _ _ _ _ _
    refine r_aload_n qX4_init_282 rfl ?_
    refine r_iconst (v := nI 1) qX4_init_283 (by decide) ?_
    refine r_bipush (v := nI 30) qX4_init_284 (by decide) ?_
    refine r_iconst (v := nI 3) qX4_init_286 (by decide) ?_
    refine r_bipush (v := nI 90) qX4_init_287 (by decide) ?_
    refine r_bipush (v := nI 8) qX4_init_289 (by decide) ?_
    refine r_cv5 (cu2 := 6) (su2 := 2800) qX4_init_291 kX4_133 rfl (by decide +kernel) (c := 4) (by assumption) (by decide) rfl rfl rfl rfl rfl rfl ?_
    refine c_X4_layTube hM (T := 1) (by rw [wA_s]; decide +kernel) (by decide) ?_
    rw [wA_s, wA_wA, f6_row]
    show zR E _ _ X 294 _ _ _ _ _ _ _
    refine r_aload_n qX4_init_294 rfl ?_
    refine r_iconst (v := nI 0) qX4_init_295 (by decide) ?_
    refine r_bipush (v := nI 7) qX4_init_296 (by decide) ?_
    refine r_iconst (v := nI 0) qX4_init_298 (by decide) ?_
    refine r_cv3 (cu2 := 6) (su2 := 2800) qX4_init_299 kX4_137 rfl (by decide +kernel) (c := 4) (by assumption) (by decide) rfl rfl rfl rfl rfl rfl ?_
    refine c_X4_set0 hM (k := 0) (w := 7) (by decide) ?_
    rw [wA_s, wA_wA, f7_row]
    show zR E _ _ X 302 _ _ _ _ _ _ _
    refine r_aload_n qX4_init_302 rfl ?_
    refine r_iconst (v := nI 1) qX4_init_303 (by decide) ?_
    refine r_bipush (v := nI 7) qX4_init_304 (by decide) ?_
    refine r_iconst (v := nI 1) qX4_init_306 (by decide) ?_
    refine r_cv3 (cu2 := 6) (su2 := 2800) qX4_init_307 kX4_137 rfl (by decide +kernel) (c := 4) (by assumption) (by decide) rfl rfl rfl rfl rfl rfl ?_
    refine c_X4_set0 hM (k := 1) (w := 7) (by decide) ?_
    rw [wA_s, wA_wA, f8_row]
    show zR E _ _ X 310 _ _ _ _ _ _ _
    refine r_aload_n qX4_init_310 rfl ?_
    refine r_bipush (v := nI 40) qX4_init_311 (by decide) ?_
    refine r_cv1 (cu2 := 6) (su2 := 2800) qX4_init_313 kX4_140 rfl (by decide +kernel) (c := 4) (by assumption) (by decide) rfl rfl rfl rfl rfl rfl ?_
    refine c_X4_walk hM (by rw [wA_s]; exact f8_keep.1) (by decide) ?_
    rw [wA_s, wA_wA, f9_row]
    show zR E _ _ X 316 _ _ _ _ _ _ _
    refine r_aload_n qX4_init_316 rfl ?_
    refine r_iconst (v := nI 0) qX4_init_317 (by decide) ?_
    refine r_cv1 (cu2 := 6) (su2 := 2800) qX4_init_318 kX4_144 rfl (by decide +kernel) (c := 4) (by assumption) (by decide) rfl rfl rfl rfl rfl rfl ?_
    refine c_X4_markNow (k := 0) (b := 0) hM (by rw [wA_s]; exact f9_keep.1.f (k := 0) (by decide +kernel)) (by rw [wA_s]; exact (f9_keep.1.many (k := 0) (by decide +kernel)).1) (by rw [wA_s]; decide +kernel) (by rw [wA_s]; decide +kernel) (by decide) ?_
    rw [wA_s, wA_wA, f10_row]
    show zR E _ _ X 321 _ _ _ _ _ _ _
    refine r_is_2_1 qX4_init_321 rfl rfl ?_
    refine r_aload_n qX4_init_322 rfl ?_
    refine r_iconst (v := nI 1) qX4_init_323 (by decide) ?_
    refine r_cv1 (cu2 := 6) (su2 := 2800) qX4_init_324 kX4_144 rfl (by decide +kernel) (c := 4) (by assumption) (by decide) rfl rfl rfl rfl rfl rfl ?_
    refine c_X4_markNow (k := 1) (b := 1) hM (by rw [wA_s]; exact f10_keep.1.f (k := 1) (by decide +kernel)) (by rw [wA_s]; exact (f10_keep.1.many (k := 1) (by decide +kernel)).1) (by rw [wA_s]; decide +kernel) (by rw [wA_s]; decide +kernel) (by decide) ?_
    rw [wA_s, wA_wA, f11_row]
    show zR E _ _ X 327 _ _ _ _ _ _ _
    refine r_is_2_1 qX4_init_327 rfl rfl ?_
    refine r_aload_n qX4_init_328 rfl ?_
    refine r_iconst (v := nI 0) qX4_init_329 (by decide) ?_
    refine r_bipush (v := nI 7) qX4_init_330 (by decide) ?_
    refine r_iconst (v := nI 1) qX4_init_332 (by decide) ?_
    refine r_cv3 (cu2 := 6) (su2 := 2800) qX4_init_333 kX4_137 rfl (by decide +kernel) (c := 4) (by assumption) (by decide) rfl rfl rfl rfl rfl rfl ?_
    refine c_X4_set0 hM (k := 0) (w := 7) (by decide) ?_
    rw [wA_s, wA_wA, f12_row]
    show zR E _ _ X 336 _ _ _ _ _ _ _
    refine r_aload_n qX4_init_336 rfl ?_
    refine r_bipush (v := nI 40) qX4_init_337 (by decide) ?_
    refine r_cv1 (cu2 := 6) (su2 := 2800) qX4_init_339 kX4_140 rfl (by decide +kernel) (c := 4) (by assumption) (by decide) rfl rfl rfl rfl rfl rfl ?_
    refine c_X4_walk hM (by rw [wA_s]; exact f12_keep.1) (by decide) ?_
    rw [wA_s, wA_wA, f13_row]
    show zR E _ _ X 342 _ _ _ _ _ _ _
    refine r_aload_n qX4_init_342 rfl ?_
    refine r_iconst (v := nI 0) qX4_init_343 (by decide) ?_
    refine r_cv1 (cu2 := 6) (su2 := 2800) qX4_init_344 kX4_144 rfl (by decide +kernel) (c := 4) (by assumption) (by decide) rfl rfl rfl rfl rfl rfl ?_
    refine c_X4_markNow (k := 0) (b := 1) hM (by rw [wA_s]; exact f13_keep.1.f (k := 0) (by decide +kernel)) (by rw [wA_s]; exact (f13_keep.1.many (k := 0) (by decide +kernel)).1) (by rw [wA_s]; decide +kernel) (by rw [wA_s]; decide +kernel) (by decide) ?_
    rw [wA_s, wA_wA, f14_row]
    show zR E _ _ X 347 _ _ _ _ _ _ _
    refine r_is_2_1 qX4_init_347 rfl rfl ?_
    refine r_aload_n qX4_init_348 rfl ?_
    refine r_iconst (v := nI 0) qX4_init_349 (by decide) ?_
    refine r_bipush (v := nI 7) qX4_init_350 (by decide) ?_
    refine r_iconst (v := (-1)) qX4_init_352 (by decide) ?_
    refine r_cv3 (cu2 := 6) (su2 := 2800) qX4_init_353 kX4_137 rfl (by decide +kernel) (c := 4) (by assumption) (by decide) rfl rfl rfl rfl rfl rfl ?_
    refine c_X4_set0 hM (k := 0) (w := 7) (by decide) ?_
    rw [wA_s, wA_wA, f15_row]
    show zR E _ _ X 356 _ _ _ _ _ _ _
    refine r_aload_n qX4_init_356 rfl ?_
    refine r_iconst (v := nI 1) qX4_init_357 (by decide) ?_
    refine r_bipush (v := nI 6) qX4_init_358 (by decide) ?_
    refine r_iconst (v := nI 1) qX4_init_360 (by decide) ?_
    refine r_cv3 (cu2 := 6) (su2 := 2800) qX4_init_361 kX4_137 rfl (by decide +kernel) (c := 4) (by assumption) (by decide) rfl rfl rfl rfl rfl rfl ?_
    refine c_X4_set0 hM (k := 1) (w := 6) (by decide) ?_
    rw [wA_s, wA_wA, f16_row]
    show zR E _ _ X 364 _ _ _ _ _ _ _
    refine r_aload_n qX4_init_364 rfl ?_
    refine r_getr qX4_init_365 fX4_24 rfl (by assumption) (by first | assumption | rfl) ?_
    refine r_bipush (v := nI 6) qX4_init_368 (by decide) ?_
    refine r_iconst (v := nI 1) qX4_init_370 (by decide) ?_
    refine r_iastN qX4_init_371 (by assumption) (by assumption) (by omega) rfl ?_
    refine r_aload_n qX4_init_372 rfl ?_
    refine r_getr qX4_init_373 fX4_24 rfl (by assumption) (by first | assumption | rfl) ?_
    refine r_bipush (v := nI 7) qX4_init_376 (by decide) ?_
    refine r_iconst (v := nI 3) qX4_init_378 (by decide) ?_
    refine r_iastN qX4_init_379 (by assumption) (by assumption) (by omega) rfl ?_
    simp only [wA_s, wA_wA]
    change zR E _ _ X 380 _ _ _ (wA i4 n (aThumb (fr f16_) 1 (nI 3))) _ _ _
    rw [f17_row]
    refine r_aload_n qX4_init_380 rfl ?_
    refine r_iconst (v := nI 2) qX4_init_381 (by decide) ?_
    refine r_cv1 (cu2 := 6) (su2 := 2800) qX4_init_382 kX4_140 rfl (by decide +kernel) (c := 4) (by assumption) (by decide) rfl rfl rfl rfl rfl rfl ?_
    refine c_X4_walk hM (by rw [wA_s]; exact f17_keep.1) (by decide) ?_
    rw [wA_s, wA_wA, f18_row]
    show zR E _ _ X 385 _ _ _ _ _ _ _
    refine r_vretI qX4_init_385 rfl rfl rfl ?_
    refine hK n d b p s o g4 _ j4 hW h3 wA_s (fun k => by rw [wA_n nb]; exact hb k) (by rw [wA_n (Ne.symm nx)]; exact hx) hw hnew (F.to (fun q hq _ => wA_n (fun e => hq (by rw [e]; exact hnew n (Or.inl rfl)))) (fun _ _ _ => rfl))
  have K165 : ∀ (n d b : Nat) (s3 : Nat → Nat) (g3 : Sh) (i3 : Ni) (j3 : Nj), s3 0 = n → s3 1 = d → s3 2 = b → zA6 3 g3 x s3 n → i3 n = (fun _ => nI 0) → (∀ k, i3 b k = 0) → i3 x = i x → zWd (j3 x) → (∀ r, (r = n ∨ r = d ∨ r = b) → gT g r = 0) → zNg x g i j g3 i3 j3 → zR E mX4_init (zZI E mX4_init K) X 165 [.ref x, zJ] [] g3 i3 j3 3 1020 := by
    intro n d b s3 g3 i3 j3 en ed eb A3 hn hb hx hw hnew F3
    have nz : gT g3 n ≠ 0 := by rw [← en, (A3.2.1 0 (by decide)).2.1]; decide
    have bz : gT g3 b ≠ 0 := by rw [← eb, (A3.2.1 2 (by decide)).2.1]; decide
    have nx : n ≠ x := fun e => by have := (A3.2.1 0 (by decide)).2.1; rw [en, e, A3.1] at this; exact absurd this (by decide)
    have bx : b ≠ x := fun e => by have := (A3.2.1 2 (by decide)).2.1; rw [eb, e, A3.1] at this; exact absurd this (by decide)
    have xz : gT g3 x ≠ 0 := by rw [A3.1]; decide
    have w3 := A3.1
    refine r_aload_n qX4_init_165 rfl ?_
    refine r_sipush (v := nI 1260) qX4_init_166 (by decide) ?_
    refine r_newa (N := 1260) qX4_init_169 rfl (by decide) na_0 (by decide) (by decide) rfl rfl rfl (fun p p0 pf => ?_)
    obtain ⟨B4, C4, A4⟩ := A3.step (by decide) pf (t := 11) (n := 1260) rfl rfl
    refine r_putr qX4_init_171 fX4_106 (Or.inr ⟨rfl, rfl, rfl⟩) rfl (by assumption) ?_
    change gT (wR (wN g3 p 11 1260) x 28 p) x = 5 at C4
    change zA6 4 (wR (wN g3 p 11 1260) x 28 p) x _ _ at A4
    have F4 : zNg x g i j (wR (wN g3 p 11 1260) x 28 p) (wA i3 p (fun _ => 0)) (wB j3 p (fun _ => 0)) := F3.trans (zNg.new pf)
    have new3 : gT g p = 0 := F3.fr pf
    have ne3 : ∀ q, gT g3 q ≠ 0 → q ≠ p := fun q hq e => hq (by rw [e]; exact pf)
    have ze3 : wA i3 p (fun _ => 0) p = fun _ => 0 := wA_s
    have ie3 : ∀ q, gT g3 q ≠ 0 → wA i3 p (fun _ => 0) q = i3 q := fun q hq => wA_n (ne3 q hq)
    have je3 : ∀ q, gT g3 q ≠ 0 → wB j3 p (fun _ => 0) q = j3 q := fun q hq => wB_n (ne3 q hq)
    have ke3 : ∀ q, gT g3 q ≠ 0 → gT (wR (wN g3 p 11 1260) x 28 p) q ≠ 0 := fun q hq => by rw [gT_wR, gT_wN, if_neg (ne3 q hq)]; exact hq
    generalize wR (wN g3 p 11 1260) x 28 p = g4 at *
    generalize wA i3 p (fun _ => 0) = i4 at *
    generalize wB j3 p (fun _ => 0) = j4 at *
    refine r_aload_n qX4_init_174 rfl ?_
    refine r_sipush (v := nI 420) qX4_init_175 (by decide) ?_
    refine r_newa (N := 420) qX4_init_178 rfl (by decide) na_0 (by decide) (by decide) rfl rfl rfl (fun s s0 sf => ?_)
    obtain ⟨B5, C5, A5⟩ := A4.step (by decide) sf (t := 11) (n := 420) rfl rfl
    refine r_putr qX4_init_180 fX4_109 (Or.inr ⟨rfl, rfl, rfl⟩) rfl (by assumption) ?_
    change gT (wR (wN g4 s 11 420) x 30 s) x = 5 at C5
    change zA6 5 (wR (wN g4 s 11 420) x 30 s) x _ _ at A5
    have F5 : zNg x g i j (wR (wN g4 s 11 420) x 30 s) (wA i4 s (fun _ => 0)) (wB j4 s (fun _ => 0)) := F4.trans (zNg.new sf)
    have new4 : gT g s = 0 := F4.fr sf
    have ne4 : ∀ q, gT g4 q ≠ 0 → q ≠ s := fun q hq e => hq (by rw [e]; exact sf)
    have ze4 : wA i4 s (fun _ => 0) s = fun _ => 0 := wA_s
    have ie4 : ∀ q, gT g4 q ≠ 0 → wA i4 s (fun _ => 0) q = i4 q := fun q hq => wA_n (ne4 q hq)
    have je4 : ∀ q, gT g4 q ≠ 0 → wB j4 s (fun _ => 0) q = j4 q := fun q hq => wB_n (ne4 q hq)
    have ke4 : ∀ q, gT g4 q ≠ 0 → gT (wR (wN g4 s 11 420) x 30 s) q ≠ 0 := fun q hq => by rw [gT_wR, gT_wN, if_neg (ne4 q hq)]; exact hq
    generalize wR (wN g4 s 11 420) x 30 s = g5 at *
    generalize wA i4 s (fun _ => 0) = i5 at *
    generalize wB j4 s (fun _ => 0) = j5 at *
    refine r_aload_n qX4_init_183 rfl ?_
    refine r_iconst (v := (-1)) qX4_init_184 (by decide) ?_
    refine r_puti qX4_init_185 fX4_112 (Or.inl rfl) rfl rfl rfl (by assumption) ?_
    have xn5 : ∀ q, q ≠ x → wA i5 x (upd (i5 x) 33 (-1)) q = i5 q := fun q hq => wA_n hq
    have xs5 : wA i5 x (upd (i5 x) 33 (-1)) x = upd (i5 x) 33 (-1) := wA_s
    generalize wA i5 x (upd (i5 x) 33 (-1)) = i5' at *
    have F5' : zNg x g i j g5 i5' j5 := F5.to (fun q _ hr => xn5 q hr) (fun _ _ _ => rfl)
    refine r_aload_n qX4_init_188 rfl ?_
    refine r_bipush (v := nI 100) qX4_init_189 (by decide) ?_
    refine r_newa (N := 100) qX4_init_191 rfl (by decide) na_0 (by decide) (by decide) rfl rfl rfl (fun o o0 of => ?_)
    obtain ⟨B6, C6, A6⟩ := A5.step (by decide) of (t := 11) (n := 100) rfl rfl
    refine r_putr qX4_init_193 fX4_115 (Or.inr ⟨rfl, rfl, rfl⟩) rfl (by assumption) ?_
    change gT (wR (wN g5 o 11 100) x 34 o) x = 5 at C6
    change zA6 6 (wR (wN g5 o 11 100) x 34 o) x _ _ at A6
    have F6 : zNg x g i j (wR (wN g5 o 11 100) x 34 o) (wA i5' o (fun _ => 0)) (wB j5 o (fun _ => 0)) := F5'.trans (zNg.new of)
    have new5 : gT g o = 0 := F5'.fr of
    have ne5 : ∀ q, gT g5 q ≠ 0 → q ≠ o := fun q hq e => hq (by rw [e]; exact of)
    have ze5 : wA i5' o (fun _ => 0) o = fun _ => 0 := wA_s
    have ie5 : ∀ q, gT g5 q ≠ 0 → wA i5' o (fun _ => 0) q = i5' q := fun q hq => wA_n (ne5 q hq)
    have je5 : ∀ q, gT g5 q ≠ 0 → wB j5 o (fun _ => 0) q = j5 q := fun q hq => wB_n (ne5 q hq)
    have ke5 : ∀ q, gT g5 q ≠ 0 → gT (wR (wN g5 o 11 100) x 34 o) q ≠ 0 := fun q hq => by rw [gT_wR, gT_wN, if_neg (ne5 q hq)]; exact hq
    generalize wR (wN g5 o 11 100) x 34 o = g6 at *
    generalize wA i5' o (fun _ => 0) = i6 at *
    generalize wB j5 o (fun _ => 0) = j6 at *
    have n4 := ke3 n nz
    have n5 := ke4 n n4
    have b4 := ke3 b bz
    have b5 := ke4 b b4
    have x4 := ke3 x xz
    have x5 := ke4 x x4
    subst en ed eb
    refine K196 _ _ _ _ _ _ g6 i6 j6 A6.w A6.2.2.2 ?_ (fun k => ?_) ?_ ?_ ?_ F6
    · exact ((ie5 _ n5).trans ((xn5 _ nx).trans ((ie4 _ n4).trans (ie3 _ nz)))).trans hn
    · have e := (ie5 _ b5).trans ((xn5 _ bx).trans ((ie4 _ b4).trans (ie3 _ bz)))
      exact (congrFun e k).trans (hb k)
    · rw [ie5 _ x5, xs5, ie4 _ x4, ie3 _ xz, hx]
    · rw [je5 _ x5, je4 _ x4, je3 _ xz]; exact hw
    · rintro r (h | h | h | h | h | h)
      · exact hnew r (Or.inl h)
      · exact hnew r (Or.inr (Or.inl h))
      · exact hnew r (Or.inr (Or.inr h))
      · exact (congrArg (gT g) h).trans new3
      · exact (congrArg (gT g) h).trans new4
      · exact (congrArg (gT g) h).trans new5
  have K39 : ∀ (n d b : Nat) (s3 : Nat → Nat) (g3 : Sh) (i3 : Ni) (j3 : Nj), s3 0 = n → s3 1 = d → s3 2 = b → zA6 3 g3 x s3 n → i3 n = (fun _ => nI 0) → (∀ k, i3 b k = 0) → i3 x = i x → (∀ r, (r = n ∨ r = d ∨ r = b) → gT g r = 0) → zNg x g i j g3 i3 j3 → zR E mX4_init (zZI E mX4_init K) X 39 [.ref x, zJ] [] g3 i3 j3 3 1020 := by
    intro n d b s3 g3 i3 j3 en ed eb A3 hn hb hx hnew F3
    have w1 := A3.1
    refine r_aload_n qX4_init_39 rfl ?_
    refine r_ldcs (n := 15) qX4_init_40 rfl ?_
    refine r_cs1 (cu2 := 3) (su2 := 1020) qX4_init_42 kX4_33 rfl (by decide +kernel) rfl rfl rfl rfl rfl ?_
    refine c_X4_spell wo_15 ?_
    show zR E _ _ X 45 _ _ _ _ _ _ _
    refine r_putl qX4_init_45 fX4_37 (Or.inr ⟨rfl, rfl, rfl⟩) rfl (by assumption) ?_
    refine r_aload_n qX4_init_48 rfl ?_
    refine r_ldcs (n := 16) qX4_init_49 rfl ?_
    refine r_cs1 (cu2 := 3) (su2 := 1020) qX4_init_51 kX4_33 rfl (by decide +kernel) rfl rfl rfl rfl rfl ?_
    refine c_X4_spell wo_16 ?_
    show zR E _ _ X 54 _ _ _ _ _ _ _
    refine r_putl qX4_init_54 fX4_43 (Or.inr ⟨rfl, rfl, rfl⟩) rfl (by assumption) ?_
    refine r_aload_n qX4_init_57 rfl ?_
    refine r_ldcs (n := 17) qX4_init_58 rfl ?_
    refine r_cs1 (cu2 := 3) (su2 := 1020) qX4_init_60 kX4_33 rfl (by decide +kernel) rfl rfl rfl rfl rfl ?_
    refine c_X4_spell wo_17 ?_
    show zR E _ _ X 63 _ _ _ _ _ _ _
    refine r_putl qX4_init_63 fX4_48 (Or.inr ⟨rfl, rfl, rfl⟩) rfl (by assumption) ?_
    refine r_aload_n qX4_init_66 rfl ?_
    refine r_ldcs (n := 18) qX4_init_67 rfl ?_
    refine r_cs1 (cu2 := 3) (su2 := 1020) qX4_init_69 kX4_33 rfl (by decide +kernel) rfl rfl rfl rfl rfl ?_
    refine c_X4_spell wo_18 ?_
    show zR E _ _ X 72 _ _ _ _ _ _ _
    refine r_putl qX4_init_72 fX4_53 (Or.inr ⟨rfl, rfl, rfl⟩) rfl (by assumption) ?_
    refine r_aload_n qX4_init_75 rfl ?_
    refine r_ldcs (n := 19) qX4_init_76 rfl ?_
    refine r_cs1 (cu2 := 3) (su2 := 1020) qX4_init_78 kX4_33 rfl (by decide +kernel) rfl rfl rfl rfl rfl ?_
    refine c_X4_spell wo_19 ?_
    show zR E _ _ X 81 _ _ _ _ _ _ _
    refine r_putl qX4_init_81 fX4_58 (Or.inr ⟨rfl, rfl, rfl⟩) rfl (by assumption) ?_
    refine r_aload_n qX4_init_84 rfl ?_
    refine r_ldcs (n := 20) qX4_init_85 rfl ?_
    refine r_cs1 (cu2 := 3) (su2 := 1020) qX4_init_87 kX4_33 rfl (by decide +kernel) rfl rfl rfl rfl rfl ?_
    refine c_X4_spell wo_20 ?_
    show zR E _ _ X 90 _ _ _ _ _ _ _
    refine r_putl qX4_init_90 fX4_63 (Or.inr ⟨rfl, rfl, rfl⟩) rfl (by assumption) ?_
    refine r_aload_n qX4_init_93 rfl ?_
    refine r_ldcs (n := 21) qX4_init_94 rfl ?_
    refine r_cs1 (cu2 := 3) (su2 := 1020) qX4_init_96 kX4_33 rfl (by decide +kernel) rfl rfl rfl rfl rfl ?_
    refine c_X4_spell wo_21 ?_
    show zR E _ _ X 99 _ _ _ _ _ _ _
    refine r_putl qX4_init_99 fX4_68 (Or.inr ⟨rfl, rfl, rfl⟩) rfl (by assumption) ?_
    refine r_aload_n qX4_init_102 rfl ?_
    refine r_ldcs (n := 22) qX4_init_103 rfl ?_
    refine r_cs1 (cu2 := 3) (su2 := 1020) qX4_init_105 kX4_33 rfl (by decide +kernel) rfl rfl rfl rfl rfl ?_
    refine c_X4_spell wo_22 ?_
    show zR E _ _ X 108 _ _ _ _ _ _ _
    refine r_putl qX4_init_108 fX4_73 (Or.inr ⟨rfl, rfl, rfl⟩) rfl (by assumption) ?_
    refine r_aload_n qX4_init_111 rfl ?_
    refine r_ldcs (n := 23) qX4_init_112 rfl ?_
    refine r_cs1 (cu2 := 3) (su2 := 1020) qX4_init_114 kX4_33 rfl (by decide +kernel) rfl rfl rfl rfl rfl ?_
    refine c_X4_spell wo_23 ?_
    show zR E _ _ X 117 _ _ _ _ _ _ _
    refine r_putl qX4_init_117 fX4_78 (Or.inr ⟨rfl, rfl, rfl⟩) rfl (by assumption) ?_
    refine r_aload_n qX4_init_120 rfl ?_
    refine r_ldcs (n := 24) qX4_init_121 rfl ?_
    refine r_cs1 (cu2 := 3) (su2 := 1020) qX4_init_123 kX4_33 rfl (by decide +kernel) rfl rfl rfl rfl rfl ?_
    refine c_X4_spell wo_24 ?_
    show zR E _ _ X 126 _ _ _ _ _ _ _
    refine r_putl qX4_init_126 fX4_83 (Or.inr ⟨rfl, rfl, rfl⟩) rfl (by assumption) ?_
    refine r_aload_n qX4_init_129 rfl ?_
    refine r_ldcs (n := 25) qX4_init_130 rfl ?_
    refine r_cs1 (cu2 := 3) (su2 := 1020) qX4_init_132 kX4_33 rfl (by decide +kernel) rfl rfl rfl rfl rfl ?_
    refine c_X4_spell wo_25 ?_
    show zR E _ _ X 135 _ _ _ _ _ _ _
    refine r_putl qX4_init_135 fX4_88 (Or.inr ⟨rfl, rfl, rfl⟩) rfl (by assumption) ?_
    refine r_aload_n qX4_init_138 rfl ?_
    refine r_ldcs (n := 26) qX4_init_139 rfl ?_
    refine r_cs1 (cu2 := 3) (su2 := 1020) qX4_init_141 kX4_33 rfl (by decide +kernel) rfl rfl rfl rfl rfl ?_
    refine c_X4_spell wo_26 ?_
    show zR E _ _ X 144 _ _ _ _ _ _ _
    refine r_putl qX4_init_144 fX4_93 (Or.inr ⟨rfl, rfl, rfl⟩) rfl (by assumption) ?_
    refine r_aload_n qX4_init_147 rfl ?_
    refine r_ldcs (n := 27) qX4_init_148 rfl ?_
    refine r_cs1 (cu2 := 3) (su2 := 1020) qX4_init_150 kX4_33 rfl (by decide +kernel) rfl rfl rfl rfl rfl ?_
    refine c_X4_spell wo_27 ?_
    show zR E _ _ X 153 _ _ _ _ _ _ _
    refine r_putl qX4_init_153 fX4_98 (Or.inr ⟨rfl, rfl, rfl⟩) rfl (by assumption) ?_
    refine r_aload_n qX4_init_156 rfl ?_
    refine r_ldcs (n := 28) qX4_init_157 rfl ?_
    refine r_cs1 (cu2 := 3) (su2 := 1020) qX4_init_159 kX4_33 rfl (by decide +kernel) rfl rfl rfl rfl rfl ?_
    refine c_X4_spell wo_28 ?_
    show zR E _ _ X 162 _ _ _ _ _ _ _
    refine r_putl qX4_init_162 fX4_103 (Or.inr ⟨rfl, rfl, rfl⟩) rfl (by assumption) ?_
    exact K165 n d b s3 g3 i3 _ en ed eb A3 hn hb hx (by simp [zWd, wB_s, vp_updL]) hnew (F3.to (fun _ _ _ => rfl) (fun q _ hr => by simp only [wB_n hr]))
  have A0 : zA6 0 g x (fun _ => 0) (gR g x 3) := ⟨hT, fun k hk => absurd hk (Nat.not_lt_zero k), fun p q hp => absurd hp (Nat.not_lt_zero p), rfl⟩
  have F0 : zNg x g i j g i j := zNg.refl
  refine r_aload_n qX4_init_0 rfl ?_
  refine r_objinit qX4_init_1 kX4_11 (by assumption) rfl rfl ?_
  refine r_aload_n qX4_init_4 rfl ?_
  refine r_sipush (v := nI 210) qX4_init_5 (by decide) ?_
  refine r_newa (N := 210) qX4_init_8 rfl (by decide) na_0 (by decide) (by decide) rfl rfl rfl (fun n n0 nf => ?_)
  obtain ⟨B1, C1, A1⟩ := A0.step (by decide) nf (t := 11) (n := 210) rfl rfl
  refine r_putr qX4_init_10 fX4_17 (Or.inr ⟨rfl, rfl, rfl⟩) rfl (by assumption) ?_
  change gT (wR (wN g n 11 210) x 1 n) x = 5 at C1
  change zA6 1 (wR (wN g n 11 210) x 1 n) x _ _ at A1
  have F1 : zNg x g i j (wR (wN g n 11 210) x 1 n) (wA i n (fun _ => 0)) (wB j n (fun _ => 0)) := F0.trans (zNg.new nf)
  have new0 : gT g n = 0 := F0.fr nf
  have ne0 : ∀ q, gT g q ≠ 0 → q ≠ n := fun q hq e => hq (by rw [e]; exact nf)
  have ze0 : wA i n (fun _ => 0) n = fun _ => 0 := wA_s
  have ie0 : ∀ q, gT g q ≠ 0 → wA i n (fun _ => 0) q = i q := fun q hq => wA_n (ne0 q hq)
  have je0 : ∀ q, gT g q ≠ 0 → wB j n (fun _ => 0) q = j q := fun q hq => wB_n (ne0 q hq)
  have ke0 : ∀ q, gT g q ≠ 0 → gT (wR (wN g n 11 210) x 1 n) q ≠ 0 := fun q hq => by rw [gT_wR, gT_wN, if_neg (ne0 q hq)]; exact hq
  generalize wR (wN g n 11 210) x 1 n = g1 at *
  generalize wA i n (fun _ => 0) = i1 at *
  generalize wB j n (fun _ => 0) = j1 at *
  refine r_aload_n qX4_init_13 rfl ?_
  refine r_sipush (v := nI 210) qX4_init_14 (by decide) ?_
  refine r_newa (N := 210) qX4_init_17 rfl (by decide) na_0 (by decide) (by decide) rfl rfl rfl (fun d d0 df => ?_)
  obtain ⟨B2, C2, A2⟩ := A1.step (by decide) df (t := 11) (n := 210) rfl rfl
  refine r_putr qX4_init_19 fX4_21 (Or.inr ⟨rfl, rfl, rfl⟩) rfl (by assumption) ?_
  change gT (wR (wN g1 d 11 210) x 2 d) x = 5 at C2
  change zA6 2 (wR (wN g1 d 11 210) x 2 d) x _ _ at A2
  have F2 : zNg x g i j (wR (wN g1 d 11 210) x 2 d) (wA i1 d (fun _ => 0)) (wB j1 d (fun _ => 0)) := F1.trans (zNg.new df)
  have new1 : gT g d = 0 := F1.fr df
  have ne1 : ∀ q, gT g1 q ≠ 0 → q ≠ d := fun q hq e => hq (by rw [e]; exact df)
  have ze1 : wA i1 d (fun _ => 0) d = fun _ => 0 := wA_s
  have ie1 : ∀ q, gT g1 q ≠ 0 → wA i1 d (fun _ => 0) q = i1 q := fun q hq => wA_n (ne1 q hq)
  have je1 : ∀ q, gT g1 q ≠ 0 → wB j1 d (fun _ => 0) q = j1 q := fun q hq => wB_n (ne1 q hq)
  have ke1 : ∀ q, gT g1 q ≠ 0 → gT (wR (wN g1 d 11 210) x 2 d) q ≠ 0 := fun q hq => by rw [gT_wR, gT_wN, if_neg (ne1 q hq)]; exact hq
  generalize wR (wN g1 d 11 210) x 2 d = g2 at *
  generalize wA i1 d (fun _ => 0) = i2 at *
  generalize wB j1 d (fun _ => 0) = j2 at *
  have v2 : gR g2 x 1 = n := (A2.2.1 0 (by decide)).1
  refine r_aload_n qX4_init_22 rfl ?_
  refine r_aload_n qX4_init_23 rfl ?_
  refine r_getr qX4_init_24 fX4_17 rfl (by assumption) (by first | assumption | rfl) ?_
  refine r_putr qX4_init_27 fX4_24 (Or.inl rfl) rfl (by assumption) ?_
  have A2' : zA6 2 (wR g2 x 3 n) x _ n := A2.row (by decide)
  have F2' : zNg x g i j (wR g2 x 3 n) i2 j2 := F2.trans zNg.pr
  have ke2' : ∀ q, gT g2 q ≠ 0 → gT (wR g2 x 3 n) q ≠ 0 := fun q hq => hq
  generalize wR g2 x 3 n = g2' at *
  have w2' := A2'.1
  refine r_aload_n qX4_init_30 rfl ?_
  refine r_sipush (v := nI 600) qX4_init_31 (by decide) ?_
  refine r_newa (N := 600) qX4_init_34 rfl (by decide) na_1 (by decide) (by decide) rfl rfl rfl (fun b b0 bf => ?_)
  obtain ⟨B3, C3, A3⟩ := A2'.step (by decide) bf (t := 12) (n := 600) rfl rfl
  refine r_putr qX4_init_36 fX4_27 (Or.inr ⟨rfl, rfl, rfl⟩) rfl (by assumption) ?_
  change gT (wR (wN g2' b 12 600) x 4 b) x = 5 at C3
  change zA6 3 (wR (wN g2' b 12 600) x 4 b) x _ _ at A3
  have F3 : zNg x g i j (wR (wN g2' b 12 600) x 4 b) (wA i2 b (fun _ => 0)) (wB j2 b (fun _ => 0)) := F2'.trans (zNg.new bf)
  have new2 : gT g b = 0 := F2'.fr bf
  have ne2 : ∀ q, gT g2' q ≠ 0 → q ≠ b := fun q hq e => hq (by rw [e]; exact bf)
  have ze2 : wA i2 b (fun _ => 0) b = fun _ => 0 := wA_s
  have ie2 : ∀ q, gT g2' q ≠ 0 → wA i2 b (fun _ => 0) q = i2 q := fun q hq => wA_n (ne2 q hq)
  have je2 : ∀ q, gT g2' q ≠ 0 → wB j2 b (fun _ => 0) q = j2 q := fun q hq => wB_n (ne2 q hq)
  have ke2 : ∀ q, gT g2' q ≠ 0 → gT (wR (wN g2' b 12 600) x 4 b) q ≠ 0 := fun q hq => by rw [gT_wR, gT_wN, if_neg (ne2 q hq)]; exact hq
  generalize wR (wN g2' b 12 600) x 4 b = g3 at *
  generalize wA i2 b (fun _ => 0) = i3 at *
  generalize wB j2 b (fun _ => 0) = j3 at *
  have xz : gT g x ≠ 0 := by rw [hT]; decide
  have n1 : gT g1 n ≠ 0 := by rw [show gT g1 n = 11 from (A1.2.1 0 (by decide)).2.1]; decide
  have n2 := ke1 n n1
  have n2' := ke2' n n2
  refine K39 n d b _ g3 i3 j3 rfl rfl rfl A3 ?_ ?_ ?_ ?_ F3
  · exact ((ie2 _ n2').trans (ie1 _ n1)).trans ze0
  · intro k; rw [ze2]
  · exact (ie2 _ (ke2' _ (ke1 _ (ke0 _ xz)))).trans ((ie1 _ (ke0 _ xz)).trans (ie0 _ xz))
  · rintro r (rfl | rfl | rfl)
    · exact new0
    · exact new1
    · exact new2

