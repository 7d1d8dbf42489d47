/-! ===== A NEW READER; NEW GALLERIES ===== -/
theorem zC.k12 {g : Sh} {a : Nat → Nat} (h : zC g a) {r t : Nat} (hr : gT g r = t) (ht : t ≠ 1 ∧ t ≠ 11 ∧ t ≠ 15 ∧ t ≠ 3) {q : Nat} (hq : q < 30) : a q ≠ r := fun e => by
  have := h.kd hq
  rw [e, hr] at this
  omega
set_option maxHeartbeats 4000000 in
set_option maxRecDepth 20000 in
theorem c_X1_init {E : Ev} {g : Sh} {i : Ni} {j : Nj} {K : Kp} {rd : Nat} (hr0 : rd ≠ 0) (hT : gT g rd = 2) (h0 : ∀ f, i rd f = 0) (hK : ∀ (tx : Nat) (a : Nat → Nat) (g' : Sh) (i' : Ni) (j' : Nj), gT g' rd = 2 → gR g' rd 0 = tx → gR g' rd 1 = a 0 → gT g' tx = 12 → gL g' tx = 600 → zC g' a → zNo i' a → (∀ q, q < 30 → gT g (a q) = 0) → gT g tx = 0 → i' rd 2 = nI 0 → (∀ k, i' tx k = 0) → zNf rd g i j g' i' j' → K (.inl none) g' i' j') : zConI E mX1_init [.ref rd] g i j K := by
  refine zconI_of (by decide +kernel) rfl rfl (lo := [.ref rd]) rfl (fun X => ?_)
  refine r_aload_n qX1_init_0 rfl ?_
  refine r_objinit qX1_init_1 kX1_3 (by assumption) rfl rfl ?_
  refine r_aload_n qX1_init_4 rfl ?_
  refine r_sipush (v := nI 600) qX1_init_5 (by decide) ?_
  refine r_newa (N := 600) qX1_init_8 rfl (by decide) na_1 (by decide) (by decide) rfl rfl rfl (fun tx tx0 txf => ?_)
  have ne : rd ≠ tx := fun e => by rw [e, txf] at hT; exact absurd hT (by decide)
  have hT1 : gT (wN g tx 12 600) rd = 2 := by rw [gT_wN, if_neg ne]; exact hT
  refine r_putr qX1_init_10 fX1_11 (Or.inr ⟨rfl, rfl, rfl⟩) rfl (by assumption) ?_
  have hT2 : gT (wR (wN g tx 12 600) rd 0 tx) rd = 2 := hT1
  have F1 := (zNf.new (u := rd) (i := i) (j := j) (t := 12) (n := 600) (f := fun _ => 0) (f2 := fun _ => 0) txf).trans (zNf.pr (k := 0) (v := tx))
  have xT : gT (wR (wN g tx 12 600) rd 0 tx) tx = 12 := by rw [gT_wR, gT_wN, if_pos rfl]
  have xL : gL (wR (wN g tx 12 600) rd 0 tx) tx = 600 := by rw [gL_wR, gL_wN, if_pos rfl]
  have xR : gR (wR (wN g tx 12 600) rd 0 tx) rd 0 = tx := by rw [gR_wR, if_pos rfl, if_pos rfl]
  refine r_aload_n qX1_init_13 rfl ?_
  refine r_new qX1_init_14 nX1_15 rfl rfl (fun w w0 wf => ?_)
  refine r_dup qX1_init_17 rfl ?_
  refine r_ci0 (cu2 := 31) (su2 := 871) qX1_init_18 kX1_17 rfl (by decide +kernel) (by assumption) rfl rfl rfl rfl rfl ?_
  refine c_X0_init w0 (by rw [gT_wN, if_pos rfl]) (fun a g3 i3 j3 a0 C3 N3 f3 F3 => ?_)
  have F4 := (zNf.new (u := w) (i := wA i tx (fun _ => 0)) (j := wB j tx (fun _ => 0)) (t := 1) (n := 0) (f := fun _ => 0) (f2 := fun _ => 0) wf).trans F3
  have wr : rd ≠ w := fun e => by rw [← e, hT2] at wf; exact absurd wf (by decide)
  have wt : tx ≠ w := fun e => by rw [← e, xT] at wf; exact absurd wf (by decide)
  have F5 : zNf rd g i j g3 i3 j3 := F1.trans (zNf.of wf F4)
  have hT3 : gT g3 rd = 2 := F4.ty hT2 (by decide)
  show zR E _ _ X 21 _ _ _ _ _ _ _
  refine r_putr qX1_init_21 fX1_18 (Or.inr ⟨rfl, rfl, rfl⟩) rfl (by assumption) ?_
  refine r_aload_n qX1_init_24 rfl ?_
  refine r_iconst (v := (-1)) qX1_init_25 (by decide) ?_
  refine r_puti qX1_init_26 fX1_22 (Or.inl rfl) rfl rfl rfl (by assumption) ?_
  refine r_vretI qX1_init_29 rfl rfl rfl ?_
  have e5 := F4 rd (by rw [hT2]; decide)
  have e6 := F4 tx (by rw [xT]; decide)
  refine hK tx a _ _ _ hT3 (by rw [gR_wR, if_pos rfl, if_neg (by decide), (e5.2.2.2 wr).1]; exact xR) (by rw [gR_wR, if_pos rfl, if_pos rfl, a0]) (F4.ty xT (by decide)) (e6.2.1.trans xL) (C3.to (fun q hq => ⟨rfl, rfl, fun k => by rw [gR_wR, if_neg (C3.k12 hT3 (by decide) hq)]⟩)) (fun z hz => by rw [wA_n (C3.k12 hT3 (by decide) (by omega))]; exact N3 z hz) (fun q hq => ?_) txf ?_ (fun k => ?_) (F5.trans (zNf.pr.trans zNf.pi))
  · by_cases hq0 : q = 0
    · rw [hq0, a0]; exact F1.fr wf
    · have := f3 q (by omega) hq
      rw [gT_wN] at this
      split at this
      · exact absurd this (by decide)
      · exact F1.fr this
  · rw [wA_s, pk_un (by decide), (e5.2.2.2 wr).2, wA_n ne, h0]; rfl
  · rw [wA_n (Ne.symm ne), (e6.2.2.2 wt).2, wA_s]


