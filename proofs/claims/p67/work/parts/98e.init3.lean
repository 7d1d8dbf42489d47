/-! ===== THE CLASS'S CONSTRUCTOR ===== -/
theorem zC.nc {c : Nat} {g g1 : Sh} {i i1 : Ni} {j j1 : Nj} {a : Nat → Nat} (h : zC g a) (hc : gT g c = 4) (F : zNf c g i j g1 i1 j1) : zC g1 a ∧ ∀ q, q < 30 → i1 (a q) = i (a q) := by
  have k : ∀ q, q < 30 → gT g (a q) ≠ 0 ∧ a q ≠ c := fun q hq => by
    have : gT g (a q) ≠ 0 := by rcases h.kd hq with e | e | e | e <;> rw [e] <;> decide
    exact ⟨this, h.k12 hc (by decide) hq⟩
  exact ⟨h.to (fun q hq => ⟨(F _ (k q hq).1).1, (F _ (k q hq).1).2.1, ((F _ (k q hq).1).2.2.2 (k q hq).2).1⟩), fun q hq => ((F _ (k q hq).1).2.2.2 (k q hq).2).2⟩
theorem zC.di {g : Sh} {a b : Nat → Nat} (h : zC g a) (hb : ∀ q, q < 30 → gT g (b q) = 0) {p q : Nat} (hp : p < 30) (hq : q < 30) : a p ≠ b q := fun e => h.nz hp (by rw [e]; exact hb q hq)
/-- the galleries of an array that stands -/
def zGt (z : Nat) (g : Sh) (i : Ni) (ar : Nat) (B : Nat → Nat → Nat) : Prop := gT g ar = 16 ∧ gL g ar = z ∧ ∀ k, k < z → gR g ar k = B k 0 ∧ zC g (B k) ∧ zNo i (B k)
theorem zGt.nc {c z ar : Nat} {g g1 : Sh} {i i1 : Ni} {j j1 : Nj} {B : Nat → Nat → Nat} (h : zGt z g i ar B) (hc : gT g c = 4) (F : zNf c g i j g1 i1 j1) : zGt z g1 i1 ar B := by
  obtain ⟨h1, h2, h3⟩ := h
  have ne : ar ≠ c := fun e => by rw [e, hc] at h1; exact absurd h1 (by decide)
  obtain ⟨f1, f2, f3, f4⟩ := F ar (by rw [h1]; decide)
  refine ⟨f1.trans h1, f2.trans h2, fun k hk => ?_⟩
  obtain ⟨b1, b2, b3⟩ := h3 k hk
  obtain ⟨c1, c2⟩ := b2.nc hc F
  exact ⟨((f4 ne).1 k).trans b1, c1, fun z hz => by rw [c2 _ (by omega)]; exact b3 z hz⟩
theorem zNo.nc {c : Nat} {g g1 : Sh} {i i1 : Ni} {j j1 : Nj} {a : Nat → Nat} (h : zNo i a) (hC : zC g a) (hc : gT g c = 4) (F : zNf c g i j g1 i1 j1) : zNo i1 a := fun z hz => by
  rw [(hC.nc hc F).2 _ (by omega)]; exact h z hz
/-- the first m references of the object -/
def zCr (m : Nat) (g : Sh) (c : Nat) (f : Nat → Nat) : Prop := gT g c = 4 ∧ ∀ k, k < m → gR g c k = f k
theorem zCr.put {m c v : Nat} {g : Sh} {f : Nat → Nat} (h : zCr m g c f) : zCr (m + 1) (wR g c m v) c (fun k => if k = m then v else f k) := by
  refine ⟨h.1, fun k hk => ?_⟩
  rw [gR_wR, if_pos rfl]
  show _ = if k = m then v else f k
  by_cases e : k = m
  · rw [if_pos e, if_pos e]
  · rw [if_neg e, if_neg e]; exact h.2 k (by omega)
theorem zCr.nf {m c w : Nat} {g g1 : Sh} {i i1 : Ni} {j j1 : Nj} {f : Nat → Nat} (h : zCr m g c f) (F : zNf w g i j g1 i1 j1) (hw : gT g w = 0) : zCr m g1 c f := by
  have ne : c ≠ w := fun e => by have := h.1; rw [e, hw] at this; exact absurd this (by decide)
  obtain ⟨f1, f2, f3, f4⟩ := F c (by rw [h.1]; decide)
  exact ⟨f1.trans h.1, fun k hk => ((f4 ne).1 k).trans (h.2 k hk)⟩
def aAll (a0 a1 a2 : Nat → Nat) (B B2 : Nat → Nat → Nat) : Nat → Nat → Nat := fun n => if n = 0 then a0 else if n = 1 then a1 else if n = 2 then a2 else if n < 9 then B (n - 3) else B2 (n - 9)
theorem aAll_3 {a0 a1 a2 : Nat → Nat} {B B2 : Nat → Nat → Nat} {q : Nat} (h : q < 6) : aAll a0 a1 a2 B B2 (3 + q) = B q := by
  rw [aAll, if_neg (by omega), if_neg (by omega), if_neg (by omega), if_pos (by omega), show 3 + q - 3 = q by omega]
theorem aAll_9 {a0 a1 a2 : Nat → Nat} {B B2 : Nat → Nat → Nat} {q : Nat} : aAll a0 a1 a2 B B2 (9 + q) = B2 q := by
  rw [aAll, if_neg (by omega), if_neg (by omega), if_neg (by omega), if_neg (by omega), show 9 + q - 9 = q by omega]
theorem aAll_all {P : Nat → (Nat → Nat) → Prop} {a0 a1 a2 : Nat → Nat} {B B2 : Nat → Nat → Nat} (h0 : P 0 a0) (h1 : P 1 a1) (h2 : P 2 a2) (h3 : ∀ q, q < 6 → P (3 + q) (B q)) (h9 : ∀ q, q < 2 → P (9 + q) (B2 q)) : ∀ n, n < 11 → P n (aAll a0 a1 a2 B B2 n) := fun n hn => by
  rcases (show n = 0 ∨ n = 1 ∨ n = 2 ∨ (∃ q, q < 6 ∧ n = 3 + q) ∨ ∃ q, q < 2 ∧ n = 9 + q from by
    by_cases e0 : n < 3
    · omega
    · by_cases e1 : n < 9
      · exact Or.inr (Or.inr (Or.inr (Or.inl ⟨n - 3, by omega, by omega⟩)))
      · exact Or.inr (Or.inr (Or.inr (Or.inr ⟨n - 9, by omega, by omega⟩)))) with rfl | rfl | rfl | ⟨q, hq, rfl⟩ | ⟨q, hq, rfl⟩
  · exact h0
  · exact h1
  · exact h2
  · rw [aAll_3 hq]; exact h3 q hq
  · rw [aAll_9]; exact h9 q hq
/-- all cells are apart: draft, current, future, undo, slots were made in this order -/
theorem aAll_ne {a0 a1 a2 : Nat → Nat} {B B2 : Nat → Nat → Nat} {ga gb gc gd : Sh} (k2 : zC ga a2) (n0 : ∀ q, q < 30 → gT ga (a0 q) = 0) (b2 : zC gb a2) (b0 : zC gb a0) (n1 : ∀ q, q < 30 → gT gb (a1 q) = 0) (c2 : zC gc a2) (c0 : zC gc a0) (c1 : zC gc a1) (nB : ∀ k q, k < 6 → q < 30 → gT gc (B k q) = 0)
    (d2 : zC gd a2) (d0 : zC gd a0) (d1 : zC gd a1) (dB : ∀ k, k < 6 → zC gd (B k)) (nC : ∀ k q, k < 2 → q < 30 → gT gd (B2 k q) = 0) (iB : ∀ k m p q, k < 6 → m < 6 → k ≠ m → p < 30 → q < 30 → B k p ≠ B m q) (iC : ∀ k m p q, k < 2 → m < 2 → k ≠ m → p < 30 → q < 30 → B2 k p ≠ B2 m q) :
    ∀ n m p q, n < 11 → m < 11 → n ≠ m → p < 30 → q < 30 → aAll a0 a1 a2 B B2 n p ≠ aAll a0 a1 a2 B B2 m q := by
  intro n m p q hn hm hnm hp hq
  revert hnm
  refine aAll_all (P := fun n x => n ≠ m → x p ≠ aAll a0 a1 a2 B B2 m q) ?_ ?_ ?_ (fun k hk => ?_) (fun k hk => ?_) n hn
  · refine aAll_all (P := fun m y => 0 ≠ m → a0 p ≠ y q) (fun h => absurd rfl h) (fun _ => b0.di n1 hp hq) (fun _ => Ne.symm (k2.di n0 hq hp)) (fun k hk _ => c0.di (nB k · hk) hp hq) (fun k hk _ => d0.di (nC k · hk) hp hq) m hm
  · refine aAll_all (P := fun m y => 1 ≠ m → a1 p ≠ y q) (fun _ => Ne.symm (b0.di n1 hq hp)) (fun h => absurd rfl h) (fun _ => Ne.symm (b2.di n1 hq hp)) (fun k hk _ => c1.di (nB k · hk) hp hq) (fun k hk _ => d1.di (nC k · hk) hp hq) m hm
  · refine aAll_all (P := fun m y => 2 ≠ m → a2 p ≠ y q) (fun _ => k2.di n0 hp hq) (fun _ => b2.di n1 hp hq) (fun h => absurd rfl h) (fun k hk _ => c2.di (nB k · hk) hp hq) (fun k hk _ => d2.di (nC k · hk) hp hq) m hm
  · refine aAll_all (P := fun m y => 3 + k ≠ m → B k p ≠ y q) (fun _ => Ne.symm (c0.di (nB k · hk) hq hp)) (fun _ => Ne.symm (c1.di (nB k · hk) hq hp)) (fun _ => Ne.symm (c2.di (nB k · hk) hq hp)) (fun k2 hk2 h => iB k k2 p q hk hk2 (by omega) hp hq) (fun k2 hk2 _ => (dB k hk).di (nC k2 · hk2) hp hq) m hm
  · refine aAll_all (P := fun m y => 9 + k ≠ m → B2 k p ≠ y q) (fun _ => Ne.symm (d0.di (nC k · hk) hq hp)) (fun _ => Ne.symm (d1.di (nC k · hk) hq hp)) (fun _ => Ne.symm (d2.di (nC k · hk) hq hp)) (fun k2 hk2 _ => Ne.symm ((dB k2 hk2).di (nC k · hk) hq hp)) (fun k2 hk2 h => iC k k2 p q hk hk2 (by omega) hp hq) m hm
theorem fst_len : (zbyt ((zstr.getD 0 ("", 0, "")).2.2)).length = 206 := fstL_e
theorem fst_q : zstr[0]? = some (zstr.getD 0 ("", 0, "")) := rfl
theorem fst_all : (zbyt ((zstr.getD 0 ("", 0, "")).2.2)).all (fun v => decide (v = nI (zn v)) && decide (zn v < 128)) = true := by decide +kernel
theorem gD_mem {l : List Int32} {k : Nat} (hk : k < l.length) : l.getD k 0 ∈ l := by
  rw [List.getD_eq_getElem?_getD, List.getElem?_eq_getElem hk]
  exact List.getElem_mem hk
theorem fst_m (k : Nat) (hk : k < (zbyt ((zstr.getD 0 ("", 0, "")).2.2)).length) : ∃ m : Nat, m < 128 ∧ (zbyt ((zstr.getD 0 ("", 0, "")).2.2)).getD k 0 = nI m := by
  have h := List.all_eq_true.mp fst_all ((zbyt ((zstr.getD 0 ("", 0, "")).2.2)).getD k 0) (gD_mem hk)
  simp only [Bool.and_eq_true, decide_eq_true_eq] at h
  exact ⟨_, h.2, h.1⟩
theorem fst_byt : zByt fstB := fun k => by
  by_cases hk : k < (zbyt ((zstr.getD 0 ("", 0, "")).2.2)).length
  · obtain ⟨m, hm, e⟩ := fst_m k hk
    rw [fstB, e]
    exact ⟨by rw [nI_toInt (by omega)]; omega, by rw [nI_toInt (by omega)]; omega⟩
  · rw [fstB, List.getD_eq_getElem?_getD, List.getElem?_eq_none (by omega)]
    exact ⟨by decide, by decide⟩
theorem zBf.nf {r : Nat} {g g' : Sh} {i i' : Ni} {j j' : Nj} (g0 : gT (wN g r 6 0) 0 = 0) (h : zBf r (wN g r 6 0) i j g' i' j') : zNf r (wN g r 6 0) i j g' i' j' := fun q hq => by
  obtain ⟨f1, f2, f3, f4⟩ := h.2 q hq
  refine ⟨f1, f2, f3, fun hr => ⟨(f4 hr).1, (f4 hr).2 (fun e => ?_)⟩⟩
  rw [gR_wN, if_pos rfl] at e
  rw [e] at hq
  exact hq g0
theorem zBf.nb {r : Nat} {g g' : Sh} {i i' : Ni} {j j' : Nj} (g0 : gT (wN g r 6 0) 0 = 0) (h : zBf r (wN g r 6 0) i j g' i' j') : gT g (gR g' r 0) = 0 := by
  have k : ∀ b, gT (wN g r 6 0) b = 0 → gT g b = 0 := fun b hb => by
    rw [gT_wN] at hb
    split at hb
    · exact absurd hb (by decide)
    · exact hb
  rcases h.1 with e | e
  · rw [gR_wN, if_pos rfl] at e
    rw [e]; exact k 0 g0
  · exact k _ e
theorem zBu.wr {g : Sh} {i : Ni} {r c k v : Nat} {L : List Int32} (h : zBu g i r L) (hc : gT g c = 4) : zBu (wR g c k v) i r L := by
  have ne : r ≠ c := fun e => by have := h.1; rw [e, hc] at this; exact absurd this (by decide)
  have e : gR (wR g c k v) r 0 = gR g r 0 := by rw [gR_wR, if_neg ne]
  obtain ⟨h1, h2, h3, h4, h5, h6, h7, h8⟩ := h
  refine ⟨h1, h2, h3, by rw [e]; exact h4, by rw [e]; exact h5, by rw [e]; exact h6, by rw [e]; exact h7, by rw [e]; exact h8⟩
theorem zH.no' {c : Nat} {g g1 : Sh} {i i1 : Ni} {j j1 : Nj} {a : Nat → Nat} {N : Nat → Int32} (h : zH i a N) (hC : zC g a) (hc : gT g c = 4) (F : zNf c g i j g1 i1 j1) : zNo i1 a := zNo.nc h.no hC hc F
theorem zNf.trans' {u : Nat} {g g1 : Sh} {i i1 i2 : Ni} {j j1 : Nj} (h : zNf u g i j g1 i1 j1) (e : ∀ q, gT g q ≠ 0 → i2 q = i1 q) : zNf u g i j g1 i2 j1 := fun q hq => by
  obtain ⟨f1, f2, f3, f4⟩ := h q hq
  exact ⟨f1, f2, f3, fun hr => ⟨(f4 hr).1, (e q hq).trans (f4 hr).2⟩⟩
set_option maxHeartbeats 4000000 in
set_option maxRecDepth 20000 in
theorem c_X3_init {E : Ev} {g : Sh} {i : Ni} {j : Nj} {K : Kp} {c : Nat} (hc0 : c ≠ 0) (hT : gT g c = 4) (hK : ∀ (rd tx ur sl sf sb : Nat) (A : Nat → Nat → Nat) (g' : Sh) (i' : Ni) (j' : Nj), zY g' c rd tx ur sl sf sb A → zH i' (A 0) (fr f18_) → (∀ n, n < 11 → zNo i' (A n)) → i' c 7 = nI 0 → i' c 8 = nI 0 → i' c 9 = nI 0 → i' c 10 = -1 → i' rd 2 = nI 0 → zByt (i' tx) → (∀ q, i' sf q = 0) → zBu g' i' sb [] → tx ≠ gR g' sb 0 → zNf c g i j g' i' j' → K (.inl none) g' i' j') : zConI E mX3_init [.ref c] g i j K := by
  refine zconI_of (by decide +kernel) rfl rfl (lo := [.ref c, zJ, zJ]) rfl (fun X => ?_)
  have K43 : ∀ (rd tx : Nat) (a aw : Nat → Nat) (ga g4 : Sh) (i4 : Ni) (j4 : Nj), gT g4 c = 4 → gT g4 rd = 2 → gR g4 rd 0 = tx → gR g4 rd 1 = a 0 → gT g4 tx = 12 → gL g4 tx = 600 → zC g4 a → zC g4 aw → zNo i4 a → zH i4 aw (fr f18_) → zC ga a → (∀ q, q < 30 → gT ga (aw q) = 0) → i4 rd 2 = nI 0 → zByt (i4 tx) → zNf c g i j g4 i4 j4 → zR E mX3_init (zZI E mX3_init K) X 43 [.ref c, .ref rd, .ref (aw 0)] [] g4 i4 j4 62 1150 := by
    intro rd tx a aw ga g4 i4 j4 t4 r1 r2 r3 r4 r5 Ha Hw Na Hh kka nwa hl hby F0
    have C0 : zCr 0 g4 c (fun _ => 0) := ⟨t4, fun k hk => absurd hk (Nat.not_lt_zero k)⟩
    refine r_aload_n qX3_init_43 rfl ?_
    refine r_aload_n qX3_init_44 rfl ?_
    refine r_putr qX3_init_45 fX3_36 (Or.inr ⟨rfl, rfl, rfl⟩) rfl (by assumption) ?_
    have C1 := (C0.put (v := rd))
    have t1 : gT (wR g4 c 0 rd) c = 4 := C1.1
    refine r_aload_n qX3_init_48 rfl ?_
    refine r_aload_n qX3_init_49 rfl ?_
    refine r_putr qX3_init_50 fX3_40 (Or.inr ⟨rfl, rfl, rfl⟩) rfl (by assumption) ?_
    have C2 := (C1.put (v := aw 0))
    have t2 : gT (wR (wR g4 c 0 rd) c 1 (aw 0)) c = 4 := C2.1
    have F2 : zNf c g4 i4 j4 (wR (wR g4 c 0 rd) c 1 (aw 0)) i4 j4 := zNf.pr.trans zNf.pr
    generalize wR (wR g4 c 0 rd) c 1 (aw 0) = g5 at *
    refine r_aload_n qX3_init_53 rfl ?_
    refine r_new qX3_init_54 nX3_10 rfl rfl (fun f f0 ff => ?_)
    refine r_dup qX3_init_57 rfl ?_
    refine r_ci0 (cu2 := 92) (su2 := 1421) qX3_init_58 kX3_12 rfl (by decide +kernel) (by assumption) rfl rfl rfl rfl rfl ?_
    refine c_X0_init f0 (by rw [gT_wN, if_pos rfl]) (fun af g6 i6 j6 a0 Cf Nf nf Ff => ?_)
    have F6 : zNf f g5 i4 j4 g6 i6 j6 := (zNf.new ff).trans Ff
    have C3 := C2.nf F6 ff
    have fc : zNf c g5 i4 j4 g6 i6 j6 := zNf.of ff F6
    have t6 : gT g6 c = 4 := C3.1
    have naf : ∀ q, q < 30 → gT g5 (af q) = 0 := fun q hq => by
      by_cases hq0 : q = 0
      · rw [hq0, a0]; exact ff
      · have := nf q (by omega) hq
        rw [gT_wN] at this
        split at this
        · exact absurd this (by decide)
        · exact this
    show zR E _ _ X 61 _ _ _ _ _ _ _
    refine r_putr qX3_init_61 fX3_43 (Or.inr ⟨rfl, rfl, rfl⟩) rfl (by assumption) ?_
    rw [← a0]
    have C4 := (C3.put (v := af 0))
    have t7 : gT (wR g6 c 2 (af 0)) c = 4 := C4.1
    have F7 : zNf c g6 i6 j6 (wR g6 c 2 (af 0)) i6 j6 := zNf.pr
    generalize wR g6 c 2 (af 0) = g7 at *
    refine r_aload_n qX3_init_64 rfl ?_
    refine r_bipush (v := nI 6) qX3_init_65 (by decide) ?_
    refine r_cs1 (cu2 := 273) (su2 := 3053) qX3_init_67 kX3_46 rfl (by decide +kernel) rfl rfl rfl rfl rfl ?_
    refine c_X3_emptyGalleries (Or.inl rfl) (fun ur B g8 i8 j8 u1 u2 u3 u4 u5 => ?_)
    have C5 := C4.nf (u5 ur) u4
    have t8 : gT g8 c = 4 := C5.1
    show zR E _ _ X 70 _ _ _ _ _ _ _
    refine r_putr qX3_init_70 fX3_50 (Or.inr ⟨rfl, rfl, rfl⟩) rfl (by assumption) ?_
    have C6 := (C5.put (v := ur))
    have t9 : gT (wR g8 c 3 ur) c = 4 := C6.1
    have F9 : zNf c g8 i8 j8 (wR g8 c 3 ur) i8 j8 := zNf.pr
    generalize wR g8 c 3 ur = g9 at *
    refine r_aload_n qX3_init_73 rfl ?_
    refine r_iconst (v := nI 2) qX3_init_74 (by decide) ?_
    refine r_cs1 (cu2 := 454) (su2 := 4685) qX3_init_75 kX3_46 rfl (by decide +kernel) rfl rfl rfl rfl rfl ?_
    refine c_X3_emptyGalleries (Or.inr rfl) (fun sl B2 g10 i10 j10 v1 v2 v3 v4 v5 => ?_)
    have C7 := C6.nf (v5 sl) v4
    have t10 : gT g10 c = 4 := C7.1
    show zR E _ _ X 78 _ _ _ _ _ _ _
    refine r_putr qX3_init_78 fX3_54 (Or.inr ⟨rfl, rfl, rfl⟩) rfl (by assumption) ?_
    have C8 := (C7.put (v := sl))
    have t11 : gT (wR g10 c 4 sl) c = 4 := C8.1
    have F11 : zNf c g10 i10 j10 (wR g10 c 4 sl) i10 j10 := zNf.pr
    generalize wR g10 c 4 sl = g11 at *
    refine r_aload_n qX3_init_81 rfl ?_
    refine r_iconst (v := nI 2) qX3_init_82 (by decide) ?_
    refine r_newa (N := 2) qX3_init_83 rfl (by decide) na_2 (by decide) (by decide) rfl rfl rfl (fun sf sf0 sff => ?_)
    have F12 : zNf sf g11 i10 j10 (wN g11 sf 13 2) (wA i10 sf (fun _ => 0)) (wB j10 sf (fun _ => 0)) := zNf.new sff
    have F12c : zNf c g11 i10 j10 (wN g11 sf 13 2) (wA i10 sf (fun _ => 0)) (wB j10 sf (fun _ => 0)) := zNf.new sff
    have C9 := C8.nf F12 sff
    have t12 : gT (wN g11 sf 13 2) c = 4 := C9.1
    have s1 : gT (wN g11 sf 13 2) sf = 13 := by rw [gT_wN, if_pos rfl]
    have s2 : gL (wN g11 sf 13 2) sf = 2 := by rw [gL_wN, if_pos rfl]
    have s3 : wA i10 sf (fun _ => 0) sf = fun _ => 0 := wA_s
    generalize wN g11 sf 13 2 = g12 at *
    generalize wA i10 sf (fun _ => 0) = i12 at *
    generalize wB j10 sf (fun _ => 0) = j12 at *
    refine r_putr qX3_init_85 fX3_57 (Or.inr ⟨rfl, rfl, rfl⟩) rfl (by assumption) ?_
    have C10 := (C9.put (v := sf))
    have t13 : gT (wR g12 c 5 sf) c = 4 := C10.1
    have F13 : zNf c g12 i12 j12 (wR g12 c 5 sf) i12 j12 := zNf.pr
    have s4 : gT (wR g12 c 5 sf) sf = 13 := s1
    have s5 : gL (wR g12 c 5 sf) sf = 2 := s2
    generalize wR g12 c 5 sf = g13 at *
    refine r_aload_n qX3_init_88 rfl ?_
    refine r_new qX3_init_89 nX3_61 rfl rfl (fun sb sb0 sbf => ?_)
    refine r_dup qX3_init_92 rfl ?_
    refine r_g0 (fun g00 => ?_)
    refine r_ci0 (cu2 := 457) (su2 := 4707) qX3_init_93 kX3_63 rfl (by decide +kernel) (by assumption) rfl rfl rfl rfl rfl ?_
    refine c_J4_init_da8c8 sb0 (by rw [gT_wN, if_pos rfl]) (fun k => by rw [wA_s]) (fun bb hBu hBf => ?_)
    revert hBu hBf
    generalize wR (wN (wN g13 sb 6 0) bb 12 16) sb 0 bb = g14
    generalize wA (wA (wA i12 sb (fun _ => 0)) bb (fun _ => 0)) sb (upd (wA i12 sb (fun _ => 0) sb) 1 (nI 0)) = i14
    generalize wB (wB j12 sb (fun _ => 0)) bb (fun _ => 0) = j14
    intro hBu hBf
    have F14 : zNf sb g13 i12 j12 g14 i14 j14 := (zNf.new sbf).trans (zBf.nf g00 hBf)
    have C11 := C10.nf F14 sbf
    have F14c : zNf c g13 i12 j12 g14 i14 j14 := zNf.of sbf F14
    have t14 : gT g14 c = 4 := C11.1
    have nbb : gT g13 (gR g14 sb 0) = 0 := zBf.nb g00 hBf
    show zR E _ _ X 96 _ _ _ _ _ _ _
    refine r_putr qX3_init_96 fX3_64 (Or.inr ⟨rfl, rfl, rfl⟩) rfl (by assumption) ?_
    have C12 := (C11.put (v := sb))
    have t15 : gT (wR g14 c 6 sb) c = 4 := C12.1
    have F15 : zNf c g14 i14 j14 (wR g14 c 6 sb) i14 j14 := zNf.pr
    have hBu2 : zBu (wR g14 c 6 sb) i14 sb [] := hBu.wr t14
    have ebb : gR (wR g14 c 6 sb) sb 0 = gR g14 sb 0 := by rw [gR_wR, if_neg (fun e => by have := hBu.1; rw [e, t14] at this; exact absurd this (by decide))]
    generalize wR g14 c 6 sb = g15 at *
    refine r_aload_n qX3_init_99 rfl ?_
    refine r_iconst (v := nI 0) qX3_init_100 (by decide) ?_
    refine r_puti qX3_init_101 fX3_68 (Or.inl rfl) rfl rfl rfl (by assumption) ?_
    refine r_aload_n qX3_init_104 rfl ?_
    refine r_iconst (v := nI 0) qX3_init_105 (by decide) ?_
    refine r_puti qX3_init_106 fX3_71 (Or.inl rfl) rfl rfl rfl (by assumption) ?_
    refine r_aload_n qX3_init_109 rfl ?_
    refine r_iconst (v := nI 0) qX3_init_110 (by decide) ?_
    refine r_puti qX3_init_111 fX3_74 (Or.inl rfl) rfl rfl rfl (by assumption) ?_
    refine r_aload_n qX3_init_114 rfl ?_
    refine r_iconst (v := (-1)) qX3_init_115 (by decide) ?_
    refine r_puti qX3_init_116 fX3_77 (Or.inl rfl) rfl rfl rfl (by assumption) ?_
    simp only [wA_s, wA_wA]
    generalize hE : wA i14 c (upd (upd (upd (upd (i14 c) 7 (nI 0)) 8 (nI 0)) 9 (nI 0)) 10 (-1)) = iE
    refine r_vretI qX3_init_119 rfl rfl rfl ?_
    have FE : zNf c g14 i14 j14 g15 iE j14 := F15.trans (by rw [← hE]; exact zNf.pi)
    have D13 := F14c.trans FE
    have D12 := F13.trans D13
    have D11 := F12c.trans D12
    have D10 := F11.trans D11
    have D9 := (v5 c).trans D10
    have D8 := F9.trans D9
    have D7 := (u5 c).trans D8
    have D6 := F7.trans D7
    have D5 := fc.trans D6
    have D4 := F2.trans D5
    have G1 := (zGt.nc ⟨u1, u2, u3.1⟩ t8 D8 : zGt 6 g15 iE ur B)
    have G2 := (zGt.nc ⟨v1, v2, v3.1⟩ t10 D10 : zGt 2 g15 iE sl B2)
    have A0 := Hw.nc t4 D4
    have A2 := Ha.nc t4 D4
    have A1 := Cf.nc t6 D6
    have rc : rd ≠ c := fun e => by rw [e, t4] at r1; exact absurd r1 (by decide)
    have xc : tx ≠ c := fun e => by rw [e, t4] at r4; exact absurd r4 (by decide)
    obtain ⟨m1, m2, m3, m4⟩ := D4 rd (by rw [r1]; decide)
    obtain ⟨n1, n2, n3, n4⟩ := D4 tx (by rw [r4]; decide)
    have sc : sf ≠ c := fun e => by rw [e, t13] at s4; exact absurd s4 (by decide)
    obtain ⟨o1, o2, o3, o4⟩ := D13 sf (by rw [s4]; decide)
    have bc : sb ≠ c := fun e => by have := hBu.1; rw [e, t14] at this; exact absurd this (by decide)
    have bbc : gR g14 sb 0 ≠ c := fun e => by rw [e, t13] at nbb; exact absurd nbb (by decide)
    have z4a := (Ha.nc t4 F2).1
    have z4w := (Hw.nc t4 F2).1
    have z7a := (z4a.nc t2 (fc.trans F7)).1
    have z7w := (z4w.nc t2 (fc.trans F7)).1
    have z7f := (Cf.nc t6 F7).1
    have z9a := (z7a.nc t7 ((u5 c).trans F9)).1
    have z9w := (z7w.nc t7 ((u5 c).trans F9)).1
    have z9f := (z7f.nc t7 ((u5 c).trans F9)).1
    have z9B : ∀ k, k < 6 → zC g9 (B k) := fun k hk => ((u3.1 k hk).2.1.nc t8 F9).1
    have c7 : iE c 7 = nI 0 := by rw [← hE, wA_s]; simp (disch := decide) only [pk_us, pk_un]
    have c8 : iE c 8 = nI 0 := by rw [← hE, wA_s]; simp (disch := decide) only [pk_us, pk_un]
    have c9 : iE c 9 = nI 0 := by rw [← hE, wA_s]; simp (disch := decide) only [pk_us, pk_un]
    have c10 : iE c 10 = -1 := by rw [← hE, wA_s]; simp (disch := decide) only [pk_us, pk_un]
    refine hK rd tx ur sl sf sb (aAll aw af a B B2) g15 iE j14 ⟨t15, C12.2 0 (by decide), C12.2 1 (by decide), C12.2 2 (by decide), C12.2 3 (by decide), C12.2 4 (by decide), C12.2 5 (by decide), C12.2 6 (by decide), ⟨m1.trans r1, ((m4 rc).1 0).trans r2, ((m4 rc).1 1).trans r3⟩, ⟨n1.trans r4, n2.trans r5⟩, ⟨G1.1, G1.2.1, fun q hq => by rw [aAll_3 hq]; exact (G1.2.2 q hq).1⟩, ⟨G2.1, G2.2.1, fun q hq => by rw [aAll_9]; exact (G2.2.2 q hq).1⟩, ⟨o1.trans s4, o2.trans s5⟩, hBu2.1, ?_, ?_⟩ ?_ ?_ c7 c8 c9 c10 ?_ ?_ ?_ ?_ ?_ (F0.trans D4)
    · exact aAll_all (P := fun _ x => zC g15 x) A0.1 A1.1 A2.1 (fun q hq => (G1.2.2 q hq).2.1) (fun q hq => (G2.2.2 q hq).2.1)
    · exact aAll_ne kka nwa z4a z4w naf z7a z7w z7f (fun k q hk hq => u3.2.2 k q hk hq) z9a z9w z9f z9B (fun k q hk hq => v3.2.2 k q hk hq) u3.2.1 v3.2.1
    · exact Hh.ou (fun q hq => A0.2 q hq)
    · exact aAll_all (P := fun _ x => zNo iE x) (Hh.no' Hw t4 D4) (Nf.nc Cf t6 D6) (Na.nc Ha t4 D4) (fun q hq => (G1.2.2 q hq).2.2) (fun q hq => (G2.2.2 q hq).2.2)
    · rw [(m4 rc).2]; exact hl
    · rw [(n4 xc).2]; exact hby
    · intro q
      rw [(o4 sc).2, s3]
    · exact hBu2.num (by rw [← hE, wA_n bc]) (by rw [ebb, ← hE, wA_n bbc])
    · intro e
      rw [ebb] at e
      have d4 := D4.ty r4 (by decide)
      have q1 := (F2.trans (fc.trans (F7.trans ((u5 c).trans (F9.trans ((v5 c).trans (F11.trans (F12c.trans F13)))))))).ty r4 (by decide)
      rw [e, nbb] at q1
      exact absurd q1 (by decide)
  refine r_aload_n qX3_init_0 rfl ?_
  refine r_objinit qX3_init_1 kX3_1 (by assumption) rfl rfl ?_
  refine r_new qX3_init_4 nX3_7 rfl rfl (fun rd rd0 rdf => ?_)
  refine r_dup qX3_init_7 rfl ?_
  refine r_ci0 (cu2 := 32) (su2 := 879) qX3_init_8 kX3_9 rfl (by decide +kernel) (by assumption) rfl rfl rfl rfl rfl ?_
  refine c_X1_init rd0 (by rw [gT_wN, if_pos rfl]) (fun f => by rw [wA_s]) (fun tx a g2 i2 j2 e1 e2 e3 e4 e5 e6 e7 e8 e9 e10 e11 F => ?_)
  have F2 : zNf rd g i j g2 i2 j2 := (zNf.new rdf).trans F
  have F2c : zNf c g i j g2 i2 j2 := zNf.of rdf F2
  have t2 : gT g2 c = 4 := F2c.ty hT (by decide)
  show zR E _ _ X 11 _ _ _ _ _ _ _
  refine r_as_3_1 qX3_init_11 rfl rfl ?_
  refine r_new qX3_init_12 nX3_10 rfl rfl (fun w w0 wf => ?_)
  refine r_dup qX3_init_15 rfl ?_
  refine r_ci0 (cu2 := 62) (su2 := 1150) qX3_init_16 kX3_12 rfl (by decide +kernel) (by assumption) rfl rfl rfl rfl rfl ?_
  refine c_X0_init w0 (by rw [gT_wN, if_pos rfl]) (fun aw g4 i4 j4 w1 w2 w3 w4 Fw => ?_)
  have F4 : zNf w g2 i2 j2 g4 i4 j4 := (zNf.new wf).trans Fw
  have naw : ∀ q, q < 30 → gT g2 (aw q) = 0 := fun q hq => by
    by_cases hq0 : q = 0
    · rw [hq0, w1]; exact wf
    · have := w4 q (by omega) hq
      rw [gT_wN] at this
      split at this
      · exact absurd this (by decide)
      · exact this
  have rw' : rd ≠ w := fun e => by rw [e, wf] at e1; exact absurd e1 (by decide)
  have xw : tx ≠ w := fun e => by rw [e, wf] at e4; exact absurd e4 (by decide)
  obtain ⟨m1, m2, m3, m4⟩ := F4 rd (by rw [e1]; decide)
  obtain ⟨n1, n2, n3, n4⟩ := F4 tx (by rw [e4]; decide)
  have r1 := m1.trans e1
  have r2 := ((m4 rw').1 0).trans e2
  have r3 := ((m4 rw').1 1).trans e3
  have r4 := n1.trans e4
  have r5 := n2.trans e5
  obtain ⟨hCa, hia⟩ := e6.nf F4 wf
  subst w1
  have xr : tx ≠ rd := fun e => by rw [e, r1] at r4; exact absurd r4 (by decide)
  show zR E _ _ X 19 _ _ _ _ _ _ _
  refine r_as_3_2 qX3_init_19 rfl rfl ?_
  refine r_aload_n qX3_init_20 rfl ?_
  refine r_ldcs (n := 0) qX3_init_21 rfl ?_
  refine r_cv1 (cu2 := 62) (su2 := 1150) qX3_init_23 kX3_17 rfl (by decide +kernel) (c := 1) (by assumption) (by decide) rfl rfl rfl rfl rfl rfl ?_
  refine c_X1_putText (n := 0) fst_q (by rw [fst_len]; decide) fst_m r1 r2 r4 r5 (by rw [(m4 rw').2]; exact e10) (fun i5 p1 p2 p3 p4 p5 => ?_)
  have eB : i5 tx = fstB := funext fun k => by
    by_cases hk : k < (zbyt ((zstr.getD 0 ("", 0, "")).2.2)).length
    · exact p2 k hk
    · rw [p3 k (by omega), (n4 xw).2, e11, fstB, List.getD_eq_getElem?_getD, List.getElem?_eq_none (by omega)]; rfl
  have aR : ∀ q, q < 30 → a q ≠ rd := fun q hq => hCa.k12 r1 (by decide) hq
  have aX : ∀ q, q < 30 → a q ≠ tx := fun q hq => hCa.k12 r4 (by decide) hq
  have wR' : ∀ q, q < 30 → aw q ≠ rd := fun q hq => w2.k12 r1 (by decide) hq
  have wX : ∀ q, q < 30 → aw q ≠ tx := fun q hq => w2.k12 r4 (by decide) hq
  have dis : ∀ p q, p < 30 → q < 30 → aw p ≠ a q := fun p q hp hq => Ne.symm (e6.di naw hq hp)
  show zR E _ _ X 26 _ _ _ _ _ _ _
  refine r_g0 (fun g0 => ?_)
  refine r_aload_n qX3_init_26 rfl ?_
  refine r_cv0 (cu2 := 62) (su2 := 1150) qX3_init_27 kX3_21 rfl (by decide +kernel) (c := 1) (by assumption) (by decide) rfl rfl rfl rfl rfl rfl ?_
  refine c_X1_readSetup (a := a) ⟨⟨r1, r2, r4, r5⟩, r3, hCa, g0⟩ (L := fstL) p1 (by rw [fstL_e]; decide) eB fst_byt (fun z hz => by rw [p5 _ (aX _ (by omega)) (aR _ (by omega)), hia _ (by omega)]; exact e7 z hz) (fun c' w' he => by rw [fst_ok] at he; cases he) (fun t N he i6 q1 q2 q3 q4 => ?_)
  rw [fst_ok] at he
  cases he
  obtain ⟨q4, q5⟩ := q4
  show zR E _ _ X 30 _ _ _ _ _ _ _
  refine r_aload_n qX3_init_30 rfl ?_
  refine r_aload_n qX3_init_31 rfl ?_
  refine r_getr qX3_init_32 fX3_24 rfl (by assumption) (by first | assumption | rfl) ?_
  refine r_cv1 (cu2 := 62) (su2 := 1150) qX3_init_35 kX3_28 rfl (by decide +kernel) (c := 0) w2.1 (by decide) rfl rfl rfl rfl rfl rfl ?_
  refine c_X0_copyFrom (a := aw) (b := a) w2 hCa dis q3 (fun z hz => by rw [q5 _ (wR' _ (by omega)) (fun q hq => dis _ _ (by omega) hq), p5 _ (wX _ (by omega)) (wR' _ (by omega))]; exact w3 z hz) (fun i7 H7 o7 => ?_)
  show zR E _ _ X 38 _ _ _ _ _ _ _
  refine r_aload_n qX3_init_38 rfl ?_
  refine r_iconst (v := nI 0) qX3_init_39 (by decide) ?_
  refine r_puti qX3_init_40 fX3_32 (Or.inl rfl) rfl rfl rfl (by assumption) ?_
  refine K43 rd tx a aw g2 g4 _ j4 (F2c.trans (zNf.of wf F4) |>.ty hT (by decide)) r1 r2 r3 r4 r5 hCa w2 ?_ ?_ e6 naw ?_ ?_ ?_
  · intro z hz
    rw [wA_n (aR _ (by omega)), o7 _ (fun q hq => Ne.symm (dis q _ hq (by omega)))]
    exact q3.no z hz
  · exact H7.ou (fun q hq => wA_n (wR' q hq))
  · rw [wA_s, pk_us]
  · rw [wA_n xr, o7 _ (fun q hq => Ne.symm (wX q hq)), q5 _ xr (fun q hq => Ne.symm (aX q hq)), eB]
    exact fst_byt
  · refine (F2c.trans (zNf.of wf F4)).trans' (fun q hq => ?_)
    have x1 : q ≠ rd := fun e => hq (by rw [e]; exact rdf)
    have e8' : ∀ p, p < 30 → gT g (a p) = 0 := fun p hp => by
      have := e8 p hp
      rw [gT_wN] at this
      split at this
      · exact absurd this (by decide)
      · exact this
    have e9' : gT g tx = 0 := by
      have := e9
      rw [gT_wN] at this
      split at this
      · exact absurd this (by decide)
      · exact this
    have x2 : q ≠ tx := fun e => hq (by rw [e]; exact e9')
    have x3 : ∀ p, p < 30 → q ≠ a p := fun p hp e => hq (by rw [e]; exact e8' p hp)
    have x4 : ∀ p, p < 30 → q ≠ aw p := fun p hp e => hq (by
      have := naw p hp
      rw [e]
      exact F2c.fr this)
    rw [wA_n x1, o7 q x4, q5 q x1 x3, p5 q x2 x1]


