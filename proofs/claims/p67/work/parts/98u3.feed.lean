/-! ===== P67: FEEDING A TEXT ===== -/
def md (W : List Int32) (p : Nat) : Nat := (W.getD p 0).toInt.toNat
theorem md_in {W : List Int32} (h : ∀ c ∈ W, zCh c) (p : Nat) : W.getD p 0 = nI (md W p) ∧ md W p < 128 := by
  have hz : zCh (W.getD p 0) := by
    by_cases hp : p < W.length
    · rw [List.getD_eq_getElem?_getD, List.getElem?_eq_getElem hp]
      exact h _ (List.getElem_mem _)
    · rw [List.getD_eq_getElem?_getD, List.getElem?_eq_none (by omega)]
      exact ⟨0, by decide, rfl⟩
  obtain ⟨m, hm, e⟩ := hz
  have e2 : md W p = m := by rw [md, e, nI_toInt (by omega)]; rfl
  rw [e2]
  exact ⟨e, hm⟩
theorem or_sum {a b : Nat} (h : a < 256) (hb : 256 * b + a < 2 ^ 32) : nI (256 * b) ||| nI a = nI (256 * b + a) := by
  have e : ∀ x, x < 2 ^ 32 → (nI x).toBitVec.toNat = x := fun x hx => by
    show (BitVec.ofNat 32 x).toNat = x
    rw [BitVec.toNat_ofNat]
    exact Nat.mod_eq_of_lt hx
  refine Int32.toBitVec_inj.mp (BitVec.eq_of_toNat_eq ?_)
  rw [Int32.toBitVec_or, BitVec.toNat_or, e _ (by omega), e _ (by omega), e _ hb]
  exact (Nat.two_pow_add_eq_or_of_lt (i := 8) h b).symm
/-- four bytes in one, the first k of them -/
def fn (W : List Int32) (at_ : Nat) : Nat → Nat
  | 0 => 0
  | k + 1 => 256 * fn W at_ k + md W (at_ + k)
theorem fn_lt {W : List Int32} (h : ∀ c ∈ W, zCh c) (t : Nat) : fn W t 1 < 2 ^ 7 ∧ fn W t 2 < 2 ^ 15 ∧ fn W t 3 < 2 ^ 23 ∧ fn W t 4 < 2 ^ 31 := by
  have h0 := (md_in h (t + 0)).2
  have h1 := (md_in h (t + 1)).2
  have h2 := (md_in h (t + 2)).2
  have h3 := (md_in h (t + 3)).2
  simp only [fn]
  omega
theorem fn_3 {W : List Int32} (h : ∀ c ∈ W, zCh c) (t : Nat) {k : Nat} (hk : k < 4) : fn W t k < 2 ^ 23 := by
  obtain ⟨h1, h2, h3, -⟩ := fn_lt h t
  rcases (show k = 0 ∨ k = 1 ∨ k = 2 ∨ k = 3 by omega) with rfl | rfl | rfl | rfl
  · rw [fn]; decide
  · omega
  · omega
  · omega
theorem fn_step {W : List Int32} (h : ∀ c ∈ W, zCh c) (t : Nat) {k : Nat} (hk : k < 4) : nI (fn W t k) <<< (nI 8 &&& 31) ||| W.getD (t + k) 0 = nI (fn W t (k + 1)) := by
  have h1 := fn_3 h t hk
  obtain ⟨e, h2⟩ := md_in h (t + k)
  rw [pk_shlN (nI 8 &&& 31) 8 (by decide) (by omega), e, show fn W t k * 2 ^ 8 = 256 * fn W t k by omega, or_sum (by omega) (by omega), fn]
theorem byt_mod {m : Nat} (hm : m < 2 ^ 31) (h : m % 256 < 128) : (nI m).toInt8.toInt32 = nI (m % 256) := by
  refine Int32.toInt_inj.mp ?_
  rw [Int8.toInt_toInt32, Int32.toInt_toInt8, nI_toInt hm, nI_toInt (by omega), Int.bmod_def]
  split <;> omega
theorem sByt_n {n w : Nat} (hn : n < 2 ^ 31) (hs : ((nI w &&& 31).toBitVec.smod 32).toNat = w) (h : n / 2 ^ w % 256 < 128) : sByt (nI n) w = nI (n / 2 ^ w % 256) := by
  have hd : n / 2 ^ w < 2 ^ 31 := Nat.lt_of_le_of_lt (Nat.div_le_self _ _) hn
  rw [sByt, pk_shrN hn (nI w &&& 31) w hs, byt_mod hd h, byt_mod (by omega) (by omega), Nat.mod_mod]
theorem store_at {W : List Int32} (h : ∀ c ∈ W, zCh c) {P : Nat → Int32} {f : Nat} (hP : ∀ q, q < f → P q = W.getD q 0) : ∀ q, q < f + 4 → sStore P f (nI (fn W f 4)) q = W.getD q 0 := by
  obtain ⟨-, -, -, h4⟩ := fn_lt h f
  obtain ⟨e0, m0⟩ := md_in h (f + 0)
  obtain ⟨e1, m1⟩ := md_in h (f + 1)
  obtain ⟨e2, m2⟩ := md_in h (f + 2)
  obtain ⟨e3, m3⟩ := md_in h (f + 3)
  have eF : fn W f 4 = 256 * (256 * (256 * (256 * 0 + md W (f + 0)) + md W (f + 1)) + md W (f + 2)) + md W (f + 3) := by simp only [fn]
  have s0 : fn W f 4 / 2 ^ 24 % 256 = md W (f + 0) := by rw [eF]; omega
  have s1 : fn W f 4 / 2 ^ 16 % 256 = md W (f + 1) := by rw [eF]; omega
  have s2 : fn W f 4 / 2 ^ 8 % 256 = md W (f + 2) := by rw [eF]; omega
  have s3 : fn W f 4 / 2 ^ 0 % 256 = md W (f + 3) := by rw [eF]; omega
  have b0 := sByt_n h4 (w := 24) (by decide) (by rw [s0]; exact m0)
  have b1 := sByt_n h4 (w := 16) (by decide) (by rw [s1]; exact m1)
  have b2 := sByt_n h4 (w := 8) (by decide) (by rw [s2]; exact m2)
  have b3 := sByt_n h4 (w := 0) (by decide) (by rw [s3]; exact m3)
  rw [s0, ← e0] at b0
  rw [s1, ← e1] at b1
  rw [s2, ← e2] at b2
  rw [s3, ← e3] at b3
  intro q hq
  rw [sStore, b0, b1, b2, b3]
  by_cases q3 : q = f + 3
  · rw [q3, pk_us]
  rw [pk_un q3]
  by_cases q2 : q = f + 2
  · rw [q2, pk_us]
  rw [pk_un q2]
  by_cases q1 : q = f + 1
  · rw [q1, pk_us]
  rw [pk_un q1]
  by_cases q0 : q = f
  · rw [q0, pk_us, Nat.add_zero]
  rw [pk_un q0]
  exact hP q (by omega)
theorem sByt_in (v : Int32) (w : Nat) : zIn (sByt v w) (-128) 127 := by
  rw [sByt, zIn, Int8.toInt_toInt32]
  have h1 := Int8.le_toInt ((v >>> (nI w &&& 31)).toInt8.toInt32).toInt8
  have h2 := Int8.toInt_lt ((v >>> (nI w &&& 31)).toInt8.toInt32).toInt8
  constructor <;> omega
theorem zByt.up {P : Nat → Int32} {k : Nat} {v : Int32} (h : zByt P) (hv : zIn v (-128) 127) : zByt (upd P k v) := fun q => by
  by_cases e : q = k
  · rw [e, pk_us]; exact hv
  · rw [pk_un e]; exact h q
theorem zByt.store {P : Nat → Int32} {f : Nat} {v : Int32} (h : zByt P) : zByt (sStore P f v) := (((h.up (sByt_in _ _)).up (sByt_in _ _)).up (sByt_in _ _)).up (sByt_in _ _)
theorem zByt.app {P : Nat → Int32} {f : Nat} {a0 a1 a2 a3 a4 : Int32} (h : zByt P) : zByt (sApp P f a0 a1 a2 a3 a4) := h.store.store.store.store.store
theorem app_at {W : List Int32} (h : ∀ c ∈ W, zCh c) {P : Nat → Int32} {f : Nat} (hP : ∀ q, q < f → P q = W.getD q 0) : ∀ q, q < f + 20 → sApp P f (nI (fn W f 4)) (nI (fn W (f + 4) 4)) (nI (fn W (f + 8) 4)) (nI (fn W (f + 12) 4)) (nI (fn W (f + 16) 4)) q = W.getD q 0 :=
  store_at h (f := f + 16) (store_at h (f := f + 12) (store_at h (f := f + 8) (store_at h (f := f + 4) (store_at h hP))))
set_option maxHeartbeats 4000000 in
set_option maxRecDepth 20000 in
theorem c_L_four {E : Ev} {g : Sh} {i : Ni} {j : Nj} {K : Kp} {r t : Nat} {W : List Int32} (hS : zQs E g i r W) (hl : W.length < 600) (hch : ∀ c ∈ W, zCh c) (ht : t < 600) (hK : K (.inl (some (.int (nI (fn W t 4))))) g i j) : zCon E mL_four [.ref r, .int (nI t)] g i j K := by
  refine zcon_of (by decide +kernel) rfl rfl (lo := [.ref r, .int (nI t), zJ, zJ]) rfl (fun X => ?_)
  have KL : ∀ q k : Nat, k + q = 4 → zR E mL_four (zZ E mL_four K) X 4 [.ref r, .int (nI t), .int (nI (fn W t k)), .int (nI k)] [] g i j 0 0 := by
    intro q
    induction q with
    | zero =>
      intro k hk
      obtain rfl : k = 4 := by omega
      refine r_iload_n qL_four_4 rfl ?_
      refine r_iconst (v := nI 4) qL_four_5 (by decide) ?_
      refine r_icmp_ge (t := 42) qL_four_6 (by decide) (fun hc6 => ?_) (fun hc6 => absurd hc6 (fun h => h (Int32.le_refl _)))
      refine r_iload_n qL_four_42 rfl ?_
      refine r_iret qL_four_43 rfl rfl rfl rfl ?_
      exact hK
    | succ q ih =>
      intro k hk
      obtain ⟨m1, m2⟩ := md_in hch (t + k)
      have es := fn_step hch t (k := k) (by omega)
      have ih' := ih (k + 1) (by omega)
      by_cases hp : t + k < W.length
      · skip
        refine r_iload_n qL_four_4 rfl ?_
        refine r_iconst (v := nI 4) qL_four_5 (by decide) ?_
        refine r_icmp_ge (t := 42) qL_four_6 (by decide) (fun hc6 => absurd hc6 (nI_ge (show k < 4 by omega) (by omega))) (fun hc6 => ?_)
        refine r_iload_n qL_four_9 rfl ?_
        refine r_bipush (v := nI 8) qL_four_10 (by decide) ?_
        refine r_ishl qL_four_12 ?_
        refine r_iload_n qL_four_13 rfl ?_
        refine r_iload_n qL_four_14 rfl ?_
        first | with_reducible refine r_iaddN qL_four_15 ?_ | refine r_iadd qL_four_15 ?_
        refine r_aload_n qL_four_16 rfl ?_
        refine r_cQ (as := []) (cu2 := 0) (su2 := 0) qL_four_17 kL_8 rfl rfl rfl (by decide +kernel) hS rfl rfl rfl rfl rfl rfl ?_
        refine c_Q_length hS ?_
        show zR E _ _ X 20 _ _ _ _ _ _ _
        refine r_icmp_ge (t := 33) qL_four_20 (by decide) (fun hc20 => absurd hc20 (nI_ge hp (by omega))) (fun hc20 => ?_)
        refine r_aload_n qL_four_23 rfl ?_
        refine r_iload_n qL_four_24 rfl ?_
        refine r_iload_n qL_four_25 rfl ?_
        first | with_reducible refine r_iaddN qL_four_26 ?_ | refine r_iadd qL_four_26 ?_
        refine r_cQ (as := [.int (nI (t + k))]) (cu2 := 0) (su2 := 0) qL_four_27 kL_14 rfl rfl rfl (by decide +kernel) hS rfl rfl rfl rfl rfl rfl ?_
        refine c_Q_charAt hS hp (by omega) m1 m2 ?_
        show zR E _ _ X 30 _ _ _ _ _ _ _
        rw [← m1]
        refine r_goto (t := 34) qL_four_30 (by decide) ?_
        refine r_ior qL_four_34 ?_
        rw [es]
        refine r_is_4_2 qL_four_35 rfl rfl ?_
        refine r_ii_4_3 qL_four_36 rfl rfl (nI_inc k) ?_
        refine r_goto (t := 4) qL_four_39 (by decide) ?_
        exact ih'
      · have e0 : W.getD (t + k) 0 = nI 0 := by rw [List.getD_eq_getElem?_getD, List.getElem?_eq_none (by omega)]; rfl
        rw [e0] at es
        refine r_iload_n qL_four_4 rfl ?_
        refine r_iconst (v := nI 4) qL_four_5 (by decide) ?_
        refine r_icmp_ge (t := 42) qL_four_6 (by decide) (fun hc6 => absurd hc6 (nI_ge (show k < 4 by omega) (by omega))) (fun hc6 => ?_)
        refine r_iload_n qL_four_9 rfl ?_
        refine r_bipush (v := nI 8) qL_four_10 (by decide) ?_
        refine r_ishl qL_four_12 ?_
        refine r_iload_n qL_four_13 rfl ?_
        refine r_iload_n qL_four_14 rfl ?_
        first | with_reducible refine r_iaddN qL_four_15 ?_ | refine r_iadd qL_four_15 ?_
        refine r_aload_n qL_four_16 rfl ?_
        refine r_cQ (as := []) (cu2 := 0) (su2 := 0) qL_four_17 kL_8 rfl rfl rfl (by decide +kernel) hS rfl rfl rfl rfl rfl rfl ?_
        refine c_Q_length hS ?_
        show zR E _ _ X 20 _ _ _ _ _ _ _
        refine r_icmp_ge (t := 33) qL_four_20 (by decide) (fun hc20 => ?_) (fun hc20 => absurd hc20 (fun h => h (nI_le (by omega) (by omega))))
        refine r_iconst (v := nI 0) qL_four_33 (by decide) ?_
        refine r_ior qL_four_34 ?_
        rw [es]
        refine r_is_4_2 qL_four_35 rfl rfl ?_
        refine r_ii_4_3 qL_four_36 rfl rfl (nI_inc k) ?_
        refine r_goto (t := 4) qL_four_39 (by decide) ?_
        exact ih'
  refine r_iconst (v := nI 0) qL_four_0 (by decide) ?_
  refine r_is_4_2 qL_four_1 rfl rfl ?_
  refine r_iconst (v := nI 0) qL_four_2 (by decide) ?_
  refine r_is_4_3 qL_four_3 rfl rfl ?_
  exact KL 4 0 (by omega)
theorem zMd.keep {g : Sh} {i i' : Ni} {u rd tx : Nat} {L : List Int32} (h : zMd g i u L) (h2 : gT g rd = 2) (h12 : gT g tx = 12) (hne : gR g u 0 ≠ tx) (ho : ∀ q, q ≠ rd → q ≠ tx → i' q = i q) : zMd g i' u L := by
  obtain ⟨m1, m2, m3, m4, m5⟩ := h
  have n1 : u ≠ rd := fun e => by rw [e, h2] at m1; exact absurd m1 (by decide)
  have n2 : u ≠ tx := fun e => by rw [e, h12] at m1; exact absurd m1 (by decide)
  have n3 : gR g u 0 ≠ rd := fun e => by rw [e, h2] at m3; exact absurd m3 (by decide)
  exact ⟨m1, by rw [ho u n1 n2]; exact m2, m3, m4, fun k hk => by rw [ho _ n3 hne]; exact m5 k hk⟩
theorem jmin_n {a b : Nat} (h : b ≤ a) (ha : a < 2 ^ 31) : jmin (nI a) (nI b) = nI b := by
  rw [jmin]
  split
  · rfl
  · rename_i h2
    have h3 : ¬ b < a := fun h3 => h2 (nI_lt h3 ha)
    rw [show a = b by omega]
set_option maxHeartbeats 4000000 in
set_option maxRecDepth 20000 in
theorem c_L_feed {E : Ev} {g : Sh} {i : Ni} {j : Nj} {K : Kp} {c rd tx ur sl sf sb r : Nat} {A : Nat → Nat → Nat} {W : List Int32} (hY : zY g c rd tx ur sl sf sb A) (h0 : i rd 2 = nI 0) (hS : zMd g i r W) (hne : gR g r 0 ≠ tx) (hl : W.length ≤ 349) (h1 : 1 ≤ W.length) (hch : ∀ c ∈ W, zCh c) (hB : zByt (i tx)) (hK : ∀ i' : Ni, i' rd 2 = nI W.length → (∀ k, k < W.length → i' tx k = W.getD k 0) → zByt (i' tx) → (∀ f, f ≠ 2 → i' rd f = i rd f) → (∀ q, q ≠ rd → q ≠ tx → i' q = i q) → K (.inl none) g i' j) : zCon E mL_feed [.ref c, .ref r] g i j K := by
  refine zcon_of (by decide +kernel) rfl rfl (lo := [.ref c, .ref r, zJ, zJ]) rfl (fun X => ?_)
  have x1 := hY.1
  obtain ⟨x2, r1, r2, -, r3, r4⟩ := hY.rdd
  have rt : rd ≠ tx := by rintro rfl; omega
  have KE : ∀ (k : Nat) (i1 : Ni), W.length ≤ k → k ≤ 368 → i1 rd 2 = nI k → (∀ q, q < k → i1 tx q = W.getD q 0) → zByt (i1 tx) → (∀ f, f ≠ 2 → i1 rd f = i rd f) → (∀ q, q ≠ rd → q ≠ tx → i1 q = i q) → ∀ CU SU : Nat, CU ≤ 30 → SU ≤ 200 → zR E mL_feed (zZ E mL_feed K) X 4 [.ref c, .ref r, .int (nI k), .int (nI k)] [] g i1 j CU SU := by
    intro k i1 hk hk3 k1 k2 k3 k4 k5 CU SU hCU hSU
    have hS1 := hS.keep r1 r3 hne k5
    have eL := nI_toInt (n := W.length) (by omega)
    refine r_iload_n qL_feed_4 rfl ?_
    refine r_aload_n qL_feed_5 rfl ?_
    refine r_cQ (as := []) (cu2 := CU) (su2 := SU) qL_feed_6 kL_8 rfl rfl rfl (by decide +kernel) hS1.q rfl rfl rfl rfl (lbx (m := 40) rfl (by omega)) (lbx (m := 240) rfl (by omega)) ?_
    refine c_Q_length hS1.q ?_
    show zR E _ _ X 9 _ _ _ _ _ _ _
    refine r_icmp_lt (t := 16) qL_feed_9 (by decide) (fun hc9 => absurd hc9 (fun h => absurd h (Int32.not_lt.mpr (nI_le hk (by omega))))) (fun hc9 => ?_)
    refine r_iload_n qL_feed_12 rfl ?_
    refine r_if_ne (t := 63) qL_feed_13 (by decide) (fun hc13 => ?_) (fun hc13 => absurd hc13 (nI_ne0 (by omega) (by omega)))
    refine r_aload_n qL_feed_63 rfl ?_
    refine r_iload_n qL_feed_64 rfl ?_
    refine r_aload_n qL_feed_65 rfl ?_
    refine r_cQ (as := []) (cu2 := CU) (su2 := SU) qL_feed_66 kL_8 rfl rfl rfl (by decide +kernel) hS1.q rfl rfl rfl rfl (lbx (m := 40) rfl (by omega)) (lbx (m := 240) rfl (by omega)) ?_
    refine c_Q_length hS1.q ?_
    show zR E _ _ X 69 _ _ _ _ _ _ _
    refine r_mmin qL_feed_69 kL_30 rfl rfl (lbx (m := 40) rfl (by omega)) (lbx (m := 240) rfl (by omega)) ?_
    rw [jmin_n hk (by omega)]
    refine r_cv1 (cu2 := CU + 1) (su2 := SU + 6) qL_feed_72 kL_36 rfl (by decide +kernel) (c := 3) (by assumption) (by decide) rfl rfl rfl rfl (lbx (m := 40) rfl (by omega)) (lbx (m := 240) rfl (by omega)) ?_
    refine c_X3_truncate (N := fun _ => 0) hY k1 (by omega) (fun hn => absurd ⟨by omega, by omega⟩ hn) (fun _ => ?_)
    show zR E _ _ X 75 _ _ _ _ _ _ _
    refine r_pop qL_feed_75 rfl ?_
    refine r_vret qL_feed_76 rfl (lbx (m := 40) rfl (by omega)) (lbx (m := 240) rfl (by omega)) ?_
    exact hK _ (by rw [wA_s, pk_us]) (fun q hq => by rw [wA_n (Ne.symm rt)]; exact k2 q (by omega)) (by rw [wA_n (Ne.symm rt)]; exact k3) (fun f hf => by rw [wA_s, pk_un hf]; exact k4 f hf) (fun q q1 q2 => by rw [wA_n q1]; exact k5 q q1 q2)
  have KL : ∀ (n k : Nat) (i1 : Ni), W.length ≤ k + 20 * n → k + 20 * n ≤ 360 → (0 < k ∨ 0 < n) → i1 rd 2 = nI k → (∀ q, q < k → i1 tx q = W.getD q 0) → zByt (i1 tx) → (∀ f, f ≠ 2 → i1 rd f = i rd f) → (∀ q, q ≠ rd → q ≠ tx → i1 q = i q) → ∀ CU SU : Nat, CU + n ≤ 20 → SU + 6 * n ≤ 120 → zR E mL_feed (zZ E mL_feed K) X 4 [.ref c, .ref r, .int (nI k), .int (nI k)] [] g i1 j CU SU := by
    intro n
    induction n with
    | zero =>
      intro k i1 hk hk3 hp k1 k2 k3 k4 k5 CU SU hCU hSU
      exact KE k i1 (by omega) (by omega) k1 k2 k3 k4 k5 CU SU (by omega) (by omega)
    | succ n ih =>
      intro k i1 hk hk3 hp k1 k2 k3 k4 k5 CU SU hCU hSU
      by_cases hd : W.length ≤ k
      · exact KE k i1 hd (by omega) k1 k2 k3 k4 k5 CU SU (by omega) (by omega)
      have hS1 := hS.keep r1 r3 hne k5
      refine r_iload_n qL_feed_4 rfl ?_
      refine r_aload_n qL_feed_5 rfl ?_
      refine r_cQ (as := []) (cu2 := CU) (su2 := SU) qL_feed_6 kL_8 rfl rfl rfl (by decide +kernel) hS1.q rfl rfl rfl rfl (lbx (m := 40) rfl (by omega)) (lbx (m := 240) rfl (by omega)) ?_
      refine c_Q_length hS1.q ?_
      show zR E _ _ X 9 _ _ _ _ _ _ _
      refine r_icmp_lt (t := 16) qL_feed_9 (by decide) (fun hc9 => ?_) (fun hc9 => absurd hc9 (fun h => h (nI_lt (show k < W.length by omega) (by omega))))
      refine r_aload_n qL_feed_16 rfl ?_
      refine r_aload_n qL_feed_17 rfl ?_
      refine r_iload_n qL_feed_18 rfl ?_
      refine r_cs2 (cu2 := CU) (su2 := SU) qL_feed_19 kL_18 rfl (by decide +kernel) rfl rfl rfl (lbx (m := 40) rfl (by omega)) (lbx (m := 240) rfl (by omega)) ?_
      refine c_L_four hS1.q (by omega) hch (by omega) ?_
      show zR E _ _ X 22 _ _ _ _ _ _ _
      refine r_aload_n qL_feed_22 rfl ?_
      refine r_iload_n qL_feed_23 rfl ?_
      refine r_iconst (v := nI 4) qL_feed_24 (by decide) ?_
      first | with_reducible refine r_iaddN qL_feed_25 ?_ | refine r_iadd qL_feed_25 ?_
      refine r_cs2 (cu2 := CU) (su2 := SU) qL_feed_26 kL_18 rfl (by decide +kernel) rfl rfl rfl (lbx (m := 40) rfl (by omega)) (lbx (m := 240) rfl (by omega)) ?_
      refine c_L_four hS1.q (by omega) hch (by omega) ?_
      show zR E _ _ X 29 _ _ _ _ _ _ _
      refine r_aload_n qL_feed_29 rfl ?_
      refine r_iload_n qL_feed_30 rfl ?_
      refine r_bipush (v := nI 8) qL_feed_31 (by decide) ?_
      first | with_reducible refine r_iaddN qL_feed_33 ?_ | refine r_iadd qL_feed_33 ?_
      refine r_cs2 (cu2 := CU) (su2 := SU) qL_feed_34 kL_18 rfl (by decide +kernel) rfl rfl rfl (lbx (m := 40) rfl (by omega)) (lbx (m := 240) rfl (by omega)) ?_
      refine c_L_four hS1.q (by omega) hch (by omega) ?_
      show zR E _ _ X 37 _ _ _ _ _ _ _
      refine r_aload_n qL_feed_37 rfl ?_
      refine r_iload_n qL_feed_38 rfl ?_
      refine r_bipush (v := nI 12) qL_feed_39 (by decide) ?_
      first | with_reducible refine r_iaddN qL_feed_41 ?_ | refine r_iadd qL_feed_41 ?_
      refine r_cs2 (cu2 := CU) (su2 := SU) qL_feed_42 kL_18 rfl (by decide +kernel) rfl rfl rfl (lbx (m := 40) rfl (by omega)) (lbx (m := 240) rfl (by omega)) ?_
      refine c_L_four hS1.q (by omega) hch (by omega) ?_
      show zR E _ _ X 45 _ _ _ _ _ _ _
      refine r_aload_n qL_feed_45 rfl ?_
      refine r_iload_n qL_feed_46 rfl ?_
      refine r_bipush (v := nI 16) qL_feed_47 (by decide) ?_
      first | with_reducible refine r_iaddN qL_feed_49 ?_ | refine r_iadd qL_feed_49 ?_
      refine r_cs2 (cu2 := CU) (su2 := SU) qL_feed_50 kL_18 rfl (by decide +kernel) rfl rfl rfl (lbx (m := 40) rfl (by omega)) (lbx (m := 240) rfl (by omega)) ?_
      refine c_L_four hS1.q (by omega) hch (by omega) ?_
      show zR E _ _ X 53 _ _ _ _ _ _ _
      refine r_cv5 (cu2 := CU + 1) (su2 := SU + 6) qL_feed_53 kL_24 rfl (by decide +kernel) (c := 3) (by assumption) (by decide) rfl rfl rfl rfl (lbx (m := 40) rfl (by omega)) (lbx (m := 240) rfl (by omega)) ?_
      refine c_X3_append (N := fun _ => 0) hY k1 (by omega) (fun hn => absurd (show k + 20 ≤ 600 by omega) hn) (fun _ i2 a1 a2 a3 => ?_)
      show zR E _ _ X 56 _ _ _ _ _ _ _
      refine r_is_4_2 qL_feed_56 rfl rfl ?_
      refine r_ii_4_3 qL_feed_57 rfl rfl (show nI k + Int32.ofInt 20 = nI (k + 20) by rw [show Int32.ofInt 20 = nI 20 by decide]; exact nI_add k 20) ?_
      refine r_goto (t := 4) qL_feed_60 (by decide) ?_
      exact ih (k + 20) i2 (by omega) (by omega) (Or.inl (by omega)) (by rw [a1, pk_us]) (by rw [a2]; exact app_at hch k2) (by rw [a2]; exact k3.app) (fun f hf => by rw [a1, pk_un hf]; exact k4 f hf) (fun q q1 q2 => (a3 q q1 q2).trans (k5 q q1 q2)) _ _ (by omega) (by omega)
  refine r_iconst (v := nI 0) qL_feed_0 (by decide) ?_
  refine r_is_4_2 qL_feed_1 rfl rfl ?_
  refine r_iconst (v := nI 0) qL_feed_2 (by decide) ?_
  refine r_is_4_3 qL_feed_3 rfl rfl ?_
  exact KL 18 0 i (by omega) (by omega) (Or.inr (by decide)) h0 (fun q hq => absurd hq (Nat.not_lt_zero q)) hB (fun _ _ => rfl) (fun _ _ _ => rfl) 0 0 (by omega) (by omega)

