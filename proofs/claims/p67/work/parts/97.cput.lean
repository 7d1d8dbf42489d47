/-! ===== A CONSTANT TEXT INTO THE READER ===== -/
set_option maxHeartbeats 4000000 in
set_option maxRecDepth 20000 in
theorem c_X1_putText {E : Ev} {g : Sh} {i : Ni} {j : Nj} {K : Kp} {rd tx n : Nat} {q : String × Nat × String} (hq : zstr[n]? = some q) (hl : (zbyt q.2.2).length < 600) (hm : ∀ k, k < (zbyt q.2.2).length → ∃ m : Nat, m < 128 ∧ (zbyt q.2.2).getD k 0 = nI m) (r1 : gT g rd = 2) (r2 : gR g rd 0 = tx) (r3 : gT g tx = 12) (r4 : gL g tx = 600) (hf : i rd 2 = nI 0) (hK : ∀ i' : Ni, i' rd 2 = nI (zbyt q.2.2).length → (∀ k, k < (zbyt q.2.2).length → i' tx k = (zbyt q.2.2).getD k 0) → (∀ k, (zbyt q.2.2).length ≤ k → i' tx k = i tx k) → (∀ f, f ≠ 2 → i' rd f = i rd f) → (∀ r, r ≠ tx → r ≠ rd → i' r = i r) → K (.inl none) g i' j) : zCon E mX1_putText [.ref rd, .ref (eK E n + 1)] g i j K := by
  refine zcon_of (by decide +kernel) rfl rfl (lo := [.ref rd, .ref (eK E n + 1), zJ]) rfl (fun X => ?_)
  have rt : rd ≠ tx := fun e => by rw [e, r3] at r1; exact absurd r1 (by decide)
  have K2 : ∀ p z : Nat, p + z = (zbyt q.2.2).length → ∀ i1 : Ni, i1 rd 2 = nI z → (∀ k, k < z → i1 tx k = (zbyt q.2.2).getD k 0) → (∀ k, z ≤ k → i1 tx k = i tx k) → (∀ f, f ≠ 2 → i1 rd f = i rd f) → (∀ r, r ≠ tx → r ≠ rd → i1 r = i r) → zR E mX1_putText (zZ E mX1_putText K) X 2 [.ref rd, .ref (eK E n + 1), .int (nI z)] [] g i1 j 0 0 := by
    intro p
    induction p with
    | zero =>
      intro z hz i1 a1 a2 a3 a4 a5
      obtain rfl : z = (zbyt q.2.2).length := by omega
      refine r_iload_n qX1_putText_2 rfl ?_
      refine r_aload_n qX1_putText_3 rfl ?_
      refine r_cS (as := []) qX1_putText_4 kX1_33 rfl rfl rfl (by decide +kernel) hq rfl rfl rfl rfl rfl rfl ?_
      refine c_J0_length_8abf5 hq ?_
      show zR E _ _ X 7 _ _ _ _ _ _ _
      refine r_icmp_ge (t := 25) qX1_putText_7 (by decide) (fun hc7 => ?_) (fun hc7 => absurd hc7 (fun h => h (nI_le (Nat.le_refl _) (by omega))))
      refine r_vret qX1_putText_25 rfl rfl rfl ?_
      exact hK i1 a1 a2 a3 a4 a5
    | succ p ih =>
      intro z hz i1 a1 a2 a3 a4 a5
      obtain ⟨m, hm9, em⟩ := hm z (by omega)
      refine r_iload_n qX1_putText_2 rfl ?_
      refine r_aload_n qX1_putText_3 rfl ?_
      refine r_cS (as := []) qX1_putText_4 kX1_33 rfl rfl rfl (by decide +kernel) hq rfl rfl rfl rfl rfl rfl ?_
      refine c_J0_length_8abf5 hq ?_
      show zR E _ _ X 7 _ _ _ _ _ _ _
      refine r_icmp_ge (t := 25) qX1_putText_7 (by decide) (fun hc7 => absurd hc7 (nI_ge (by omega) (by omega))) (fun hc7 => ?_)
      refine r_aload_n qX1_putText_10 rfl ?_
      refine r_aload_n qX1_putText_11 rfl ?_
      refine r_iload_n qX1_putText_12 rfl ?_
      refine r_cS (as := [.int (nI z)]) qX1_putText_13 kX1_38 rfl rfl rfl (by decide +kernel) hq rfl rfl rfl rfl rfl rfl ?_
      refine c_J0_charAt_5068e hq (by omega) (by omega) em hm9 ?_
      show zR E _ _ X 16 _ _ _ _ _ _ _
      refine r_cv1 (cu2 := 0) (su2 := 0) qX1_putText_16 kX1_29 rfl (by decide +kernel) (c := 1) (by assumption) (by decide) rfl rfl rfl rfl rfl rfl ?_
      refine c_X1_putByte r1 r2 r3 r4 a1 (by omega) ?_
      rw [byt_nI hm9, byt_nI hm9]
      show zR E _ _ X 19 _ _ _ _ _ _ _
      refine r_ii_3_2 qX1_putText_19 rfl rfl (nI_inc z) ?_
      refine r_goto (t := 2) qX1_putText_22 (by decide) ?_
      refine ih (z + 1) (by omega) _ (by rw [wA_s, pk_us]) (fun k hk => ?_) (fun k hk => by rw [wA_n (Ne.symm rt), wA_s, pk_un (by omega)]; exact a3 k (by omega)) (fun f hf => by rw [wA_s, pk_un hf]; exact a4 f hf) (fun r h1 h2 => by rw [wA_n h2, wA_n h1]; exact a5 r h1 h2)
      rw [wA_n (Ne.symm rt), wA_s]
      by_cases e : k = z
      · rw [e, pk_us, em]
      · rw [pk_un e]; exact a2 k (by omega)
  refine r_iconst (v := nI 0) qX1_putText_0 (by decide) ?_
  refine r_is_3_2 qX1_putText_1 rfl rfl ?_
  exact K2 (zbyt q.2.2).length 0 rfl i hf (fun k hk => absurd hk (Nat.not_lt_zero k)) (fun _ _ => rfl) (fun _ _ => rfl) (fun _ _ _ => rfl)


