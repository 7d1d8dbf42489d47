/-! ===== THE MODEL'S PARSER: faults, the text's start ===== -/
theorem sRun_le (c : Int32 → Bool) (B : Nat → Int32) (L : Nat) : ∀ q p, p ≤ L → sRun c B L q p ≤ L
  | 0, p, h => h
  | q + 1, p, h => by
    rw [sRun]
    split
    · rename_i h2; exact sRun_le c B L q (p + 1) (by omega)
    · exact h
theorem sEnd_le (B : Nat → Int32) (L s : Nat) (h : s ≤ L) : sEnd B L s ≤ L := by
  rw [sEnd]
  split
  · exact h
  · split
    · exact sRun_le _ _ _ _ _ h
    · split
      · exact sRun_le _ _ _ _ _ h
      · omega
/-- where the token behind that at s begins -/
def sNext (B : Nat → Int32) (L s : Nat) : Nat := sSkip B L (L - sEnd B L s) (sEnd B L s)
theorem sNext_le (B : Nat → Int32) (L s : Nat) (h : s ≤ L) : sNext B L s ≤ L := sSkip_le B L _ _ (sEnd_le B L s h)
/-- the model has told an error: code v at place w -/
def zBad (i : Ni) (x : Nat) (v w : Int32) : Ni := wA i x (upd (upd (i x) 12 v) 13 w)
set_option maxHeartbeats 4000000 in
set_option maxRecDepth 20000 in
theorem c_X4_fault {E : Ev} {g : Sh} {i : Ni} {j : Nj} {K : Kp} {x : Nat} {v : Int32} (h1 : gT g x = 5) (h0 : i x 12 = 0) (hK : K (.inl none) g (zBad i x v (i x 8)) j) : zCon E mX4_fault [.ref x, .int v] g i j K := by
  refine zcon_of (by decide +kernel) rfl rfl (lo := [.ref x, .int v]) rfl (fun X => ?_)
  refine r_aload_n qX4_fault_0 rfl ?_
  refine r_geti qX4_fault_1 fX4_250 rfl (by assumption) ?_
  rw [h0]
  refine r_if_ne (t := 20) qX4_fault_4 (by decide) (fun hc4 => absurd hc4 (fun h => h rfl)) (fun hc4 => ?_)
  refine r_aload_n qX4_fault_7 rfl ?_
  refine r_iload_n qX4_fault_8 rfl ?_
  refine r_puti qX4_fault_9 fX4_250 (Or.inl rfl) rfl rfl rfl (by assumption) ?_
  refine r_aload_n qX4_fault_12 rfl ?_
  refine r_aload_n qX4_fault_13 rfl ?_
  refine r_geti qX4_fault_14 fX4_223 rfl (by assumption) ?_
  rw [wA_s, pk_un (by decide)]
  refine r_puti qX4_fault_17 fX4_256 (Or.inl rfl) rfl rfl rfl (by assumption) ?_
  simp only [wA_s, wA_wA]
  refine r_vret qX4_fault_20 rfl rfl rfl ?_
  exact hK
set_option maxHeartbeats 4000000 in
set_option maxRecDepth 20000 in
theorem c_X4_requireNot {E : Ev} {g : Sh} {i : Ni} {j : Nj} {K : Kp} {x : Nat} {P : Prop} {dP : Decidable P} {v : Int32} (h1 : gT g x = 5) (hK : K (.inl none) g (if i x 12 = 0 ∧ P then zBad i x v (i x 8) else i) j) : zCon E mX4_requireNot [.ref x, .int (zb P), .int v] g i j K := by
  refine zcon_of (by decide +kernel) rfl rfl (lo := [.ref x, .int (zb P), .int v]) rfl (fun X => ?_)
  refine r_aload_n qX4_requireNot_0 rfl ?_
  refine r_cv0 (cu2 := 0) (su2 := 0) qX4_requireNot_1 kX4_269 rfl (by decide +kernel) (c := 4) (by assumption) (by decide) rfl rfl rfl rfl rfl rfl ?_
  refine c_X4_isGood (by first | assumption | omega | rfl | decide) ?_
  show zR E _ _ X 4 _ _ _ _ _ _ _
  refine r_if_eq (t := 16) qX4_requireNot_4 (by decide) (fun hc4 => ?_) (fun hc4 => ?_)
  · rw [if_neg (fun h => zb_0.mp hc4 h.1)] at hK
    refine r_vret qX4_requireNot_16 rfl rfl rfl ?_
    exact hK
  · refine r_iload_n qX4_requireNot_7 rfl ?_
    refine r_if_eq (t := 16) qX4_requireNot_8 (by decide) (fun hc8 => ?_) (fun hc8 => ?_)
    · rw [if_neg (fun h => zb_0.mp hc8 h.2)] at hK
      refine r_vret qX4_requireNot_16 rfl rfl rfl ?_
      exact hK
    · rw [if_pos ⟨zb_ne.mp hc4, zb_ne.mp hc8⟩] at hK
      refine r_aload_n qX4_requireNot_11 rfl ?_
      refine r_iload_n qX4_requireNot_12 rfl ?_
      refine r_cv1 (cu2 := 0) (su2 := 0) qX4_requireNot_13 kX4_273 rfl (by decide +kernel) (c := 4) (by assumption) (by decide) rfl rfl rfl rfl rfl rfl ?_
      refine c_X4_fault h1 (zb_ne.mp hc4) ?_
      show zR E _ _ X 16 _ _ _ _ _ _ _
      refine r_vret qX4_requireNot_16 rfl rfl rfl ?_
      exact hK
set_option maxHeartbeats 4000000 in
set_option maxRecDepth 20000 in
theorem c_X4_startText {E : Ev} {g : Sh} {i : Ni} {j : Nj} {K : Kp} {x n d b p s o L : Nat} (hW : zW g x n d b p s o) (hL : i x 5 = nI L) (hL6 : L ≤ 600) (hBy : zByt (i b)) (hK : ∀ (i' : Ni) (j' : Nj), zTok (i' x) (j' x) (i b) L (sSkip (i b) L L 0) → i' x 12 = 0 → (∀ m, m ≠ 6 → m ≠ 7 → m ≠ 8 → m ≠ 9 → m ≠ 11 → m ≠ 12 → i' x m = i x m) → (∀ r, r ≠ x → i' r = i r) → (∀ m, m ≠ 10 → j' x m = j x m) → (∀ r, r ≠ x → j' r = j r) → K (.inl none) g i' j') : zCon E mX4_startText [.ref x] g i j K := by
  refine zcon_of (by decide +kernel) rfl rfl (lo := [.ref x]) rfl (fun X => ?_)
  have w1 := hW.1
  obtain ⟨bx, w8, w9⟩ := hW.bb
  refine r_aload_n qX4_startText_0 rfl ?_
  refine r_iconst (v := nI 0) qX4_startText_1 (by decide) ?_
  refine r_puti qX4_startText_2 fX4_217 (Or.inl rfl) rfl rfl rfl (by assumption) ?_
  refine r_aload_n qX4_startText_5 rfl ?_
  refine r_iconst (v := nI 0) qX4_startText_6 (by decide) ?_
  refine r_puti qX4_startText_7 fX4_250 (Or.inl rfl) rfl rfl rfl (by assumption) ?_
  simp only [wA_s, wA_wA]
  refine r_aload_n qX4_startText_10 rfl ?_
  refine r_cv0 (cu2 := 0) (su2 := 0) qX4_startText_11 kX4_253 rfl (by decide +kernel) (c := 4) (by assumption) (by decide) rfl rfl rfl rfl rfl rfl ?_
  refine c_X4_goOn hW (L := L) (a := 0) (by rw [wA_s, pk_un (by decide), pk_un (by decide)]; exact hL) hL6 (by rw [wA_s, pk_un (by decide), pk_us]; first | done | rfl) (by omega) (by rw [wA_n bx]; exact hBy) (fun i2 j2 z1 z2 => ?_)
  show zR E _ _ X 14 _ _ _ _ _ _ _
  refine r_vret qX4_startText_14 rfl rfl rfl ?_
  rw [wA_n bx] at z1; exact hK i2 j2 z1 (by rw [z2.1 12 (by decide) (by decide) (by decide) (by decide) (by decide), wA_s, pk_us]; first | done | rfl) (fun m a1 a2 a3 a4 a5 a6 => by rw [z2.1 m a1 a2 a3 a4 a5, wA_s, pk_un a6, pk_un a1]) (fun r hr => by rw [z2.2.1 r hr, wA_n hr]) z2.2.2.1 z2.2.2.2

