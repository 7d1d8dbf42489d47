/-! ===== THE MODEL'S ASKING METHODS WITH LOOPS ===== -/
def sIn (N : Nat → Int32) (b : Int32) : Nat → Int32
  | 0 => nI 0
  | k + 1 => sIn N b k + (if N (42 + 21 * k + 7) = b then nI 1 else nI 0)
def sHold (N : Nat → Int32) (s : Int32) : Nat → Int32
  | 0 => nI 0
  | k + 1 => sHold N s k + (if N (42 + 21 * k + 0) = s then N (42 + 21 * k + 4) else nI 0)
def sArg (ok : Nat → Bool) (lt : Nat → Nat → Bool) : Nat → Int32
  | 0 => -1
  | k + 1 => if ok k = true ∧ (sArg ok lt k = -1 ∨ lt k (zn (sArg ok lt k)) = true) then nI k else sArg ok lt k
theorem sArg_c {ok : Nat → Bool} {lt : Nat → Nat → Bool} {k : Nat} (hk : k < 100) : sArg ok lt k = -1 ∨ ∃ q, q < k ∧ ok q = true ∧ sArg ok lt k = nI q := by
  induction k with
  | zero => exact Or.inl rfl
  | succ k ih =>
    rw [sArg]
    split
    · rename_i h
      exact Or.inr ⟨k, by omega, h.1, rfl⟩
    · exact (ih (by omega)).imp_right fun ⟨q, a, b, c⟩ => ⟨q, by omega, b, c⟩
theorem sArg_y {ok : Nat → Bool} {lt : Nat → Nat → Bool} {p : Nat} (h1 : ok p = true) (h2 : sArg ok lt p = -1) : sArg ok lt (p + 1) = nI p := if_pos ⟨h1, Or.inl h2⟩
theorem sArg_y2 {ok : Nat → Bool} {lt : Nat → Nat → Bool} {p q : Nat} (h1 : ok p = true) (e : sArg ok lt p = nI q) (hq : q < 100) (h2 : lt p q = true) : sArg ok lt (p + 1) = nI p := if_pos ⟨h1, Or.inr (by rw [e, zn_nI (by omega)]; exact h2)⟩
theorem sArg_n1 {ok : Nat → Bool} {lt : Nat → Nat → Bool} {p : Nat} (h1 : ¬ ok p = true) : sArg ok lt (p + 1) = sArg ok lt p := if_neg (fun h => h1 h.1)
theorem nI_m1 {q : Nat} (h : q < 100) : ¬ nI q = -1 := fun e => by
  have := nI_toInt (n := q) (by omega)
  rw [e, show ((-1 : Int32)).toInt = -1 by decide] at this
  omega
theorem sArg_n2 {ok : Nat → Bool} {lt : Nat → Nat → Bool} {p q : Nat} (e : sArg ok lt p = nI q) (hq : q < 100) (h2 : ¬ lt p q = true) : sArg ok lt (p + 1) = sArg ok lt p :=
  if_neg (fun h => h.2.elim (fun h => nI_m1 hq (e.symm.trans h)) (fun h => h2 (by rw [e, zn_nI (by omega)] at h; exact h)))
def sOff (N : Nat → Int32) (k : Nat) : Int32 := jabs (sRead N k - N (42 + 21 * k + 5))
def sBest (N : Nat → Int32) : Nat → Int32 := sArg (fun k => decide (2 ≤ sMany N k)) (fun a b => decide (sOff N a < sOff N b))
def sTall (N : Nat → Int32) : Nat → Int32 := sArg (fun _ => true) (fun a b => decide (sHigh N b < sHigh N a))
def sWorst (N : Nat → Int32) : Nat → Int32 := sArg (fun k => decide (2 ≤ sMany N k)) (fun a b => decide (sFit N b (sMany N b) < sFit N a (sMany N a)))
def sMost (N : Nat → Int32) : Nat → Int32
  | 0 => -2147483648
  | k + 1 => if 2 ≤ sMany N k then jmax (sMost N k) (sRead N k) else sMost N k
def sLeast (N : Nat → Int32) : Nat → Int32
  | 0 => 2147483647
  | k + 1 => if 2 ≤ sMany N k then jmin (sLeast N k) (sRead N k) else sLeast N k
def sNew (N : Nat → Int32) (k : Nat) : Nat → Int32
  | 0 => nI 0
  | b + 1 => sNew N k b + (if sHas (sDeg N k) (N (30 + 3 * b + 2)) (sMany N k) = true then nI 0 else nI 1)
def sRest (N : Nat → Int32) (a : Int32) : Nat → Int32
  | 0 => a
  | k + 1 => sRest N a k - N (42 + 21 * k + 4)
def sMiss (N : Nat → Int32) (k p : Nat) : Int32 := if sTells N k (sHgt N k p) = nI 10 * sDeg N k p then nI 0 else nI 1
def sMissed (N : Nat → Int32) : Nat → Int32
  | 0 => nI 0
  | k + 1 => if 2 ≤ sMany N k then sMissed N k + sMiss N k (sBy (sDeg N k) (-1) (sMany N k)) + sMiss N k (sBy (sDeg N k) (nI 1) (sMany N k)) else sMissed N k
def sStills (N : Nat → Int32) : Nat → Nat
  | 0 => 0
  | k + 1 => sStills N k + (if N (42 + 21 * k + 5) = sAround N k then 1 else 0)
def sHighs (N : Nat → Int32) : Nat → Int32
  | 0 => nI 0
  | k + 1 => sHighs N k + sHigh N k
/-- the greatest temperature from n - 201 down -/
def sGreat (N : Nat → Int32) (k : Nat) : Nat → Int32
  | 0 => -1000
  | n + 1 => if N (42 + 21 * k + 3) < sFree N k (nI n - nI 200) then sGreat N k n else nI n - nI 200
set_option maxHeartbeats 4000000 in
set_option maxRecDepth 20000 in
theorem c_X4_offOf {E : Ev} {g : Sh} {i : Ni} {j : Nj} {K : Kp} {x r k : Nat} (hM : zM g x r) (hO : zOk (i r)) (hk : k < zn (i r 5)) (h2m : 2 ≤ sMany (i r) k) (hK : K (.inl (some (.int (sOff (i r) k)))) g i j) : zCon E mX4_offOf [.ref x, .int (nI k)] g i j K := by
  refine zcon_of (by decide +kernel) rfl rfl (lo := [.ref x, .int (nI k)]) rfl (fun X => ?_)
  have hM' := hM
  obtain ⟨h1, h2, h3, h4⟩ := hM
  have h8 := hO.k8 hk
  refine r_aload_n qX4_offOf_0 rfl ?_
  refine r_iload_n qX4_offOf_1 rfl ?_
  refine r_cv1 (cu2 := 0) (su2 := 0) qX4_offOf_2 kX4_422 rfl (by decide +kernel) (c := 4) (by assumption) (by decide) rfl rfl rfl rfl rfl rfl ?_
  refine c_X4_readNow (by first | assumption | omega | rfl | decide) (by first | assumption | omega | rfl | decide) (by first | assumption | omega | rfl | decide) (by first | assumption | omega | rfl | decide) ?_
  show zR E _ _ X 5 _ _ _ _ _ _ _
  refine r_aload_n qX4_offOf_5 rfl ?_
  refine r_iload_n qX4_offOf_6 rfl ?_
  refine r_iconst (v := nI 5) qX4_offOf_7 (by decide) ?_
  refine r_cv2 (cu2 := 0) (su2 := 0) qX4_offOf_8 kX4_148 rfl (by decide +kernel) (c := 4) (by assumption) (by decide) rfl rfl rfl rfl rfl rfl ?_
  refine c_X4_of (by first | assumption | omega | rfl | decide) (by first | assumption | omega | rfl | decide) ?_
  show zR E _ _ X 11 _ _ _ _ _ _ _
  refine r_isub qX4_offOf_11 ?_
  refine r_mabs qX4_offOf_12 kX4_198 rfl rfl rfl rfl ?_
  refine r_iret qX4_offOf_15 rfl rfl rfl rfl ?_
  exact hK
set_option maxHeartbeats 4000000 in
set_option maxRecDepth 20000 in
theorem c_X4_tubesIn {E : Ev} {g : Sh} {i : Ni} {j : Nj} {K : Kp} {x n d b p s o : Nat} {t : Int32} (hB : zB g i x n d b p s o) (hK : K (.inl (some (.int (if tv (i n 4) t then sIn (i n) t (zn (i n 5)) else nI 0)))) g (wA i x (upd (i x) 0 (c3 (tv (i n 4) t) True True))) j) : zCon E mX4_tubesIn [.ref x, .int t] g i j K := by
  refine zcon_of (by decide +kernel) rfl rfl (lo := [.ref x, .int t, zJ, zJ]) rfl (fun X => ?_)
  have hB' := hB
  obtain ⟨hW, hR3, hO⟩ := hB
  have w1 := hW.1
  have w2 := hW.2.1
  have w8 := hW.2.2.2.2.2.2.2.1.1
  have w9 := hW.2.2.2.2.2.2.2.1.2
  have nx := hW.nx
  have hM' := hW.m hR3
  obtain ⟨hT, hT8⟩ := hO.T8
  generalize hmm : zn (i n 5) = m at *
  have KL : ∀ i' : Ni, zOk (i' n) → i' n 5 = nI m → zn (i' n 5) = m → K (.inl (some (.int (sIn (i' n) t m)))) g i' j → ∀ q p : Nat, q = m - p → p ≤ m → zR E mX4_tubesIn (zZ E mX4_tubesIn K) X 18 [.ref x, .int t, .int (sIn (i' n) t p), .int (nI p)] [] g i' j 0 0 := by
    intro i' hO' hT' hmm' hK' q
    induction q with
    | zero =>
      intro p hp hpm
      obtain rfl : p = m := by omega
      refine r_iload_n qX4_tubesIn_18 rfl ?_
      refine r_aload_n qX4_tubesIn_19 rfl ?_
      refine r_getr qX4_tubesIn_20 fX4_17 rfl (by assumption) (by first | assumption | rfl) ?_
      refine r_iconst (v := nI 5) qX4_tubesIn_23 (by decide) ?_
      refine r_ialdN qX4_tubesIn_24 (by assumption) (by assumption) (by omega) rfl ?_
      rw [hT']
      refine r_icmp_ge (t := 53) qX4_tubesIn_25 (by decide) (fun hc25 => ?_) (fun hc25 => absurd hc25 (fun h => h (nI_le (by omega) (by omega))))
      refine r_iload_n qX4_tubesIn_53 rfl ?_
      refine r_iret qX4_tubesIn_54 rfl rfl rfl rfl ?_
      exact hK'
    | succ q ih =>
      intro p hp hpm
      have hpl : p < m := by omega
      have hk' : p < zn (i' n 5) := by rw [hmm']; exact hpl
      have hf' := hO'.f hk'
      have h8 := hO'.k8 hk'
      refine r_iload_n qX4_tubesIn_18 rfl ?_
      refine r_aload_n qX4_tubesIn_19 rfl ?_
      refine r_getr qX4_tubesIn_20 fX4_17 rfl (by assumption) (by first | assumption | rfl) ?_
      refine r_iconst (v := nI 5) qX4_tubesIn_23 (by decide) ?_
      refine r_ialdN qX4_tubesIn_24 (by assumption) (by assumption) (by omega) rfl ?_
      rw [hT']
      refine r_icmp_ge (t := 53) qX4_tubesIn_25 (by decide) (fun hc25 => absurd hc25 (nI_ge hpl (by omega))) (fun hc25 => ?_)
      refine r_iload_n qX4_tubesIn_28 rfl ?_
      refine r_aload_n qX4_tubesIn_29 rfl ?_
      refine r_iload_n qX4_tubesIn_30 rfl ?_
      refine r_bipush (v := nI 7) qX4_tubesIn_31 (by decide) ?_
      refine r_cv2 (cu2 := 0) (su2 := 0) qX4_tubesIn_33 kX4_148 rfl (by decide +kernel) (c := 4) (by assumption) (by decide) rfl rfl rfl rfl rfl rfl ?_
      refine c_X4_of (by first | assumption | omega | rfl | decide) (by first | assumption | omega | rfl | decide) ?_
      show zR E _ _ X 36 _ _ _ _ _ _ _
      refine r_iload_n qX4_tubesIn_36 rfl ?_
      refine r_icmp_ne (t := 44) qX4_tubesIn_37 (by decide) (fun hc37 => ?_) (fun hc37 => ?_)
      · refine r_iconst (v := nI 0) qX4_tubesIn_44 (by decide) ?_
        first | with_reducible refine r_iaddN qX4_tubesIn_45 ?_ | refine r_iadd qX4_tubesIn_45 ?_
        refine r_is_4_2 qX4_tubesIn_46 rfl rfl ?_
        refine r_ii_4_3 qX4_tubesIn_47 rfl rfl (nI_inc p) ?_
        refine r_goto (t := 18) qX4_tubesIn_50 (by decide) ?_
        have z := ih (p + 1) (by omega) (by omega); rw [sIn] at z; first | (rw [if_neg hc37] at z; exact z) | (rw [if_pos hc37] at z; exact z)
      · refine r_iconst (v := nI 1) qX4_tubesIn_40 (by decide) ?_
        refine r_goto (t := 45) qX4_tubesIn_41 (by decide) ?_
        first | with_reducible refine r_iaddN qX4_tubesIn_45 ?_ | refine r_iadd qX4_tubesIn_45 ?_
        refine r_is_4_2 qX4_tubesIn_46 rfl rfl ?_
        refine r_ii_4_3 qX4_tubesIn_47 rfl rfl (nI_inc p) ?_
        refine r_goto (t := 18) qX4_tubesIn_50 (by decide) ?_
        have z := ih (p + 1) (by omega) (by omega); rw [sIn] at z; first | (rw [if_neg hc37] at z; exact z) | (rw [if_pos hc37] at z; exact z)
  obtain ⟨hBt, hB4⟩ := hO.B4
  refine r_aload_n qX4_tubesIn_0 rfl ?_
  refine r_aload_n qX4_tubesIn_1 rfl ?_
  refine r_iload_n qX4_tubesIn_2 rfl ?_
  refine r_cv1 (cu2 := 0) (su2 := 0) qX4_tubesIn_3 kX4_390 rfl (by decide +kernel) (c := 4) (by assumption) (by decide) rfl rfl rfl rfl rfl rfl ?_
  refine c_X4_hasBath (by first | assumption | omega | rfl | decide) (by first | assumption | omega | rfl | decide) (by first | assumption | omega | rfl | decide) ?_
  show zR E _ _ X 6 _ _ _ _ _ _ _
  refine r_cv1 (cu2 := 0) (su2 := 0) qX4_tubesIn_6 kX4_371 rfl (by decide +kernel) (c := 4) (by assumption) (by decide) rfl rfl rfl rfl rfl rfl ?_
  refine c_X4_passes1 (by first | assumption | omega | rfl | decide) ?_
  show zR E _ _ X 9 _ _ _ _ _ _ _
  generalize hi : wA i x (upd (i x) 0 (c3 (tv (i n 4) t) True True)) = i' at hK ⊢
  have hn : i' n = i n := by rw [← hi]; exact wA_n nx
  clear hi
  have hO' : zOk (i' n) := by rw [hn]; exact hO
  refine r_if_ne (t := 14) qX4_tubesIn_9 (by decide) (fun hc9 => ?_) (fun hc9 => ?_)
  · have hv := zb_ne.mp hc9; rw [if_pos hv] at hK
    refine r_iconst (v := nI 0) qX4_tubesIn_14 (by decide) ?_
    refine r_is_4_2 qX4_tubesIn_15 rfl rfl ?_
    refine r_iconst (v := nI 0) qX4_tubesIn_16 (by decide) ?_
    refine r_is_4_3 qX4_tubesIn_17 rfl rfl ?_
    exact KL i' hO' (by rw [hn]; exact hT) (by rw [hn]; exact hmm) (by rw [hn]; exact hK) m 0 (by omega) (by omega)
  · rw [if_neg (zb_0.mp hc9)] at hK
    refine r_iconst (v := nI 0) qX4_tubesIn_12 (by decide) ?_
    refine r_iret qX4_tubesIn_13 rfl rfl rfl rfl ?_
    exact hK
set_option maxHeartbeats 4000000 in
set_option maxRecDepth 20000 in
theorem c_X4_spiritInTubes {E : Ev} {g : Sh} {i : Ni} {j : Nj} {K : Kp} {x n d b p s o : Nat} {t : Int32} (hB : zB g i x n d b p s o) (hK : K (.inl (some (.int (if tv (i n 3) t then sHold (i n) t (zn (i n 5)) else nI 0)))) g (wA i x (upd (i x) 0 (c3 (tv (i n 3) t) True True))) j) : zCon E mX4_spiritInTubes [.ref x, .int t] g i j K := by
  refine zcon_of (by decide +kernel) rfl rfl (lo := [.ref x, .int t, zJ, zJ]) rfl (fun X => ?_)
  have hB' := hB
  obtain ⟨hW, hR3, hO⟩ := hB
  have w1 := hW.1
  have w2 := hW.2.1
  have w8 := hW.2.2.2.2.2.2.2.1.1
  have w9 := hW.2.2.2.2.2.2.2.1.2
  have nx := hW.nx
  have hM' := hW.m hR3
  obtain ⟨hT, hT8⟩ := hO.T8
  generalize hmm : zn (i n 5) = m at *
  have KL : ∀ i' : Ni, zOk (i' n) → i' n 5 = nI m → zn (i' n 5) = m → K (.inl (some (.int (sHold (i' n) t m)))) g i' j → ∀ q p : Nat, q = m - p → p ≤ m → zR E mX4_spiritInTubes (zZ E mX4_spiritInTubes K) X 18 [.ref x, .int t, .int (sHold (i' n) t p), .int (nI p)] [] g i' j 0 0 := by
    intro i' hO' hT' hmm' hK' q
    induction q with
    | zero =>
      intro p hp hpm
      obtain rfl : p = m := by omega
      refine r_iload_n qX4_spiritInTubes_18 rfl ?_
      refine r_aload_n qX4_spiritInTubes_19 rfl ?_
      refine r_getr qX4_spiritInTubes_20 fX4_17 rfl (by assumption) (by first | assumption | rfl) ?_
      refine r_iconst (v := nI 5) qX4_spiritInTubes_23 (by decide) ?_
      refine r_ialdN qX4_spiritInTubes_24 (by assumption) (by assumption) (by omega) rfl ?_
      rw [hT']
      refine r_icmp_ge (t := 57) qX4_spiritInTubes_25 (by decide) (fun hc25 => ?_) (fun hc25 => absurd hc25 (fun h => h (nI_le (by omega) (by omega))))
      refine r_iload_n qX4_spiritInTubes_57 rfl ?_
      refine r_iret qX4_spiritInTubes_58 rfl rfl rfl rfl ?_
      exact hK'
    | succ q ih =>
      intro p hp hpm
      have hpl : p < m := by omega
      have hk' : p < zn (i' n 5) := by rw [hmm']; exact hpl
      have hf' := hO'.f hk'
      have h8 := hO'.k8 hk'
      refine r_iload_n qX4_spiritInTubes_18 rfl ?_
      refine r_aload_n qX4_spiritInTubes_19 rfl ?_
      refine r_getr qX4_spiritInTubes_20 fX4_17 rfl (by assumption) (by first | assumption | rfl) ?_
      refine r_iconst (v := nI 5) qX4_spiritInTubes_23 (by decide) ?_
      refine r_ialdN qX4_spiritInTubes_24 (by assumption) (by assumption) (by omega) rfl ?_
      rw [hT']
      refine r_icmp_ge (t := 57) qX4_spiritInTubes_25 (by decide) (fun hc25 => absurd hc25 (nI_ge hpl (by omega))) (fun hc25 => ?_)
      refine r_iload_n qX4_spiritInTubes_28 rfl ?_
      refine r_aload_n qX4_spiritInTubes_29 rfl ?_
      refine r_iload_n qX4_spiritInTubes_30 rfl ?_
      refine r_iconst (v := nI 0) qX4_spiritInTubes_31 (by decide) ?_
      refine r_cv2 (cu2 := 0) (su2 := 0) qX4_spiritInTubes_32 kX4_148 rfl (by decide +kernel) (c := 4) (by assumption) (by decide) rfl rfl rfl rfl rfl rfl ?_
      refine c_X4_of (by first | assumption | omega | rfl | decide) (by first | assumption | omega | rfl | decide) ?_
      show zR E _ _ X 35 _ _ _ _ _ _ _
      refine r_iload_n qX4_spiritInTubes_35 rfl ?_
      refine r_icmp_ne (t := 48) qX4_spiritInTubes_36 (by decide) (fun hc36 => ?_) (fun hc36 => ?_)
      · refine r_iconst (v := nI 0) qX4_spiritInTubes_48 (by decide) ?_
        first | with_reducible refine r_iaddN qX4_spiritInTubes_49 ?_ | refine r_iadd qX4_spiritInTubes_49 ?_
        refine r_is_4_2 qX4_spiritInTubes_50 rfl rfl ?_
        refine r_ii_4_3 qX4_spiritInTubes_51 rfl rfl (nI_inc p) ?_
        refine r_goto (t := 18) qX4_spiritInTubes_54 (by decide) ?_
        have z := ih (p + 1) (by omega) (by omega); rw [sHold] at z; first | (rw [if_neg hc36] at z; exact z) | (rw [if_pos hc36] at z; exact z)
      · refine r_aload_n qX4_spiritInTubes_39 rfl ?_
        refine r_iload_n qX4_spiritInTubes_40 rfl ?_
        refine r_iconst (v := nI 4) qX4_spiritInTubes_41 (by decide) ?_
        refine r_cv2 (cu2 := 0) (su2 := 0) qX4_spiritInTubes_42 kX4_148 rfl (by decide +kernel) (c := 4) (by assumption) (by decide) rfl rfl rfl rfl rfl rfl ?_
        refine c_X4_of (by first | assumption | omega | rfl | decide) (by first | assumption | omega | rfl | decide) ?_
        show zR E _ _ X 45 _ _ _ _ _ _ _
        refine r_goto (t := 49) qX4_spiritInTubes_45 (by decide) ?_
        first | with_reducible refine r_iaddN qX4_spiritInTubes_49 ?_ | refine r_iadd qX4_spiritInTubes_49 ?_
        refine r_is_4_2 qX4_spiritInTubes_50 rfl rfl ?_
        refine r_ii_4_3 qX4_spiritInTubes_51 rfl rfl (nI_inc p) ?_
        refine r_goto (t := 18) qX4_spiritInTubes_54 (by decide) ?_
        have z := ih (p + 1) (by omega) (by omega); rw [sHold] at z; first | (rw [if_neg hc36] at z; exact z) | (rw [if_pos hc36] at z; exact z)
  obtain ⟨hS, hS5⟩ := hO.S5
  refine r_aload_n qX4_spiritInTubes_0 rfl ?_
  refine r_aload_n qX4_spiritInTubes_1 rfl ?_
  refine r_iload_n qX4_spiritInTubes_2 rfl ?_
  refine r_cv1 (cu2 := 0) (su2 := 0) qX4_spiritInTubes_3 kX4_393 rfl (by decide +kernel) (c := 4) (by assumption) (by decide) rfl rfl rfl rfl rfl rfl ?_
  refine c_X4_hasSpirit (by first | assumption | omega | rfl | decide) (by first | assumption | omega | rfl | decide) (by first | assumption | omega | rfl | decide) ?_
  show zR E _ _ X 6 _ _ _ _ _ _ _
  refine r_cv1 (cu2 := 0) (su2 := 0) qX4_spiritInTubes_6 kX4_371 rfl (by decide +kernel) (c := 4) (by assumption) (by decide) rfl rfl rfl rfl rfl rfl ?_
  refine c_X4_passes1 (by first | assumption | omega | rfl | decide) ?_
  show zR E _ _ X 9 _ _ _ _ _ _ _
  generalize hi : wA i x (upd (i x) 0 (c3 (tv (i n 3) t) True True)) = i' at hK ⊢
  have hn : i' n = i n := by rw [← hi]; exact wA_n nx
  clear hi
  have hO' : zOk (i' n) := by rw [hn]; exact hO
  refine r_if_ne (t := 14) qX4_spiritInTubes_9 (by decide) (fun hc9 => ?_) (fun hc9 => ?_)
  · have hv := zb_ne.mp hc9; rw [if_pos hv] at hK
    refine r_iconst (v := nI 0) qX4_spiritInTubes_14 (by decide) ?_
    refine r_is_4_2 qX4_spiritInTubes_15 rfl rfl ?_
    refine r_iconst (v := nI 0) qX4_spiritInTubes_16 (by decide) ?_
    refine r_is_4_3 qX4_spiritInTubes_17 rfl rfl ?_
    exact KL i' hO' (by rw [hn]; exact hT) (by rw [hn]; exact hmm) (by rw [hn]; exact hK) m 0 (by omega) (by omega)
  · rw [if_neg (zb_0.mp hc9)] at hK
    refine r_iconst (v := nI 0) qX4_spiritInTubes_12 (by decide) ?_
    refine r_iret qX4_spiritInTubes_13 rfl rfl rfl rfl ?_
    exact hK
set_option maxHeartbeats 4000000 in
set_option maxRecDepth 20000 in
theorem c_X4_bestTube {E : Ev} {g : Sh} {i : Ni} {j : Nj} {K : Kp} {x n d b p s o : Nat}  (hB : zB g i x n d b p s o) (hK : K (.inl (some (.int (sBest (i n) (zn (i n 5)))))) g (wA i x (upd (i x) 0 (nI 0))) j) : zCon E mX4_bestTube [.ref x] g i j K := by
  refine zcon_of (by decide +kernel) rfl rfl (lo := [.ref x, zJ, zJ]) rfl (fun X => ?_)
  have hB' := hB
  obtain ⟨hW, hR3, hO⟩ := hB
  have w1 := hW.1
  have w2 := hW.2.1
  have w8 := hW.2.2.2.2.2.2.2.1.1
  have w9 := hW.2.2.2.2.2.2.2.1.2
  have nx := hW.nx
  have hM' := hW.m hR3
  obtain ⟨hT, hT8⟩ := hO.T8
  generalize hmm : zn (i n 5) = m at *
  have KL : ∀ i' : Ni, zOk (i' n) → i' n 5 = nI m → zn (i' n 5) = m → K (.inl (some (.int (sBest (i' n) m)))) g i' j → ∀ q p : Nat, q = m - p → p ≤ m → zR E mX4_bestTube (zZ E mX4_bestTube K) X 9 [.ref x, .int (sBest (i' n) p), .int (nI p)] [] g i' j 0 0 := by
    intro i' hO' hT' hmm' hK' q
    induction q with
    | zero =>
      intro p hp hpm
      obtain rfl : p = m := by omega
      refine r_iload_n qX4_bestTube_9 rfl ?_
      refine r_aload_n qX4_bestTube_10 rfl ?_
      refine r_getr qX4_bestTube_11 fX4_17 rfl (by assumption) (by first | assumption | rfl) ?_
      refine r_iconst (v := nI 5) qX4_bestTube_14 (by decide) ?_
      refine r_ialdN qX4_bestTube_15 (by assumption) (by assumption) (by omega) rfl ?_
      rw [hT']
      refine r_icmp_ge (t := 57) qX4_bestTube_16 (by decide) (fun hc16 => ?_) (fun hc16 => absurd hc16 (fun h => h (nI_le (by omega) (by omega))))
      refine r_iload_n qX4_bestTube_57 rfl ?_
      refine r_iret qX4_bestTube_58 rfl rfl rfl rfl ?_
      exact hK'
    | succ q ih =>
      intro p hp hpm
      have hpl : p < m := by omega
      have hk' : p < zn (i' n 5) := by rw [hmm']; exact hpl
      have hf' := hO'.f hk'
      have h8 := hO'.k8 hk'
      refine r_iload_n qX4_bestTube_9 rfl ?_
      refine r_aload_n qX4_bestTube_10 rfl ?_
      refine r_getr qX4_bestTube_11 fX4_17 rfl (by assumption) (by first | assumption | rfl) ?_
      refine r_iconst (v := nI 5) qX4_bestTube_14 (by decide) ?_
      refine r_ialdN qX4_bestTube_15 (by assumption) (by assumption) (by omega) rfl ?_
      rw [hT']
      refine r_icmp_ge (t := 57) qX4_bestTube_16 (by decide) (fun hc16 => absurd hc16 (nI_ge hpl (by omega))) (fun hc16 => ?_)
      refine r_aload_n qX4_bestTube_19 rfl ?_
      refine r_iload_n qX4_bestTube_20 rfl ?_
      refine r_cv1 (cu2 := 0) (su2 := 0) qX4_bestTube_21 kX4_416 rfl (by decide +kernel) (c := 4) (by assumption) (by decide) rfl rfl rfl rfl rfl rfl ?_
      refine c_X4_isScaled (by first | assumption | omega | rfl | decide) (by first | assumption | omega | rfl | decide) (by first | assumption | omega | rfl | decide) ?_
      show zR E _ _ X 24 _ _ _ _ _ _ _
      refine r_if_eq (t := 49) qX4_bestTube_24 (by decide) (fun hc24 => ?_) (fun hc24 => ?_)
      · refine r_iload_n qX4_bestTube_49 rfl ?_
        refine r_is_3_1 qX4_bestTube_50 rfl rfl ?_
        refine r_ii_3_2 qX4_bestTube_51 rfl rfl (nI_inc p) ?_
        refine r_goto (t := 9) qX4_bestTube_54 (by decide) ?_
        have z := ih (p + 1) (by omega) (by omega); first | (rw [show sBest (i' n) (p + 1) = sBest (i' n) p from sArg_n1 (fun h => zb_0.mp hc24 (of_decide_eq_true h))] at z; exact z) | (rw [show sBest (i' n) (p + 1) = nI p from sArg_y (decide_eq_true (zb_ne.mp hc24)) hc29] at z; exact z) | (rw [show sBest (i' n) (p + 1) = nI p from sArg_y2 (decide_eq_true (zb_ne.mp hc24)) e0 (by omega) (decide_eq_true (Int32.not_le.mp hc42))] at z; exact z) | (rw [show sBest (i' n) (p + 1) = nI q0 from (sArg_n2 e0 (by omega) (fun h => (Int32.not_lt.mpr hc42) (of_decide_eq_true h))).trans e0] at z; exact z)
      · refine r_iload_n qX4_bestTube_27 rfl ?_
        refine r_iconst (v := (-1)) qX4_bestTube_28 (by decide) ?_
        refine r_icmp_eq (t := 45) qX4_bestTube_29 (by decide) (fun hc29 => ?_) (fun hc29 => ?_)
        · refine r_iload_n qX4_bestTube_45 rfl ?_
          refine r_goto (t := 50) qX4_bestTube_46 (by decide) ?_
          refine r_is_3_1 qX4_bestTube_50 rfl rfl ?_
          refine r_ii_3_2 qX4_bestTube_51 rfl rfl (nI_inc p) ?_
          refine r_goto (t := 9) qX4_bestTube_54 (by decide) ?_
          have z := ih (p + 1) (by omega) (by omega); first | (rw [show sBest (i' n) (p + 1) = sBest (i' n) p from sArg_n1 (fun h => zb_0.mp hc24 (of_decide_eq_true h))] at z; exact z) | (rw [show sBest (i' n) (p + 1) = nI p from sArg_y (decide_eq_true (zb_ne.mp hc24)) hc29] at z; exact z) | (rw [show sBest (i' n) (p + 1) = nI p from sArg_y2 (decide_eq_true (zb_ne.mp hc24)) e0 (by omega) (decide_eq_true (Int32.not_le.mp hc42))] at z; exact z) | (rw [show sBest (i' n) (p + 1) = nI q0 from (sArg_n2 e0 (by omega) (fun h => (Int32.not_lt.mpr hc42) (of_decide_eq_true h))).trans e0] at z; exact z)
        · obtain ⟨q0, hq0, hok0, e0⟩ := (sArg_c (by omega)).resolve_left (show ¬ sArg _ _ p = -1 from hc29); change sBest (i' n) p = nI q0 at e0; rw [e0]; have hk0 : q0 < zn (i' n 5) := by (rw [hmm']; omega)
          have hf0 := hO'.f hk0
          have h20 : 2 ≤ sMany (i' n) q0 := of_decide_eq_true hok0
          refine r_aload_n qX4_bestTube_32 rfl ?_
          refine r_iload_n qX4_bestTube_33 rfl ?_
          refine r_cv1 (cu2 := 0) (su2 := 0) qX4_bestTube_34 kX4_433 rfl (by decide +kernel) (c := 4) (by assumption) (by decide) rfl rfl rfl rfl rfl rfl ?_
          refine c_X4_offOf hM' hO' hk' (zb_ne.mp hc24) ?_
          show zR E _ _ X 37 _ _ _ _ _ _ _
          refine r_aload_n qX4_bestTube_37 rfl ?_
          refine r_iload_n qX4_bestTube_38 rfl ?_
          refine r_cv1 (cu2 := 0) (su2 := 0) qX4_bestTube_39 kX4_433 rfl (by decide +kernel) (c := 4) (by assumption) (by decide) rfl rfl rfl rfl rfl rfl ?_
          refine c_X4_offOf hM' hO' hk0 h20 ?_
          show zR E _ _ X 42 _ _ _ _ _ _ _
          refine r_icmp_ge (t := 49) qX4_bestTube_42 (by decide) (fun hc42 => ?_) (fun hc42 => ?_)
          · refine r_iload_n qX4_bestTube_49 rfl ?_
            refine r_is_3_1 qX4_bestTube_50 rfl rfl ?_
            refine r_ii_3_2 qX4_bestTube_51 rfl rfl (nI_inc p) ?_
            refine r_goto (t := 9) qX4_bestTube_54 (by decide) ?_
            have z := ih (p + 1) (by omega) (by omega); first | (rw [show sBest (i' n) (p + 1) = sBest (i' n) p from sArg_n1 (fun h => zb_0.mp hc24 (of_decide_eq_true h))] at z; exact z) | (rw [show sBest (i' n) (p + 1) = nI p from sArg_y (decide_eq_true (zb_ne.mp hc24)) hc29] at z; exact z) | (rw [show sBest (i' n) (p + 1) = nI p from sArg_y2 (decide_eq_true (zb_ne.mp hc24)) e0 (by omega) (decide_eq_true (Int32.not_le.mp hc42))] at z; exact z) | (rw [show sBest (i' n) (p + 1) = nI q0 from (sArg_n2 e0 (by omega) (fun h => (Int32.not_lt.mpr hc42) (of_decide_eq_true h))).trans e0] at z; exact z)
          · refine r_iload_n qX4_bestTube_45 rfl ?_
            refine r_goto (t := 50) qX4_bestTube_46 (by decide) ?_
            refine r_is_3_1 qX4_bestTube_50 rfl rfl ?_
            refine r_ii_3_2 qX4_bestTube_51 rfl rfl (nI_inc p) ?_
            refine r_goto (t := 9) qX4_bestTube_54 (by decide) ?_
            have z := ih (p + 1) (by omega) (by omega); first | (rw [show sBest (i' n) (p + 1) = sBest (i' n) p from sArg_n1 (fun h => zb_0.mp hc24 (of_decide_eq_true h))] at z; exact z) | (rw [show sBest (i' n) (p + 1) = nI p from sArg_y (decide_eq_true (zb_ne.mp hc24)) hc29] at z; exact z) | (rw [show sBest (i' n) (p + 1) = nI p from sArg_y2 (decide_eq_true (zb_ne.mp hc24)) e0 (by omega) (decide_eq_true (Int32.not_le.mp hc42))] at z; exact z) | (rw [show sBest (i' n) (p + 1) = nI q0 from (sArg_n2 e0 (by omega) (fun h => (Int32.not_lt.mpr hc42) (of_decide_eq_true h))).trans e0] at z; exact z)
  refine r_aload_n qX4_bestTube_0 rfl ?_
  refine r_iconst (v := nI 0) qX4_bestTube_1 (by decide) ?_
  refine r_puti qX4_bestTube_2 fX4_3 (Or.inl rfl) rfl rfl rfl (by assumption) ?_
  generalize hi : wA i x (upd (i x) 0 (nI 0)) = i' at hK ⊢
  have hn : i' n = i n := by rw [← hi]; exact wA_n nx
  clear hi
  have hO' : zOk (i' n) := by rw [hn]; exact hO
  refine r_iconst (v := (-1)) qX4_bestTube_5 (by decide) ?_
  refine r_is_3_1 qX4_bestTube_6 rfl rfl ?_
  refine r_iconst (v := nI 0) qX4_bestTube_7 (by decide) ?_
  refine r_is_3_2 qX4_bestTube_8 rfl rfl ?_
  exact KL i' hO' (by rw [hn]; exact hT) (by rw [hn]; exact hmm) (by rw [hn]; exact hK) m 0 (by omega) (by omega)
set_option maxHeartbeats 4000000 in
set_option maxRecDepth 20000 in
theorem c_X4_tallestTube {E : Ev} {g : Sh} {i : Ni} {j : Nj} {K : Kp} {x n d b p s o : Nat}  (hB : zB g i x n d b p s o) (hK : K (.inl (some (.int (sTall (i n) (zn (i n 5)))))) g (wA i x (upd (i x) 0 (nI 0))) j) : zCon E mX4_tallestTube [.ref x] g i j K := by
  refine zcon_of (by decide +kernel) rfl rfl (lo := [.ref x, zJ, zJ]) rfl (fun X => ?_)
  have hB' := hB
  obtain ⟨hW, hR3, hO⟩ := hB
  have w1 := hW.1
  have w2 := hW.2.1
  have w8 := hW.2.2.2.2.2.2.2.1.1
  have w9 := hW.2.2.2.2.2.2.2.1.2
  have nx := hW.nx
  have hM' := hW.m hR3
  obtain ⟨hT, hT8⟩ := hO.T8
  generalize hmm : zn (i n 5) = m at *
  have KL : ∀ i' : Ni, zOk (i' n) → i' n 5 = nI m → zn (i' n 5) = m → K (.inl (some (.int (sTall (i' n) m)))) g i' j → ∀ q p : Nat, q = m - p → p ≤ m → zR E mX4_tallestTube (zZ E mX4_tallestTube K) X 9 [.ref x, .int (sTall (i' n) p), .int (nI p)] [] g i' j 0 0 := by
    intro i' hO' hT' hmm' hK' q
    induction q with
    | zero =>
      intro p hp hpm
      obtain rfl : p = m := by omega
      refine r_iload_n qX4_tallestTube_9 rfl ?_
      refine r_aload_n qX4_tallestTube_10 rfl ?_
      refine r_getr qX4_tallestTube_11 fX4_17 rfl (by assumption) (by first | assumption | rfl) ?_
      refine r_iconst (v := nI 5) qX4_tallestTube_14 (by decide) ?_
      refine r_ialdN qX4_tallestTube_15 (by assumption) (by assumption) (by omega) rfl ?_
      rw [hT']
      refine r_icmp_ge (t := 49) qX4_tallestTube_16 (by decide) (fun hc16 => ?_) (fun hc16 => absurd hc16 (fun h => h (nI_le (by omega) (by omega))))
      refine r_iload_n qX4_tallestTube_49 rfl ?_
      refine r_iret qX4_tallestTube_50 rfl rfl rfl rfl ?_
      exact hK'
    | succ q ih =>
      intro p hp hpm
      have hpl : p < m := by omega
      have hk' : p < zn (i' n 5) := by rw [hmm']; exact hpl
      have hf' := hO'.f hk'
      have h8 := hO'.k8 hk'
      refine r_iload_n qX4_tallestTube_9 rfl ?_
      refine r_aload_n qX4_tallestTube_10 rfl ?_
      refine r_getr qX4_tallestTube_11 fX4_17 rfl (by assumption) (by first | assumption | rfl) ?_
      refine r_iconst (v := nI 5) qX4_tallestTube_14 (by decide) ?_
      refine r_ialdN qX4_tallestTube_15 (by assumption) (by assumption) (by omega) rfl ?_
      rw [hT']
      refine r_icmp_ge (t := 49) qX4_tallestTube_16 (by decide) (fun hc16 => absurd hc16 (nI_ge hpl (by omega))) (fun hc16 => ?_)
      refine r_iload_n qX4_tallestTube_19 rfl ?_
      refine r_iconst (v := (-1)) qX4_tallestTube_20 (by decide) ?_
      refine r_icmp_eq (t := 37) qX4_tallestTube_21 (by decide) (fun hc21 => ?_) (fun hc21 => ?_)
      · refine r_iload_n qX4_tallestTube_37 rfl ?_
        refine r_goto (t := 42) qX4_tallestTube_38 (by decide) ?_
        refine r_is_3_1 qX4_tallestTube_42 rfl rfl ?_
        refine r_ii_3_2 qX4_tallestTube_43 rfl rfl (nI_inc p) ?_
        refine r_goto (t := 9) qX4_tallestTube_46 (by decide) ?_
        have z := ih (p + 1) (by omega) (by omega); first | (rw [show sTall (i' n) (p + 1) = nI p from sArg_y rfl hc21] at z; exact z) | (rw [show sTall (i' n) (p + 1) = nI p from sArg_y2 rfl e0 (by omega) (decide_eq_true (Int32.not_le.mp hc34))] at z; exact z) | (rw [show sTall (i' n) (p + 1) = nI q0 from (sArg_n2 e0 (by omega) (fun h => (Int32.not_lt.mpr hc34) (of_decide_eq_true h))).trans e0] at z; exact z)
      · obtain ⟨q0, hq0, hok0, e0⟩ := (sArg_c (by omega)).resolve_left (show ¬ sArg _ _ p = -1 from hc21); change sTall (i' n) p = nI q0 at e0; rw [e0]; have hk0 : q0 < zn (i' n 5) := by (rw [hmm']; omega)
        have hf0 := hO'.f hk0
        refine r_aload_n qX4_tallestTube_24 rfl ?_
        refine r_iload_n qX4_tallestTube_25 rfl ?_
        refine r_cv1 (cu2 := 0) (su2 := 0) qX4_tallestTube_26 kX4_186 rfl (by decide +kernel) (c := 4) (by assumption) (by decide) rfl rfl rfl rfl rfl rfl ?_
        refine c_X4_heightNow hM' hf' ?_
        show zR E _ _ X 29 _ _ _ _ _ _ _
        refine r_aload_n qX4_tallestTube_29 rfl ?_
        refine r_iload_n qX4_tallestTube_30 rfl ?_
        refine r_cv1 (cu2 := 0) (su2 := 0) qX4_tallestTube_31 kX4_186 rfl (by decide +kernel) (c := 4) (by assumption) (by decide) rfl rfl rfl rfl rfl rfl ?_
        refine c_X4_heightNow hM' hf0 ?_
        show zR E _ _ X 34 _ _ _ _ _ _ _
        refine r_icmp_le (t := 41) qX4_tallestTube_34 (by decide) (fun hc34 => ?_) (fun hc34 => ?_)
        · refine r_iload_n qX4_tallestTube_41 rfl ?_
          refine r_is_3_1 qX4_tallestTube_42 rfl rfl ?_
          refine r_ii_3_2 qX4_tallestTube_43 rfl rfl (nI_inc p) ?_
          refine r_goto (t := 9) qX4_tallestTube_46 (by decide) ?_
          have z := ih (p + 1) (by omega) (by omega); first | (rw [show sTall (i' n) (p + 1) = nI p from sArg_y rfl hc21] at z; exact z) | (rw [show sTall (i' n) (p + 1) = nI p from sArg_y2 rfl e0 (by omega) (decide_eq_true (Int32.not_le.mp hc34))] at z; exact z) | (rw [show sTall (i' n) (p + 1) = nI q0 from (sArg_n2 e0 (by omega) (fun h => (Int32.not_lt.mpr hc34) (of_decide_eq_true h))).trans e0] at z; exact z)
        · refine r_iload_n qX4_tallestTube_37 rfl ?_
          refine r_goto (t := 42) qX4_tallestTube_38 (by decide) ?_
          refine r_is_3_1 qX4_tallestTube_42 rfl rfl ?_
          refine r_ii_3_2 qX4_tallestTube_43 rfl rfl (nI_inc p) ?_
          refine r_goto (t := 9) qX4_tallestTube_46 (by decide) ?_
          have z := ih (p + 1) (by omega) (by omega); first | (rw [show sTall (i' n) (p + 1) = nI p from sArg_y rfl hc21] at z; exact z) | (rw [show sTall (i' n) (p + 1) = nI p from sArg_y2 rfl e0 (by omega) (decide_eq_true (Int32.not_le.mp hc34))] at z; exact z) | (rw [show sTall (i' n) (p + 1) = nI q0 from (sArg_n2 e0 (by omega) (fun h => (Int32.not_lt.mpr hc34) (of_decide_eq_true h))).trans e0] at z; exact z)
  refine r_aload_n qX4_tallestTube_0 rfl ?_
  refine r_iconst (v := nI 0) qX4_tallestTube_1 (by decide) ?_
  refine r_puti qX4_tallestTube_2 fX4_3 (Or.inl rfl) rfl rfl rfl (by assumption) ?_
  generalize hi : wA i x (upd (i x) 0 (nI 0)) = i' at hK ⊢
  have hn : i' n = i n := by rw [← hi]; exact wA_n nx
  clear hi
  have hO' : zOk (i' n) := by rw [hn]; exact hO
  refine r_iconst (v := (-1)) qX4_tallestTube_5 (by decide) ?_
  refine r_is_3_1 qX4_tallestTube_6 rfl rfl ?_
  refine r_iconst (v := nI 0) qX4_tallestTube_7 (by decide) ?_
  refine r_is_3_2 qX4_tallestTube_8 rfl rfl ?_
  exact KL i' hO' (by rw [hn]; exact hT) (by rw [hn]; exact hmm) (by rw [hn]; exact hK) m 0 (by omega) (by omega)
set_option maxHeartbeats 4000000 in
set_option maxRecDepth 20000 in
theorem c_X4_worstFit {E : Ev} {g : Sh} {i : Ni} {j : Nj} {K : Kp} {x n d b p s o : Nat}  (hB : zB g i x n d b p s o) (hK : K (.inl (some (.int (sWorst (i n) (zn (i n 5)))))) g (wA i x (upd (i x) 0 (nI 0))) j) : zCon E mX4_worstFit [.ref x] g i j K := by
  refine zcon_of (by decide +kernel) rfl rfl (lo := [.ref x, zJ, zJ]) rfl (fun X => ?_)
  have hB' := hB
  obtain ⟨hW, hR3, hO⟩ := hB
  have w1 := hW.1
  have w2 := hW.2.1
  have w8 := hW.2.2.2.2.2.2.2.1.1
  have w9 := hW.2.2.2.2.2.2.2.1.2
  have nx := hW.nx
  have hM' := hW.m hR3
  obtain ⟨hT, hT8⟩ := hO.T8
  generalize hmm : zn (i n 5) = m at *
  have KL : ∀ i' : Ni, zOk (i' n) → i' n 5 = nI m → zn (i' n 5) = m → K (.inl (some (.int (sWorst (i' n) m)))) g i' j → ∀ q p : Nat, q = m - p → p ≤ m → zR E mX4_worstFit (zZ E mX4_worstFit K) X 9 [.ref x, .int (sWorst (i' n) p), .int (nI p)] [] g i' j 0 0 := by
    intro i' hO' hT' hmm' hK' q
    induction q with
    | zero =>
      intro p hp hpm
      obtain rfl : p = m := by omega
      refine r_iload_n qX4_worstFit_9 rfl ?_
      refine r_aload_n qX4_worstFit_10 rfl ?_
      refine r_getr qX4_worstFit_11 fX4_17 rfl (by assumption) (by first | assumption | rfl) ?_
      refine r_iconst (v := nI 5) qX4_worstFit_14 (by decide) ?_
      refine r_ialdN qX4_worstFit_15 (by assumption) (by assumption) (by omega) rfl ?_
      rw [hT']
      refine r_icmp_ge (t := 57) qX4_worstFit_16 (by decide) (fun hc16 => ?_) (fun hc16 => absurd hc16 (fun h => h (nI_le (by omega) (by omega))))
      refine r_iload_n qX4_worstFit_57 rfl ?_
      refine r_iret qX4_worstFit_58 rfl rfl rfl rfl ?_
      exact hK'
    | succ q ih =>
      intro p hp hpm
      have hpl : p < m := by omega
      have hk' : p < zn (i' n 5) := by rw [hmm']; exact hpl
      have hf' := hO'.f hk'
      have h8 := hO'.k8 hk'
      refine r_iload_n qX4_worstFit_9 rfl ?_
      refine r_aload_n qX4_worstFit_10 rfl ?_
      refine r_getr qX4_worstFit_11 fX4_17 rfl (by assumption) (by first | assumption | rfl) ?_
      refine r_iconst (v := nI 5) qX4_worstFit_14 (by decide) ?_
      refine r_ialdN qX4_worstFit_15 (by assumption) (by assumption) (by omega) rfl ?_
      rw [hT']
      refine r_icmp_ge (t := 57) qX4_worstFit_16 (by decide) (fun hc16 => absurd hc16 (nI_ge hpl (by omega))) (fun hc16 => ?_)
      refine r_aload_n qX4_worstFit_19 rfl ?_
      refine r_iload_n qX4_worstFit_20 rfl ?_
      refine r_cv1 (cu2 := 0) (su2 := 0) qX4_worstFit_21 kX4_416 rfl (by decide +kernel) (c := 4) (by assumption) (by decide) rfl rfl rfl rfl rfl rfl ?_
      refine c_X4_isScaled (by first | assumption | omega | rfl | decide) (by first | assumption | omega | rfl | decide) (by first | assumption | omega | rfl | decide) ?_
      show zR E _ _ X 24 _ _ _ _ _ _ _
      refine r_if_eq (t := 49) qX4_worstFit_24 (by decide) (fun hc24 => ?_) (fun hc24 => ?_)
      · refine r_iload_n qX4_worstFit_49 rfl ?_
        refine r_is_3_1 qX4_worstFit_50 rfl rfl ?_
        refine r_ii_3_2 qX4_worstFit_51 rfl rfl (nI_inc p) ?_
        refine r_goto (t := 9) qX4_worstFit_54 (by decide) ?_
        have z := ih (p + 1) (by omega) (by omega); first | (rw [show sWorst (i' n) (p + 1) = sWorst (i' n) p from sArg_n1 (fun h => zb_0.mp hc24 (of_decide_eq_true h))] at z; exact z) | (rw [show sWorst (i' n) (p + 1) = nI p from sArg_y (decide_eq_true (zb_ne.mp hc24)) hc29] at z; exact z) | (rw [show sWorst (i' n) (p + 1) = nI p from sArg_y2 (decide_eq_true (zb_ne.mp hc24)) e0 (by omega) (decide_eq_true (Int32.not_le.mp hc42))] at z; exact z) | (rw [show sWorst (i' n) (p + 1) = nI q0 from (sArg_n2 e0 (by omega) (fun h => (Int32.not_lt.mpr hc42) (of_decide_eq_true h))).trans e0] at z; exact z)
      · refine r_iload_n qX4_worstFit_27 rfl ?_
        refine r_iconst (v := (-1)) qX4_worstFit_28 (by decide) ?_
        refine r_icmp_eq (t := 45) qX4_worstFit_29 (by decide) (fun hc29 => ?_) (fun hc29 => ?_)
        · refine r_iload_n qX4_worstFit_45 rfl ?_
          refine r_goto (t := 50) qX4_worstFit_46 (by decide) ?_
          refine r_is_3_1 qX4_worstFit_50 rfl rfl ?_
          refine r_ii_3_2 qX4_worstFit_51 rfl rfl (nI_inc p) ?_
          refine r_goto (t := 9) qX4_worstFit_54 (by decide) ?_
          have z := ih (p + 1) (by omega) (by omega); first | (rw [show sWorst (i' n) (p + 1) = sWorst (i' n) p from sArg_n1 (fun h => zb_0.mp hc24 (of_decide_eq_true h))] at z; exact z) | (rw [show sWorst (i' n) (p + 1) = nI p from sArg_y (decide_eq_true (zb_ne.mp hc24)) hc29] at z; exact z) | (rw [show sWorst (i' n) (p + 1) = nI p from sArg_y2 (decide_eq_true (zb_ne.mp hc24)) e0 (by omega) (decide_eq_true (Int32.not_le.mp hc42))] at z; exact z) | (rw [show sWorst (i' n) (p + 1) = nI q0 from (sArg_n2 e0 (by omega) (fun h => (Int32.not_lt.mpr hc42) (of_decide_eq_true h))).trans e0] at z; exact z)
        · obtain ⟨q0, hq0, hok0, e0⟩ := (sArg_c (by omega)).resolve_left (show ¬ sArg _ _ p = -1 from hc29); change sWorst (i' n) p = nI q0 at e0; rw [e0]; have hk0 : q0 < zn (i' n 5) := by (rw [hmm']; omega)
          have hf0 := hO'.f hk0
          have h20 : 2 ≤ sMany (i' n) q0 := of_decide_eq_true hok0
          refine r_aload_n qX4_worstFit_32 rfl ?_
          refine r_iload_n qX4_worstFit_33 rfl ?_
          refine r_cv1 (cu2 := 0) (su2 := 0) qX4_worstFit_34 kX4_430 rfl (by decide +kernel) (c := 4) (by assumption) (by decide) rfl rfl rfl rfl rfl rfl ?_
          refine c_X4_fitOf hM' hO' hk' (zb_ne.mp hc24) ?_
          show zR E _ _ X 37 _ _ _ _ _ _ _
          refine r_aload_n qX4_worstFit_37 rfl ?_
          refine r_iload_n qX4_worstFit_38 rfl ?_
          refine r_cv1 (cu2 := 0) (su2 := 0) qX4_worstFit_39 kX4_430 rfl (by decide +kernel) (c := 4) (by assumption) (by decide) rfl rfl rfl rfl rfl rfl ?_
          refine c_X4_fitOf hM' hO' hk0 h20 ?_
          show zR E _ _ X 42 _ _ _ _ _ _ _
          refine r_icmp_le (t := 49) qX4_worstFit_42 (by decide) (fun hc42 => ?_) (fun hc42 => ?_)
          · refine r_iload_n qX4_worstFit_49 rfl ?_
            refine r_is_3_1 qX4_worstFit_50 rfl rfl ?_
            refine r_ii_3_2 qX4_worstFit_51 rfl rfl (nI_inc p) ?_
            refine r_goto (t := 9) qX4_worstFit_54 (by decide) ?_
            have z := ih (p + 1) (by omega) (by omega); first | (rw [show sWorst (i' n) (p + 1) = sWorst (i' n) p from sArg_n1 (fun h => zb_0.mp hc24 (of_decide_eq_true h))] at z; exact z) | (rw [show sWorst (i' n) (p + 1) = nI p from sArg_y (decide_eq_true (zb_ne.mp hc24)) hc29] at z; exact z) | (rw [show sWorst (i' n) (p + 1) = nI p from sArg_y2 (decide_eq_true (zb_ne.mp hc24)) e0 (by omega) (decide_eq_true (Int32.not_le.mp hc42))] at z; exact z) | (rw [show sWorst (i' n) (p + 1) = nI q0 from (sArg_n2 e0 (by omega) (fun h => (Int32.not_lt.mpr hc42) (of_decide_eq_true h))).trans e0] at z; exact z)
          · refine r_iload_n qX4_worstFit_45 rfl ?_
            refine r_goto (t := 50) qX4_worstFit_46 (by decide) ?_
            refine r_is_3_1 qX4_worstFit_50 rfl rfl ?_
            refine r_ii_3_2 qX4_worstFit_51 rfl rfl (nI_inc p) ?_
            refine r_goto (t := 9) qX4_worstFit_54 (by decide) ?_
            have z := ih (p + 1) (by omega) (by omega); first | (rw [show sWorst (i' n) (p + 1) = sWorst (i' n) p from sArg_n1 (fun h => zb_0.mp hc24 (of_decide_eq_true h))] at z; exact z) | (rw [show sWorst (i' n) (p + 1) = nI p from sArg_y (decide_eq_true (zb_ne.mp hc24)) hc29] at z; exact z) | (rw [show sWorst (i' n) (p + 1) = nI p from sArg_y2 (decide_eq_true (zb_ne.mp hc24)) e0 (by omega) (decide_eq_true (Int32.not_le.mp hc42))] at z; exact z) | (rw [show sWorst (i' n) (p + 1) = nI q0 from (sArg_n2 e0 (by omega) (fun h => (Int32.not_lt.mpr hc42) (of_decide_eq_true h))).trans e0] at z; exact z)
  refine r_aload_n qX4_worstFit_0 rfl ?_
  refine r_iconst (v := nI 0) qX4_worstFit_1 (by decide) ?_
  refine r_puti qX4_worstFit_2 fX4_3 (Or.inl rfl) rfl rfl rfl (by assumption) ?_
  generalize hi : wA i x (upd (i x) 0 (nI 0)) = i' at hK ⊢
  have hn : i' n = i n := by rw [← hi]; exact wA_n nx
  clear hi
  have hO' : zOk (i' n) := by rw [hn]; exact hO
  refine r_iconst (v := (-1)) qX4_worstFit_5 (by decide) ?_
  refine r_is_3_1 qX4_worstFit_6 rfl rfl ?_
  refine r_iconst (v := nI 0) qX4_worstFit_7 (by decide) ?_
  refine r_is_3_2 qX4_worstFit_8 rfl rfl ?_
  exact KL i' hO' (by rw [hn]; exact hT) (by rw [hn]; exact hmm) (by rw [hn]; exact hK) m 0 (by omega) (by omega)
set_option maxHeartbeats 4000000 in
set_option maxRecDepth 20000 in
theorem c_X4_spread {E : Ev} {g : Sh} {i : Ni} {j : Nj} {K : Kp} {x n d b p s o : Nat}  (hB : zB g i x n d b p s o) (hK : K (.inl (some (.int (if sMost (i n) (zn (i n 5)) < sLeast (i n) (zn (i n 5)) then nI 0 else sMost (i n) (zn (i n 5)) - sLeast (i n) (zn (i n 5)))))) g (wA i x (upd (i x) 0 (nI 0))) j) : zCon E mX4_spread [.ref x] g i j K := by
  refine zcon_of (by decide +kernel) rfl rfl (lo := [.ref x, zJ, zJ, zJ]) rfl (fun X => ?_)
  have hB' := hB
  obtain ⟨hW, hR3, hO⟩ := hB
  have w1 := hW.1
  have w2 := hW.2.1
  have w8 := hW.2.2.2.2.2.2.2.1.1
  have w9 := hW.2.2.2.2.2.2.2.1.2
  have nx := hW.nx
  have hM' := hW.m hR3
  obtain ⟨hT, hT8⟩ := hO.T8
  generalize hmm : zn (i n 5) = m at *
  have KL : ∀ i' : Ni, zOk (i' n) → i' n 5 = nI m → zn (i' n 5) = m → K (.inl (some (.int (if sMost (i' n) m < sLeast (i' n) m then nI 0 else sMost (i' n) m - sLeast (i' n) m)))) g i' j → ∀ q p : Nat, q = m - p → p ≤ m → zR E mX4_spread (zZ E mX4_spread K) X 15 [.ref x, .int (sMost (i' n) p), .int (sLeast (i' n) p), .int (nI p)] [] g i' j 0 0 := by
    intro i' hO' hT' hmm' hK' q
    induction q with
    | zero =>
      intro p hp hpm
      obtain rfl : p = m := by omega
      refine r_iload_n qX4_spread_15 rfl ?_
      refine r_aload_n qX4_spread_16 rfl ?_
      refine r_getr qX4_spread_17 fX4_17 rfl (by assumption) (by first | assumption | rfl) ?_
      refine r_iconst (v := nI 5) qX4_spread_20 (by decide) ?_
      refine r_ialdN qX4_spread_21 (by assumption) (by assumption) (by omega) rfl ?_
      rw [hT']
      refine r_icmp_ge (t := 75) qX4_spread_22 (by decide) (fun hc22 => ?_) (fun hc22 => absurd hc22 (fun h => h (nI_le (by omega) (by omega))))
      refine r_iload_n qX4_spread_75 rfl ?_
      refine r_iload_n qX4_spread_76 rfl ?_
      refine r_icmp_ge (t := 84) qX4_spread_77 (by decide) (fun hc77 => ?_) (fun hc77 => ?_)
      · refine r_iload_n qX4_spread_84 rfl ?_
        refine r_iload_n qX4_spread_85 rfl ?_
        refine r_isub qX4_spread_86 ?_
        refine r_iret qX4_spread_87 rfl rfl rfl rfl ?_
        first | (rw [if_neg (Int32.not_lt.mpr hc77)] at hK'; exact hK') | (rw [if_pos (Int32.not_le.mp hc77)] at hK'; exact hK')
      · refine r_iconst (v := nI 0) qX4_spread_80 (by decide) ?_
        refine r_goto (t := 87) qX4_spread_81 (by decide) ?_
        refine r_iret qX4_spread_87 rfl rfl rfl rfl ?_
        first | (rw [if_neg (Int32.not_lt.mpr hc77)] at hK'; exact hK') | (rw [if_pos (Int32.not_le.mp hc77)] at hK'; exact hK')
    | succ q ih =>
      intro p hp hpm
      have hpl : p < m := by omega
      have hk' : p < zn (i' n 5) := by rw [hmm']; exact hpl
      have hf' := hO'.f hk'
      have h8 := hO'.k8 hk'
      refine r_iload_n qX4_spread_15 rfl ?_
      refine r_aload_n qX4_spread_16 rfl ?_
      refine r_getr qX4_spread_17 fX4_17 rfl (by assumption) (by first | assumption | rfl) ?_
      refine r_iconst (v := nI 5) qX4_spread_20 (by decide) ?_
      refine r_ialdN qX4_spread_21 (by assumption) (by assumption) (by omega) rfl ?_
      rw [hT']
      refine r_icmp_ge (t := 75) qX4_spread_22 (by decide) (fun hc22 => absurd hc22 (nI_ge hpl (by omega))) (fun hc22 => ?_)
      refine r_aload_n qX4_spread_25 rfl ?_
      refine r_iload_n qX4_spread_26 rfl ?_
      refine r_cv1 (cu2 := 0) (su2 := 0) qX4_spread_27 kX4_416 rfl (by decide +kernel) (c := 4) (by assumption) (by decide) rfl rfl rfl rfl rfl rfl ?_
      refine c_X4_isScaled (by first | assumption | omega | rfl | decide) (by first | assumption | omega | rfl | decide) (by first | assumption | omega | rfl | decide) ?_
      show zR E _ _ X 30 _ _ _ _ _ _ _
      refine r_if_eq (t := 45) qX4_spread_30 (by decide) (fun hc30 => ?_) (fun hc30 => ?_)
      · refine r_iload_n qX4_spread_45 rfl ?_
        refine r_is_4_1 qX4_spread_46 rfl rfl ?_
        refine r_aload_n qX4_spread_47 rfl ?_
        refine r_iload_n qX4_spread_48 rfl ?_
        refine r_cv1 (cu2 := 0) (su2 := 0) qX4_spread_49 kX4_416 rfl (by decide +kernel) (c := 4) (by assumption) (by decide) rfl rfl rfl rfl rfl rfl ?_
        refine c_X4_isScaled (by first | assumption | omega | rfl | decide) (by first | assumption | omega | rfl | decide) (by first | assumption | omega | rfl | decide) ?_
        show zR E _ _ X 52 _ _ _ _ _ _ _
        refine r_if_eq (t := 67) qX4_spread_52 (by decide) (fun hc52 => ?_) (fun hc52 => ?_)
        · refine r_iload_n qX4_spread_67 rfl ?_
          refine r_is_4_2 qX4_spread_68 rfl rfl ?_
          refine r_ii_4_3 qX4_spread_69 rfl rfl (nI_inc p) ?_
          refine r_goto (t := 15) qX4_spread_72 (by decide) ?_
          have z := ih (p + 1) (by omega) (by omega); rw [sMost, sLeast] at z; first | (rw [if_pos (zb_ne.mp hc30), if_pos (zb_ne.mp hc30)] at z; exact z) | (rw [if_neg (zb_0.mp hc30), if_neg (zb_0.mp hc30)] at z; exact z) | exact absurd (zb_ne.mp hc30) (zb_0.mp hc52) | exact absurd (zb_ne.mp hc52) (zb_0.mp hc30)
        · refine r_iload_n qX4_spread_55 rfl ?_
          refine r_aload_n qX4_spread_56 rfl ?_
          refine r_iload_n qX4_spread_57 rfl ?_
          refine r_cv1 (cu2 := 0) (su2 := 0) qX4_spread_58 kX4_422 rfl (by decide +kernel) (c := 4) (by assumption) (by decide) rfl rfl rfl rfl rfl rfl ?_
          refine c_X4_readNow hM' hO' hk' (zb_ne.mp hc52) ?_
          show zR E _ _ X 61 _ _ _ _ _ _ _
          refine r_mmin qX4_spread_61 kX4_161 rfl rfl rfl rfl ?_
          refine r_goto (t := 68) qX4_spread_64 (by decide) ?_
          refine r_is_4_2 qX4_spread_68 rfl rfl ?_
          refine r_ii_4_3 qX4_spread_69 rfl rfl (nI_inc p) ?_
          refine r_goto (t := 15) qX4_spread_72 (by decide) ?_
          have z := ih (p + 1) (by omega) (by omega); rw [sMost, sLeast] at z; first | (rw [if_pos (zb_ne.mp hc30), if_pos (zb_ne.mp hc30)] at z; exact z) | (rw [if_neg (zb_0.mp hc30), if_neg (zb_0.mp hc30)] at z; exact z) | exact absurd (zb_ne.mp hc30) (zb_0.mp hc52) | exact absurd (zb_ne.mp hc52) (zb_0.mp hc30)
      · refine r_iload_n qX4_spread_33 rfl ?_
        refine r_aload_n qX4_spread_34 rfl ?_
        refine r_iload_n qX4_spread_35 rfl ?_
        refine r_cv1 (cu2 := 0) (su2 := 0) qX4_spread_36 kX4_422 rfl (by decide +kernel) (c := 4) (by assumption) (by decide) rfl rfl rfl rfl rfl rfl ?_
        refine c_X4_readNow hM' hO' hk' (zb_ne.mp hc30) ?_
        show zR E _ _ X 39 _ _ _ _ _ _ _
        refine r_mmax qX4_spread_39 kX4_201 rfl rfl rfl rfl ?_
        refine r_goto (t := 46) qX4_spread_42 (by decide) ?_
        refine r_is_4_1 qX4_spread_46 rfl rfl ?_
        refine r_aload_n qX4_spread_47 rfl ?_
        refine r_iload_n qX4_spread_48 rfl ?_
        refine r_cv1 (cu2 := 0) (su2 := 0) qX4_spread_49 kX4_416 rfl (by decide +kernel) (c := 4) (by assumption) (by decide) rfl rfl rfl rfl rfl rfl ?_
        refine c_X4_isScaled (by first | assumption | omega | rfl | decide) (by first | assumption | omega | rfl | decide) (by first | assumption | omega | rfl | decide) ?_
        show zR E _ _ X 52 _ _ _ _ _ _ _
        refine r_if_eq (t := 67) qX4_spread_52 (by decide) (fun hc52 => ?_) (fun hc52 => ?_)
        · refine r_iload_n qX4_spread_67 rfl ?_
          refine r_is_4_2 qX4_spread_68 rfl rfl ?_
          refine r_ii_4_3 qX4_spread_69 rfl rfl (nI_inc p) ?_
          refine r_goto (t := 15) qX4_spread_72 (by decide) ?_
          have z := ih (p + 1) (by omega) (by omega); rw [sMost, sLeast] at z; first | (rw [if_pos (zb_ne.mp hc30), if_pos (zb_ne.mp hc30)] at z; exact z) | (rw [if_neg (zb_0.mp hc30), if_neg (zb_0.mp hc30)] at z; exact z) | exact absurd (zb_ne.mp hc30) (zb_0.mp hc52) | exact absurd (zb_ne.mp hc52) (zb_0.mp hc30)
        · refine r_iload_n qX4_spread_55 rfl ?_
          refine r_aload_n qX4_spread_56 rfl ?_
          refine r_iload_n qX4_spread_57 rfl ?_
          refine r_cv1 (cu2 := 0) (su2 := 0) qX4_spread_58 kX4_422 rfl (by decide +kernel) (c := 4) (by assumption) (by decide) rfl rfl rfl rfl rfl rfl ?_
          refine c_X4_readNow hM' hO' hk' (zb_ne.mp hc52) ?_
          show zR E _ _ X 61 _ _ _ _ _ _ _
          refine r_mmin qX4_spread_61 kX4_161 rfl rfl rfl rfl ?_
          refine r_goto (t := 68) qX4_spread_64 (by decide) ?_
          refine r_is_4_2 qX4_spread_68 rfl rfl ?_
          refine r_ii_4_3 qX4_spread_69 rfl rfl (nI_inc p) ?_
          refine r_goto (t := 15) qX4_spread_72 (by decide) ?_
          have z := ih (p + 1) (by omega) (by omega); rw [sMost, sLeast] at z; first | (rw [if_pos (zb_ne.mp hc30), if_pos (zb_ne.mp hc30)] at z; exact z) | (rw [if_neg (zb_0.mp hc30), if_neg (zb_0.mp hc30)] at z; exact z) | exact absurd (zb_ne.mp hc30) (zb_0.mp hc52) | exact absurd (zb_ne.mp hc52) (zb_0.mp hc30)
  refine r_aload_n qX4_spread_0 rfl ?_
  refine r_iconst (v := nI 0) qX4_spread_1 (by decide) ?_
  refine r_puti qX4_spread_2 fX4_3 (Or.inl rfl) rfl rfl rfl (by assumption) ?_
  generalize hi : wA i x (upd (i x) 0 (nI 0)) = i' at hK ⊢
  have hn : i' n = i n := by rw [← hi]; exact wA_n nx
  clear hi
  have hO' : zOk (i' n) := by rw [hn]; exact hO
  refine r_ldciw qX4_spread_5 lX4_438 ?_
  refine r_is_4_1 qX4_spread_8 rfl rfl ?_
  refine r_ldciw qX4_spread_9 lX4_439 ?_
  refine r_is_4_2 qX4_spread_12 rfl rfl ?_
  refine r_iconst (v := nI 0) qX4_spread_13 (by decide) ?_
  refine r_is_4_3 qX4_spread_14 rfl rfl ?_
  exact KL i' hO' (by rw [hn]; exact hT) (by rw [hn]; exact hmm) (by rw [hn]; exact hK) m 0 (by omega) (by omega)
set_option maxHeartbeats 4000000 in
set_option maxRecDepth 20000 in
theorem c_X4_bathsToMark {E : Ev} {g : Sh} {i : Ni} {j : Nj} {K : Kp} {x n d b p s o : Nat} {t : Int32} (hB : zB g i x n d b p s o) (hK : K (.inl (some (.int (if tv (i n 5) t then sNew (i n) (zn t) (zn (i n 4)) else nI 0)))) g (wA i x (upd (i x) 0 (c3 (tv (i n 5) t) True True))) j) : zCon E mX4_bathsToMark [.ref x, .int t] g i j K := by
  refine zcon_of (by decide +kernel) rfl rfl (lo := [.ref x, .int t, zJ, zJ]) rfl (fun X => ?_)
  have hB' := hB
  obtain ⟨hW, hR3, hO⟩ := hB
  have w1 := hW.1
  have w2 := hW.2.1
  have w8 := hW.2.2.2.2.2.2.2.1.1
  have w9 := hW.2.2.2.2.2.2.2.1.2
  have nx := hW.nx
  have hM' := hW.m hR3
  obtain ⟨hT, hT8⟩ := hO.B4
  generalize hmm : zn (i n 4) = m at *
  have KL : ∀ i' : Ni, zOk (i' n) → i' n 4 = nI m → zn (i' n 4) = m → ∀ kt : Nat, kt < zn (i' n 5) → K (.inl (some (.int (sNew (i' n) kt m)))) g i' j → ∀ q p : Nat, q = m - p → p ≤ m → zR E mX4_bathsToMark (zZ E mX4_bathsToMark K) X 18 [.ref x, .int (nI kt), .int (sNew (i' n) kt p), .int (nI p)] [] g i' j 0 0 := by
    intro i' hO' hT' hmm' kt he hK' q
    induction q with
    | zero =>
      intro p hp hpm
      obtain rfl : p = m := by omega
      refine r_iload_n qX4_bathsToMark_18 rfl ?_
      refine r_aload_n qX4_bathsToMark_19 rfl ?_
      refine r_getr qX4_bathsToMark_20 fX4_17 rfl (by assumption) (by first | assumption | rfl) ?_
      refine r_iconst (v := nI 4) qX4_bathsToMark_23 (by decide) ?_
      refine r_ialdN qX4_bathsToMark_24 (by assumption) (by assumption) (by omega) rfl ?_
      rw [hT']
      refine r_icmp_ge (t := 56) qX4_bathsToMark_25 (by decide) (fun hc25 => ?_) (fun hc25 => absurd hc25 (fun h => h (nI_le (by omega) (by omega))))
      refine r_iload_n qX4_bathsToMark_56 rfl ?_
      refine r_iret qX4_bathsToMark_57 rfl rfl rfl rfl ?_
      exact hK'
    | succ q ih =>
      intro p hp hpm
      have hpl : p < m := by omega
      have hk' := he
      have h8 := hO'.k8 hk'
      refine r_iload_n qX4_bathsToMark_18 rfl ?_
      refine r_aload_n qX4_bathsToMark_19 rfl ?_
      refine r_getr qX4_bathsToMark_20 fX4_17 rfl (by assumption) (by first | assumption | rfl) ?_
      refine r_iconst (v := nI 4) qX4_bathsToMark_23 (by decide) ?_
      refine r_ialdN qX4_bathsToMark_24 (by assumption) (by assumption) (by omega) rfl ?_
      rw [hT']
      refine r_icmp_ge (t := 56) qX4_bathsToMark_25 (by decide) (fun hc25 => absurd hc25 (nI_ge hpl (by omega))) (fun hc25 => ?_)
      refine r_iload_n qX4_bathsToMark_28 rfl ?_
      refine r_aload_n qX4_bathsToMark_29 rfl ?_
      refine r_iload_n qX4_bathsToMark_30 rfl ?_
      refine r_aload_n qX4_bathsToMark_31 rfl ?_
      refine r_iload_n qX4_bathsToMark_32 rfl ?_
      refine r_iconst (v := nI 2) qX4_bathsToMark_33 (by decide) ?_
      refine r_cv2 (cu2 := 0) (su2 := 0) qX4_bathsToMark_34 kX4_166 rfl (by decide +kernel) (c := 4) (by assumption) (by decide) rfl rfl rfl rfl rfl rfl ?_
      refine c_X4_ofBath (by first | assumption | omega | rfl | decide) (by first | assumption | omega | rfl | decide) ?_
      show zR E _ _ X 37 _ _ _ _ _ _ _
      refine r_cv2 (cu2 := 0) (su2 := 0) qX4_bathsToMark_37 kX4_182 rfl (by decide +kernel) (c := 4) (by assumption) (by decide) rfl rfl rfl rfl rfl rfl ?_
      refine c_X4_hasDegrees (by first | assumption | omega | rfl | decide) (by first | assumption | omega | rfl | decide) (by first | assumption | omega | rfl | decide) ?_
      show zR E _ _ X 40 _ _ _ _ _ _ _
      refine r_if_eq (t := 47) qX4_bathsToMark_40 (by decide) (fun hc40 => ?_) (fun hc40 => ?_)
      · refine r_iconst (v := nI 1) qX4_bathsToMark_47 (by decide) ?_
        first | with_reducible refine r_iaddN qX4_bathsToMark_48 ?_ | refine r_iadd qX4_bathsToMark_48 ?_
        refine r_is_4_2 qX4_bathsToMark_49 rfl rfl ?_
        refine r_ii_4_3 qX4_bathsToMark_50 rfl rfl (nI_inc p) ?_
        refine r_goto (t := 18) qX4_bathsToMark_53 (by decide) ?_
        have z := ih (p + 1) (by omega) (by omega); rw [sNew] at z; first | (rw [if_neg (zb_0.mp hc40)] at z; exact z) | (rw [if_pos (zb_ne.mp hc40)] at z; exact z)
      · refine r_iconst (v := nI 0) qX4_bathsToMark_43 (by decide) ?_
        refine r_goto (t := 48) qX4_bathsToMark_44 (by decide) ?_
        first | with_reducible refine r_iaddN qX4_bathsToMark_48 ?_ | refine r_iadd qX4_bathsToMark_48 ?_
        refine r_is_4_2 qX4_bathsToMark_49 rfl rfl ?_
        refine r_ii_4_3 qX4_bathsToMark_50 rfl rfl (nI_inc p) ?_
        refine r_goto (t := 18) qX4_bathsToMark_53 (by decide) ?_
        have z := ih (p + 1) (by omega) (by omega); rw [sNew] at z; first | (rw [if_neg (zb_0.mp hc40)] at z; exact z) | (rw [if_pos (zb_ne.mp hc40)] at z; exact z)
  obtain ⟨hT2, hT28⟩ := hO.T8
  refine r_aload_n qX4_bathsToMark_0 rfl ?_
  refine r_aload_n qX4_bathsToMark_1 rfl ?_
  refine r_iload_n qX4_bathsToMark_2 rfl ?_
  refine r_cv1 (cu2 := 0) (su2 := 0) qX4_bathsToMark_3 kX4_396 rfl (by decide +kernel) (c := 4) (by assumption) (by decide) rfl rfl rfl rfl rfl rfl ?_
  refine c_X4_hasTube (by first | assumption | omega | rfl | decide) (by first | assumption | omega | rfl | decide) (by first | assumption | omega | rfl | decide) ?_
  show zR E _ _ X 6 _ _ _ _ _ _ _
  refine r_cv1 (cu2 := 0) (su2 := 0) qX4_bathsToMark_6 kX4_371 rfl (by decide +kernel) (c := 4) (by assumption) (by decide) rfl rfl rfl rfl rfl rfl ?_
  refine c_X4_passes1 (by first | assumption | omega | rfl | decide) ?_
  show zR E _ _ X 9 _ _ _ _ _ _ _
  generalize hi : wA i x (upd (i x) 0 (c3 (tv (i n 5) t) True True)) = i' at hK ⊢
  have hn : i' n = i n := by rw [← hi]; exact wA_n nx
  clear hi
  have hO' : zOk (i' n) := by rw [hn]; exact hO
  refine r_if_ne (t := 14) qX4_bathsToMark_9 (by decide) (fun hc9 => ?_) (fun hc9 => ?_)
  · have hv := zb_ne.mp hc9; rw [if_pos hv] at hK; obtain ⟨et, hk⟩ := tv_nat hv; clear hc9; generalize zn t = kt0 at *; subst et
    refine r_iconst (v := nI 0) qX4_bathsToMark_14 (by decide) ?_
    refine r_is_4_2 qX4_bathsToMark_15 rfl rfl ?_
    refine r_iconst (v := nI 0) qX4_bathsToMark_16 (by decide) ?_
    refine r_is_4_3 qX4_bathsToMark_17 rfl rfl ?_
    exact KL i' hO' (by rw [hn]; exact hT) (by rw [hn]; exact hmm) kt0 (by rw [hn]; exact hk) (by rw [hn]; exact hK) m 0 (by omega) (by omega)
  · rw [if_neg (zb_0.mp hc9)] at hK
    refine r_iconst (v := nI 0) qX4_bathsToMark_12 (by decide) ?_
    refine r_iret qX4_bathsToMark_13 rfl rfl rfl rfl ?_
    exact hK
set_option maxHeartbeats 4000000 in
set_option maxRecDepth 20000 in
theorem c_X4_spiritDifference {E : Ev} {g : Sh} {i : Ni} {j : Nj} {K : Kp} {x n d b p s o : Nat}  (hB : zB g i x n d b p s o) (hK : K (.inl (some (.int (sRest (i n) (i n 8 - sLost (i n) (zn (i n 3))) (zn (i n 5)))))) g (wA i x (upd (i x) 0 (nI 0))) j) : zCon E mX4_spiritDifference [.ref x] g i j K := by
  refine zcon_of (by decide +kernel) rfl rfl (lo := [.ref x, zJ, zJ]) rfl (fun X => ?_)
  have hB' := hB
  obtain ⟨hW, hR3, hO⟩ := hB
  have w1 := hW.1
  have w2 := hW.2.1
  have w8 := hW.2.2.2.2.2.2.2.1.1
  have w9 := hW.2.2.2.2.2.2.2.1.2
  have nx := hW.nx
  have hM' := hW.m hR3
  obtain ⟨hT, hT8⟩ := hO.T8
  generalize hmm : zn (i n 5) = m at *
  have KL : ∀ i' : Ni, zOk (i' n) → i' n 5 = nI m → zn (i' n 5) = m → K (.inl (some (.int (sRest (i' n) (i' n 8 - sLost (i' n) (zn (i' n 3))) m)))) g i' j → ∀ q p : Nat, q = m - p → p ≤ m → zR E mX4_spiritDifference (zZ E mX4_spiritDifference K) X 20 [.ref x, .int (sRest (i' n) (i' n 8 - sLost (i' n) (zn (i' n 3))) p), .int (nI p)] [] g i' j 0 0 := by
    intro i' hO' hT' hmm' hK' q
    induction q with
    | zero =>
      intro p hp hpm
      obtain rfl : p = m := by omega
      refine r_iload_n qX4_spiritDifference_20 rfl ?_
      refine r_aload_n qX4_spiritDifference_21 rfl ?_
      refine r_getr qX4_spiritDifference_22 fX4_17 rfl (by assumption) (by first | assumption | rfl) ?_
      refine r_iconst (v := nI 5) qX4_spiritDifference_25 (by decide) ?_
      refine r_ialdN qX4_spiritDifference_26 (by assumption) (by assumption) (by omega) rfl ?_
      rw [hT']
      refine r_icmp_ge (t := 45) qX4_spiritDifference_27 (by decide) (fun hc27 => ?_) (fun hc27 => absurd hc27 (fun h => h (nI_le (by omega) (by omega))))
      refine r_iload_n qX4_spiritDifference_45 rfl ?_
      refine r_iret qX4_spiritDifference_46 rfl rfl rfl rfl ?_
      exact hK'
    | succ q ih =>
      intro p hp hpm
      have hpl : p < m := by omega
      have hk' : p < zn (i' n 5) := by rw [hmm']; exact hpl
      have hf' := hO'.f hk'
      have h8 := hO'.k8 hk'
      refine r_iload_n qX4_spiritDifference_20 rfl ?_
      refine r_aload_n qX4_spiritDifference_21 rfl ?_
      refine r_getr qX4_spiritDifference_22 fX4_17 rfl (by assumption) (by first | assumption | rfl) ?_
      refine r_iconst (v := nI 5) qX4_spiritDifference_25 (by decide) ?_
      refine r_ialdN qX4_spiritDifference_26 (by assumption) (by assumption) (by omega) rfl ?_
      rw [hT']
      refine r_icmp_ge (t := 45) qX4_spiritDifference_27 (by decide) (fun hc27 => absurd hc27 (nI_ge hpl (by omega))) (fun hc27 => ?_)
      refine r_iload_n qX4_spiritDifference_30 rfl ?_
      refine r_aload_n qX4_spiritDifference_31 rfl ?_
      refine r_iload_n qX4_spiritDifference_32 rfl ?_
      refine r_iconst (v := nI 4) qX4_spiritDifference_33 (by decide) ?_
      refine r_cv2 (cu2 := 0) (su2 := 0) qX4_spiritDifference_34 kX4_148 rfl (by decide +kernel) (c := 4) (by assumption) (by decide) rfl rfl rfl rfl rfl rfl ?_
      refine c_X4_of (by first | assumption | omega | rfl | decide) (by first | assumption | omega | rfl | decide) ?_
      show zR E _ _ X 37 _ _ _ _ _ _ _
      refine r_isub qX4_spiritDifference_37 ?_
      refine r_is_3_1 qX4_spiritDifference_38 rfl rfl ?_
      refine r_ii_3_2 qX4_spiritDifference_39 rfl rfl (nI_inc p) ?_
      refine r_goto (t := 20) qX4_spiritDifference_42 (by decide) ?_
      exact ih (p + 1) (by omega) (by omega)
  refine r_aload_n qX4_spiritDifference_0 rfl ?_
  refine r_iconst (v := nI 0) qX4_spiritDifference_1 (by decide) ?_
  refine r_puti qX4_spiritDifference_2 fX4_3 (Or.inl rfl) rfl rfl rfl (by assumption) ?_
  generalize hi : wA i x (upd (i x) 0 (nI 0)) = i' at hK ⊢
  have hn : i' n = i n := by rw [← hi]; exact wA_n nx
  clear hi
  have hO' : zOk (i' n) := by rw [hn]; exact hO
  refine r_aload_n qX4_spiritDifference_5 rfl ?_
  refine r_getr qX4_spiritDifference_6 fX4_17 rfl (by assumption) (by first | assumption | rfl) ?_
  refine r_bipush (v := nI 8) qX4_spiritDifference_9 (by decide) ?_
  refine r_ialdN qX4_spiritDifference_11 (by assumption) (by assumption) (by omega) rfl ?_
  refine r_aload_n qX4_spiritDifference_12 rfl ?_
  refine r_cv0 (cu2 := 0) (su2 := 0) qX4_spiritDifference_13 kX4_451 rfl (by decide +kernel) (c := 4) (by assumption) (by decide) rfl rfl rfl rfl rfl rfl ?_
  refine c_X4_lostAll hM' hO'.S5.1 hO'.S5.2 ?_
  show zR E _ _ X 16 _ _ _ _ _ _ _
  refine r_isub qX4_spiritDifference_16 ?_
  refine r_is_3_1 qX4_spiritDifference_17 rfl rfl ?_
  refine r_iconst (v := nI 0) qX4_spiritDifference_18 (by decide) ?_
  refine r_is_3_2 qX4_spiritDifference_19 rfl rfl ?_
  exact KL i' hO' (by rw [hn]; exact hT) (by rw [hn]; exact hmm) (by rw [hn]; exact hK) m 0 (by omega) (by omega)

